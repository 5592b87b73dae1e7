/-! the reference's pairs -/
def z_up2 (P : Nat → Option Nat) (a b : Nat) : Nat → Option Nat := fun i => if i = b then some a else if i = a then some b else P i
noncomputable def z_po (mt : Nat → Nat → Prop) (od : Nat → Nat) (n k : Nat) (P : Nat → Option Nat) : Option Nat := match z_sc (fun i => P (od i) = none ∧ ¬ mt (od k) (od i)) od n (n - 1 - k) with | none => z_sc (fun i => P (od i) = none) od n (n - 1 - k) | some f => some f
def z_p1 (P : Nat → Option Nat) (one : Nat) (a o : Option Nat) : Nat → Option Nat := match a, o with
  | none, some f => z_up2 P one f
  | _, _ => P
theorem z_p1_s (P : Nat → Option Nat) (one q : Nat) (o : Option Nat) : z_p1 P one (some q) o = P := by cases o <;> rfl
noncomputable def z_pp (mt : Nat → Nat → Prop) (od : Nat → Nat) (n : Nat) : Nat → Nat → Option Nat
  | 0 => fun _ => none
  | k + 1 => z_p1 (z_pp mt od n k) (od k) (z_pp mt od n k (od k)) (z_po mt od n k (z_pp mt od n k))
section PR7
variable {G : z_G} {F : Nat → Prop} {A : z_TA} {M : z_TM} {w : z_W}
theorem z_po_lt {mt : Nat → Nat → Prop} {od : Nat → Nat} {n k : Nat} {P : Nat → Option Nat} (ho : ∀ i, i < n → od i < n) (hn : 0 < n) {f : Nat} (h : z_po mt od n k P = some f) : f < n := by
  unfold z_po at h
  cases h2 : z_sc (fun i => P (od i) = none ∧ ¬ mt (od k) (od i)) od n (n - 1 - k) with
  | none => rw [h2] at h; exact z_sc_lt ho hn _ _ h
  | some f' => rw [h2] at h; cases h; exact z_sc_lt ho hn _ _ h2
theorem iX6_pairs {Z : z_Gq} {w0 : z_W} (h6 : M 6 0 = 0 ∨ M 6 0 = 1) {e : Nat} (he : M 5 0 - M 6 0 = nI e) (h60 : e ≤ 60) {n : Nat} {od : Nat → Nat} (h0 : M 0 0 = nI n) (hn : n ≤ 8) (ho : ∀ i, i < n → M 19 i = nI (od i) ∧ od i < n) (kk : ∀ M' w' x1 x2 x3 x4 x5 x6, z_Mo G F A M' w' → z_fr F w0 w' → (∀ f, f ≠ 20 → M' f = M f) → (∀ p, p < n → M' 20 p = z_fi (z_pp (fun a b => z_mt M e (nI a) (nI b)) od n n p)) → z_E G zX6_pairs 2 Z 172 [some (.ref (A 22 0 0)), x1, x2, x3, x4, x5, x6] [] w' 0 0) : ∀ m i : Nat, n - i = m → i ≤ n → ∀ (M' : z_TM) (w : z_W) x2 x3 x4 x5 x6, z_Mo G F A M' w → z_fr F w0 w → (∀ f, f ≠ 20 → M' f = M f) → (∀ p, p < n → M' 20 p = z_fi (z_pp (fun a b => z_mt M e (nI a) (nI b)) od n i p) ∧ ∀ f, z_pp (fun a b => z_mt M e (nI a) (nI b)) od n i p = some f → f < 8) → z_E G zX6_pairs 2 Z 6 [some (.ref (A 22 0 0)), some (.int (nI i)), x2, x3, x4, x5, x6] [] w 0 0 := by
  intro m
  induction m with
  | zero =>
    intro i hm hi M' w x2 x3 x4 x5 x6 hM hf hk hP
    have : i = n := by omega
    subst this
    refine z_iload_n (pc := 6) dX6_pairs_6 rfl ?_
    refine z_aload_n (pc := 7) dX6_pairs_7 rfl (by first | rfl | exact z_isr_rf _) ?_
    refine gfX6_67 (pc := 8) rfl dX6_pairs_8 (hM.k22) rfl ?_
    rw [hk 0 (by decide), h0]
    refine z_icmp_ge (pc := 11) (tgt := 172) dX6_pairs_11 (by decide) (fun _ => ?_) (fun hn => absurd (nI_le (Nat.le_refl _) (by omega)) hn)
    exact kk M' w _ _ _ _ _ _ hM hf hk (fun p hp => (hP p hp).1)
  | succ m ih =>
    intro i hm hi M' w x2 x3 x4 x5 x6 hM hf hk hP
    have hin : i < n := by omega
    have hm1 : n - (i + 1) = m := by omega
    have hi3 : i < 2 ^ 31 := by omega
    have hoi := ho i hin
    have ho3 : od i < 2 ^ 31 := by omega
    have vi : vp_in (nI i) 8 := vp_in_nI (by omega) (by omega)
    have vo : vp_in (nI (od i)) 8 := vp_in_nI (by omega) (by omega)
    have h6' : M' 6 0 = 0 ∨ M' 6 0 = 1 := by rw [hk 6 (by decide)]; exact h6
    have he' : M' 5 0 - M' 6 0 = nI e := by rw [hk 6 (by decide), hk 5 (by decide)]; exact he
    have e1 : nI n - 1 = nI (n - 1) := by
      obtain ⟨j, rfl⟩ : ∃ j, n = j + 1 := ⟨n - 1, by omega⟩
      rw [← nI_1, Int32.add_sub_cancel]
      rfl
    have emt : ∀ a b, z_mt M' e a b = z_mt M e a b := fun a b => by
      unfold z_mt
      rw [hk 8 (by decide), hk 9 (by decide)]
    refine z_iload_n (pc := 6) dX6_pairs_6 rfl ?_
    refine z_aload_n (pc := 7) dX6_pairs_7 rfl (by first | rfl | exact z_isr_rf _) ?_
    refine gfX6_67 (pc := 8) rfl dX6_pairs_8 (hM.k22) rfl ?_
    rw [hk 0 (by decide), h0]
    refine z_icmp_ge (pc := 11) (tgt := 172) dX6_pairs_11 (by decide) (fun hn => absurd hn (nI_ge hin (by omega))) (fun _ => ?_)
    refine z_aload_n (pc := 14) dX6_pairs_14 rfl (by first | rfl | exact z_isr_rf _) ?_
    refine gfX6_53 (pc := 15) rfl dX6_pairs_15 (hM.k22) rfl ?_
    refine z_iload_n (pc := 18) dX6_pairs_18 rfl ?_
    refine z_iald (pc := 19) dX6_pairs_19 (hM.k19) (vi) ?_
    rw [nI_clamp hi3, hk 19 (by decide), hoi.1]
    refine z_istore2 (pc := 20) dX6_pairs_20 ?_
    refine z_iconst_m1 (pc := 21) dX6_pairs_21 ?_
    refine z_istore3 (pc := 22) dX6_pairs_22 ?_
    refine z_iconst_m1 (pc := 23) dX6_pairs_23 ?_
    refine z_istore4 (pc := 24) dX6_pairs_24 ?_
    refine z_aload_n (pc := 26) dX6_pairs_26 rfl (by first | rfl | exact z_isr_rf _) ?_
    refine gfX6_67 (pc := 27) rfl dX6_pairs_27 (hM.k22) rfl ?_
    refine z_iconst_1 (pc := 30) dX6_pairs_30 ?_
    rw [hk 0 (by decide), h0]
    refine z_isub (pc := 31) dX6_pairs_31 ?_
    rw [e1]
    refine z_istore5 (pc := 32) dX6_pairs_32 ?_
    have e0 : n - 1 - (n - 1) = 0 := by omega
    have st := iX6_pairs1 (Z := Z) (k := i) (one := od i) (od := od) (P := z_pp (fun a b => z_mt M e (nI a) (nI b)) od n i) hM h6' he' h60 hn hin (fun j hj => by rw [hk 19 (by decide)]; exact ho j hj) hP
    have nxt : ∀ (M2 : z_TM) (w2 : z_W) (x3 x4 x5 x6 : Option Value), z_Mo G F A M2 w2 → z_fr F w0 w2 → (∀ f, f ≠ 20 → M2 f = M f) → (∀ p, p < n → M2 20 p = z_fi (z_pp (fun a b => z_mt M e (nI a) (nI b)) od n (i + 1) p) ∧ ∀ f, z_pp (fun a b => z_mt M e (nI a) (nI b)) od n (i + 1) p = some f → f < 8) → z_E G zX6_pairs 2 Z 166 [some (.ref (A 22 0 0)), some (.int (nI i)), some (.int (nI (od i))), x3, x4, x5, x6] [] w2 0 0 := by
      intro M2 w2 x3 x4 x5 x6 a1 a2 a3 a4
      refine z_iinc1 (pc := 166) dX6_pairs_166 ?_
      refine z_goto (pc := 169) (tgt := 6) dX6_pairs_169 (by decide) ?_
      rw [nI_1]
      exact ih (i + 1) hm1 hin M2 w2 _ _ _ _ _ a1 a2 a3 a4
    have fin : ∀ (x3 x4 x5 : Option Value) (o : Option Nat) x6, o = z_po (fun a b => z_mt M e (nI a) (nI b)) od n i (z_pp (fun a b => z_mt M e (nI a) (nI b)) od n i) → z_E G zX6_pairs 2 Z 132 [some (.ref (A 22 0 0)), some (.int (nI i)), some (.int (nI (od i))), x3, x4, x5, x6] [.int (z_fi o)] w 0 0 := by
      intro x3 x4 x5 o x6 hoo
      have hPo := hP (od i) hoi.2
      have eP : z_pp (fun a b => z_mt M e (nI a) (nI b)) od n (i + 1) = z_p1 (z_pp (fun a b => z_mt M e (nI a) (nI b)) od n i) (od i) (z_pp (fun a b => z_mt M e (nI a) (nI b)) od n i (od i)) o := by rw [hoo]; rfl
      refine z_istore5 (pc := 132) dX6_pairs_132 ?_
      refine z_aload_n (pc := 134) dX6_pairs_134 rfl (by first | rfl | exact z_isr_rf _) ?_
      refine gfX6_56 (pc := 135) rfl dX6_pairs_135 (hM.k22) rfl ?_
      refine z_iload_n (pc := 138) dX6_pairs_138 rfl ?_
      refine z_iald (pc := 139) dX6_pairs_139 (hM.k20) (vo) ?_
      refine z_iconst_m1 (pc := 140) dX6_pairs_140 ?_
      rw [nI_clamp ho3, hPo.1]
      refine z_icmp_ne (pc := 141) (tgt := 166) dX6_pairs_141 (by decide) (fun c1 => ?_) (fun c1 => ?_)
      · have c1 : ¬ z_pp (fun a b => z_mt M e (nI a) (nI b)) od n i (od i) = none := fun z => c1 ((z_fi_n hPo.2).2 z)
        refine nxt M' w _ _ _ _ hM hf hk ?_
        cases h : z_pp (fun a b => z_mt M e (nI a) (nI b)) od n i (od i) with
        | none => exact absurd h c1
        | some q => rw [h, z_p1_s] at eP; rw [eP]; exact hP
      · have c1 := (z_fi_n hPo.2).1 c1
        rw [c1] at eP
        cases o with
        | none =>
          refine z_iload (pc := 144) dX6_pairs_144 rfl ?_
          refine z_iconst_m1 (pc := 146) dX6_pairs_146 ?_
          refine z_icmp_eq (pc := 147) (tgt := 166) dX6_pairs_147 (by decide) (fun _ => ?_) (fun hn => absurd (rfl) hn)
          refine nxt M' w _ _ _ _ hM hf hk ?_
          rw [eP]; show ∀ p, p < n → M' 20 p = z_fi (z_pp (fun a b => z_mt M e (nI a) (nI b)) od n i p) ∧ ∀ f, z_pp (fun a b => z_mt M e (nI a) (nI b)) od n i p = some f → f < 8
          exact hP
        | some f =>
          have hfn : f < n := z_po_lt (fun j hj => (ho j hj).2) (by omega) hoo.symm
          have hf3 : f < 2 ^ 31 := by omega
          have vf : vp_in (nI f) 8 := vp_in_nI (by omega) (by omega)
          have ef : z_fi (some f) = nI f := rfl
          rw [ef]
          refine z_iload (pc := 144) dX6_pairs_144 rfl ?_
          refine z_iconst_m1 (pc := 146) dX6_pairs_146 ?_
          refine z_icmp_eq (pc := 147) (tgt := 166) dX6_pairs_147 (by decide) (fun hn => absurd hn (fun z => absurd (show nI f < 0 by rw [z]; decide) (nI_pos hf3))) (fun _ => ?_)
          refine z_aload_n (pc := 150) dX6_pairs_150 rfl (by first | rfl | exact z_isr_rf _) ?_
          refine gfX6_56 (pc := 151) rfl dX6_pairs_151 (hM.k22) rfl ?_
          refine z_iload_n (pc := 154) dX6_pairs_154 rfl ?_
          refine z_iload (pc := 155) dX6_pairs_155 rfl ?_
          refine z_iast (pc := 157) dX6_pairs_157 (hM.k20) (vo) ?_
          rw [nI_clamp ho3]
          refine z_genM (hM.p20 (od i) (nI f)) (fun w2 hM2 hf2 => ?_)
          refine z_aload_n (pc := 158) dX6_pairs_158 rfl (by first | rfl | exact z_isr_rf _) ?_
          refine gfX6_56 (pc := 159) rfl dX6_pairs_159 (hM2.k22) rfl ?_
          refine z_iload (pc := 162) dX6_pairs_162 rfl ?_
          refine z_iload_n (pc := 164) dX6_pairs_164 rfl ?_
          refine z_iast (pc := 165) dX6_pairs_165 (hM2.k20) (vf) ?_
          rw [nI_clamp hf3]
          refine z_genM (hM2.p20 f (nI (od i))) (fun w3 hM3 hf3b => ?_)
          refine nxt _ w3 _ _ _ _ hM3 (hf.tr (hf2.tr hf3b)) (fun f' a => by rw [z_sM_f _ _ _ a, z_sM_f _ _ _ a]; exact hk f' a) (fun p hp => ?_)
          have eP : z_pp (fun a b => z_mt M e (nI a) (nI b)) od n (i + 1) = z_up2 (z_pp (fun a b => z_mt M e (nI a) (nI b)) od n i) (od i) f := eP
          rw [eP, z_sM_s, z_sM_s]
          unfold z_up2
          by_cases q1 : p = f
          · rw [q1, z_upd_s, if_pos rfl]
            exact ⟨rfl, fun f' z => by cases z; omega⟩
          · rw [z_upd_n _ _ q1, if_neg q1]
            by_cases q2 : p = od i
            · rw [q2, z_upd_s, if_pos rfl]
              exact ⟨rfl, fun f' z => by cases z; omega⟩
            · rw [z_upd_n _ _ q2, if_neg q2]
              exact hP p hp
    have hz : ∀ C, z_fi (z_sc C od n (n - 1 - (n - 1))) = -1 := fun C => by rw [e0]; rfl
    refine Eq.mp ?_ (st (fun y5 y6 => ?_) (n - 1 - i) (n - 1) rfl (by omega) (by omega) x6)
    · rw [hz, hz]
    · have ec : (fun i_1 => z_pp (fun a b => z_mt M e (nI a) (nI b)) od n i (od i_1) = none ∧ ¬ z_mt M' e (nI (od i)) (nI (od i_1))) = (fun i_1 => z_pp (fun a b => z_mt M e (nI a) (nI b)) od n i (od i_1) = none ∧ ¬ z_mt M e (nI (od i)) (nI (od i_1))) := by
        funext j
        rw [emt]
      rw [ec]
      have hlt := z_sc_lt (C := fun i_1 => z_pp (fun a b => z_mt M e (nI a) (nI b)) od n i (od i_1) = none ∧ ¬ z_mt M e (nI (od i)) (nI (od i_1))) (od := od) (fun j hj => (ho j hj).2) (by omega : 0 < n) (n - 1 - i)
      refine z_iload (pc := 120) dX6_pairs_120 rfl ?_
      refine z_iconst_m1 (pc := 122) dX6_pairs_122 ?_
      refine z_icmp_eq (pc := 123) (tgt := 131) dX6_pairs_123 (by decide) (fun c3 => ?_) (fun c3 => ?_)
      · have c3 := (z_fi_n (fun f h => by have := hlt f h; omega)).1 c3
        refine z_iload_n (pc := 131) dX6_pairs_131 rfl ?_
        exact fin _ _ _ _ _ (by unfold z_po; dsimp only; rw [c3])
      · refine z_iload (pc := 126) dX6_pairs_126 rfl ?_
        refine z_goto (pc := 128) (tgt := 132) dX6_pairs_128 (by decide) ?_
        refine fin _ _ _ _ _ ?_
        unfold z_po
        dsimp only
        cases h : z_sc (fun i_1 => z_pp (fun a b => z_mt M e (nI a) (nI b)) od n i (od i_1) = none ∧ ¬ z_mt M e (nI (od i)) (nI (od i_1))) od n (n - 1 - i) with
        | none => exact absurd ((z_fi_n (fun f h => by have := hlt f h; omega)).2 h) c3
        | some f => rfl
end PR7

