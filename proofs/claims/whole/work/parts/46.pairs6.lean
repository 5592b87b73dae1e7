/-! the reference's pairs, one place of the order at a time -/
noncomputable def z_sc (C : Nat → Prop) (od : Nat → Nat) (n : Nat) : Nat → Option Nat
  | 0 => none
  | c + 1 => @ite _ (C (n - 1 - c)) (Classical.propDecidable _) (some (od (n - 1 - c))) (z_sc C od n c)
theorem z_fi_n {o : Option Nat} (ho : ∀ f, o = some f → f < 8) : z_fi o = -1 ↔ o = none := by
  cases o with
  | none => exact ⟨fun _ => rfl, fun _ => rfl⟩
  | some f =>
    refine ⟨fun h => ?_, fun h => by cases h⟩
    have h : nI f = -1 := h
    have := ho f rfl
    exact absurd (show nI f < 0 by rw [h]; decide) (nI_pos (by omega))
theorem z_sc_lt {C : Nat → Prop} {od : Nat → Nat} {n : Nat} (ho : ∀ i, i < n → od i < n) (hn : 0 < n) : ∀ c f, z_sc C od n c = some f → f < n
  | 0, f, h => by cases h
  | c + 1, f, h => by
    rw [z_sc] at h
    by_cases q : C (n - 1 - c)
    · rw [if_pos q] at h
      cases h
      exact ho _ (by omega)
    · rw [if_neg q] at h
      exact z_sc_lt ho hn c f h
section PR6
variable {G : z_G} {F : Nat → Prop} {A : z_TA} {M : z_TM} {w : z_W}
theorem iX6_pairs1 {Z : z_Gq} (hM : z_Mo G F A M w) (h6 : M 6 0 = 0 ∨ M 6 0 = 1) {e : Nat} (he : M 5 0 - M 6 0 = nI e) (h60 : e ≤ 60) {n k one : Nat} {od : Nat → Nat} {P : Nat → Option Nat} (hn : n ≤ 8) (hk : k < n) (ho : ∀ i, i < n → M 19 i = nI (od i) ∧ od i < n) (hP : ∀ p, p < n → M 20 p = z_fi (P p) ∧ ∀ f, P p = some f → f < 8)
    (kk : ∀ x5 x6, z_E G zX6_pairs 2 Z 120 [some (.ref (A 22 0 0)), some (.int (nI k)), some (.int (nI one)), some (.int (z_fi (z_sc (fun i => P (od i) = none) od n (n - 1 - k)))), some (.int (z_fi (z_sc (fun i => P (od i) = none ∧ ¬ z_mt M e (nI one) (nI (od i))) od n (n - 1 - k)))), x5, x6] [] w 0 0) : ∀ m j : Nat, j - k = m → k ≤ j → j < n → ∀ x6, z_E G zX6_pairs 2 Z 34 [some (.ref (A 22 0 0)), some (.int (nI k)), some (.int (nI one)), some (.int (z_fi (z_sc (fun i => P (od i) = none) od n (n - 1 - j)))), some (.int (z_fi (z_sc (fun i => P (od i) = none ∧ ¬ z_mt M e (nI one) (nI (od i))) od n (n - 1 - j)))), some (.int (nI j)), x6] [] w 0 0 := by
  intro m
  induction m with
  | zero =>
    intro j hm h1 h2 x6
    have : j = k := by omega
    subst this
    refine z_iload (pc := 34) dX6_pairs_34 rfl ?_
    refine z_iload_n (pc := 36) dX6_pairs_36 rfl ?_
    refine z_icmp_le (pc := 37) (tgt := 120) dX6_pairs_37 (by decide) (fun _ => ?_) (fun hn => absurd ((nI_leI (by omega) (by omega)).2 (Nat.le_refl _)) hn)
    exact kk _ _
  | succ m ih =>
    intro j hm h1 h2 x6
    have hjk : k < j := by omega
    have hj3 : j < 2 ^ 31 := by omega
    have ih := ih (j - 1) (by omega) (by omega) (by omega)
    have ec : n - 1 - (j - 1) = (n - 1 - j) + 1 := by omega
    have ei : n - 1 - (n - 1 - j) = j := by omega
    have hoj := ho j h2
    have ho3 : od j < 2 ^ 31 := by omega
    have hPj := hP (od j) hoj.2
    have ej : nI j + (-1) = nI (j - 1) := by
      obtain ⟨i, rfl⟩ : ∃ i, j = i + 1 := ⟨j - 1, by omega⟩
      rw [← nI_1, Int32.add_assoc]
      show nI i + 0 = nI i
      exact Int32.add_zero _
    have vj : vp_in (nI j) 8 := vp_in_nI (by omega) (by omega)
    have vo : vp_in (nI (od j)) 8 := vp_in_nI (by omega) (by omega)
    rw [ec, z_sc, z_sc, ei] at ih
    have nxt : ∀ (a b : Int32) x6, (a = z_fi (@ite _ (P (od j) = none) (Classical.propDecidable _) (some (od j)) (z_sc (fun i => P (od i) = none) od n (n - 1 - j)))) → (b = z_fi (@ite _ (P (od j) = none ∧ ¬ z_mt M e (nI one) (nI (od j))) (Classical.propDecidable _) (some (od j)) (z_sc (fun i => P (od i) = none ∧ ¬ z_mt M e (nI one) (nI (od i))) od n (n - 1 - j)))) → z_E G zX6_pairs 2 Z 112 [some (.ref (A 22 0 0)), some (.int (nI k)), some (.int (nI one)), some (.int a), some (.int (z_fi (z_sc (fun i => P (od i) = none ∧ ¬ z_mt M e (nI one) (nI (od i))) od n (n - 1 - j)))), some (.int (nI j)), x6] [.int b] w 0 0 := by
      intro a b x6 ha hb
      refine z_istore4 (pc := 112) dX6_pairs_112 ?_
      refine z_iinc5m (pc := 114) dX6_pairs_114 ?_
      refine z_goto (pc := 117) (tgt := 34) dX6_pairs_117 (by decide) ?_
      rw [ej, ha, hb]
      exact ih _
    refine z_iload (pc := 34) dX6_pairs_34 rfl ?_
    refine z_iload_n (pc := 36) dX6_pairs_36 rfl ?_
    refine z_icmp_le (pc := 37) (tgt := 120) dX6_pairs_37 (by decide) (fun hn => absurd hn (fun z => absurd ((nI_leI (by omega) (by omega)).1 z) (by omega))) (fun _ => ?_)
    refine z_aload_n (pc := 40) dX6_pairs_40 rfl (by first | rfl | exact z_isr_rf _) ?_
    refine gfX6_56 (pc := 41) rfl dX6_pairs_41 (hM.k22) rfl ?_
    refine z_aload_n (pc := 44) dX6_pairs_44 rfl (by first | rfl | exact z_isr_rf _) ?_
    refine gfX6_53 (pc := 45) rfl dX6_pairs_45 (hM.k22) rfl ?_
    refine z_iload (pc := 48) dX6_pairs_48 rfl ?_
    refine z_iald (pc := 50) dX6_pairs_50 (hM.k19) (vj) ?_
    rw [nI_clamp hj3, hoj.1]
    refine z_iald (pc := 51) dX6_pairs_51 (hM.k20) (vo) ?_
    refine z_iconst_m1 (pc := 52) dX6_pairs_52 ?_
    rw [nI_clamp ho3, hPj.1]
    refine z_icmp_ne (pc := 53) (tgt := 60) dX6_pairs_53 (by decide) (fun c1 => ?_) (fun c1 => ?_)
    · have c1 : ¬ P (od j) = none := fun z => c1 ((z_fi_n hPj.2).2 z)
      refine z_iconst_0 (pc := 60) dX6_pairs_60 ?_
      refine z_istore6 (pc := 61) dX6_pairs_61 ?_
      refine z_iload (pc := 63) dX6_pairs_63 rfl ?_
      refine z_if_eq (pc := 65) (tgt := 78) dX6_pairs_65 (by decide) (fun _ => ?_) (fun hn => absurd (rfl) hn)
      refine z_iload_n (pc := 78) dX6_pairs_78 rfl ?_
      refine z_istore3 (pc := 79) dX6_pairs_79 ?_
      refine z_iload (pc := 80) dX6_pairs_80 rfl ?_
      refine z_if_eq (pc := 82) (tgt := 110) dX6_pairs_82 (by decide) (fun _ => ?_) (fun hn => absurd (rfl) hn)
      refine z_iload (pc := 110) dX6_pairs_110 rfl ?_
      exact nxt _ _ _ (by rw [if_neg c1]) (by rw [if_neg (fun z => c1 z.1)])
    · have c1 : P (od j) = none := (z_fi_n hPj.2).1 c1
      refine z_iconst_1 (pc := 56) dX6_pairs_56 ?_
      refine z_goto (pc := 57) (tgt := 61) dX6_pairs_57 (by decide) ?_
      refine z_istore6 (pc := 61) dX6_pairs_61 ?_
      refine z_iload (pc := 63) dX6_pairs_63 rfl ?_
      refine z_if_eq (pc := 65) (tgt := 78) dX6_pairs_65 (by decide) (fun hn => absurd hn ((by decide : ¬ (1 : Int32) = 0))) (fun _ => ?_)
      refine z_aload_n (pc := 68) dX6_pairs_68 rfl (by first | rfl | exact z_isr_rf _) ?_
      refine gfX6_53 (pc := 69) rfl dX6_pairs_69 (hM.k22) rfl ?_
      refine z_iload (pc := 72) dX6_pairs_72 rfl ?_
      refine z_iald (pc := 74) dX6_pairs_74 (hM.k19) (vj) ?_
      rw [nI_clamp hj3, hoj.1]
      refine z_goto (pc := 75) (tgt := 79) dX6_pairs_75 (by decide) ?_
      refine z_istore3 (pc := 79) dX6_pairs_79 ?_
      refine z_iload (pc := 80) dX6_pairs_80 rfl ?_
      refine z_if_eq (pc := 82) (tgt := 110) dX6_pairs_82 (by decide) (fun hn => absurd hn ((by decide : ¬ (1 : Int32) = 0))) (fun _ => ?_)
      refine z_aload_n (pc := 85) dX6_pairs_85 rfl (by first | rfl | exact z_isr_rf _) ?_
      refine z_iload_n (pc := 86) dX6_pairs_86 rfl ?_
      refine z_aload_n (pc := 87) dX6_pairs_87 rfl (by first | rfl | exact z_isr_rf _) ?_
      refine gfX6_53 (pc := 88) rfl dX6_pairs_88 (hM.k22) rfl ?_
      refine z_iload (pc := 91) dX6_pairs_91 rfl ?_
      refine z_iald (pc := 93) dX6_pairs_93 (hM.k19) (vj) ?_
      rw [nI_clamp hj3, hoj.1]
      refine z_callVp (pc := 94) (mX6_havePlayed hM h6 he h60 (nI one) (nI (od j))) dX6_pairs_94 cwX6_147 okX6_havePlayed rfl (hM.k22) rfl rfl (by omega) rfl (Nat.le_of_ble_eq_true rfl) ?_
      refine z_if_ne (pc := 97) (tgt := 110) dX6_pairs_97 (by decide) (fun c2 => ?_) (fun c2 => ?_)
      · have c2 := z_b_1 c2
        refine z_iload (pc := 110) dX6_pairs_110 rfl ?_
        exact nxt _ _ _ (by rw [if_pos c1]; rfl) (by rw [if_neg (fun z => z.2 c2)])
      · have c2 := z_b_0 c2
        refine z_aload_n (pc := 100) dX6_pairs_100 rfl (by first | rfl | exact z_isr_rf _) ?_
        refine gfX6_53 (pc := 101) rfl dX6_pairs_101 (hM.k22) rfl ?_
        refine z_iload (pc := 104) dX6_pairs_104 rfl ?_
        refine z_iald (pc := 106) dX6_pairs_106 (hM.k19) (vj) ?_
        rw [nI_clamp hj3, hoj.1]
        refine z_goto (pc := 107) (tgt := 112) dX6_pairs_107 (by decide) ?_
        exact nxt _ _ _ (by rw [if_pos c1]; rfl) (by rw [if_pos ⟨c1, c2⟩]; rfl)
end PR6

