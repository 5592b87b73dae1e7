/-! the reference's end -/
section EB
variable {I : z_TI} {N : z_TN} {O : z_TO} {B : z_TB} {M M' : z_TM}
/-- what the book's part of an end needs and gives -/
theorem z_J.book (h : z_J I N O B M) {g e rr : Nat} (hg : g < N 1 0) (hl0 : z_Jl I M (fun _ => e)) (he : e + 1 ≤ z_ed N O) (hr : I 7 g 0 = nI rr) :
    (∀ n l, 1 ≤ n → n ≤ 6 → l < 4 ^ n → (z_kI I N B g 13 n l ≠ 0 ↔ ((z_ar (z_mv I g) (nI rr) (z_kn N g) I B 0).1 13 n l ≠ 0 ∨ (z_bd (z_ar (z_mv I g) (nI rr) (z_kn N g) I B 0).1 n l ∧ ∀ k, 1 ≤ k → k < n → z_kI I N B g 13 k (l % 4 ^ k) = 0)))) ∧ (∀ n l, 1 ≤ n → n ≤ 6 → l < 4 ^ n → (z_kI I N B g 13 n l = 0 ∨ z_kI I N B g 13 n l = 1)) ∧ (∀ f, f ≠ 13 → z_kI I N B g f = (z_ar (z_mv I g) (nI rr) (z_kn N g) I B 0).1 f) ∧
    (∀ M', (∀ f, f ≠ 16 → f ≠ 17 → f ≠ 18 → M' f = M f) → z_Jl (z_kI I N B g) M' (fun _ => e + 1) → z_J (z_kI I N B g) N O (z_k1 I N B g).2 M') := by
  obtain ⟨hS, hZ, hP, hG, hZZ, hL, hB, hM⟩ := h
  have hgg := hG.2.2.2.1 g hg
  have h12 := (hS.2.2.2.2.2.2.1 g hg).2.2
  have hk6 : z_kn N g ≤ 6 := by unfold z_kn; split <;> omega
  have hk5 : z_kn N g ≤ N 5 g := by unfold z_kn; split <;> omega
  have hmv : ∀ i, i < z_kn N g → z_mv I g i < 4 := fun i hi => by
    obtain ⟨j, hj, ej⟩ := (hgg.2.2.2.2.2.2 i (by omega)).2
    unfold z_mv
    rw [ej, nI_clamp (by omega)]
    exact hj
  have e13 : (z_k1 I N B g).1 13 = I 13 := z_arf (by decide) (by decide) _ _ _ _
  have ek : z_k1 I N B g = z_ar (z_mv I g) (nI rr) (z_kn N g) I B 0 := by unfold z_k1; rw [hr]
  have key := z_db_h (mv := z_mv I g) (I1 := (z_k1 I N B g).1) (B1 := (z_k1 I N B g).2) (kn := z_kn N g) hk6 hmv
    (fun n a b c => z_ar_B _ _ _ _ _ a (by omega) (fun k x y => by have := c k x y; rw [e13] at this; exact this))
    (fun n l a b c => by rw [e13]; exact (hl0 n l a b c).2.2.2.1)
    (fun n l a b c al hp => by
      have ho := z_ar_o (mv := z_mv I g) (r := I 7 g 0) (z_kn N g) I B 0 n l (fun k x y z => hp ⟨by omega, by rw [z.2, z.1]⟩)
      rw [e13] at al
      have := hB n l a b c al
      unfold z_bd
      have o1 : (z_k1 I N B g).1 11 n l = I 11 n l := ho.1
      have o2 : (z_k1 I N B g).1 12 n l = I 12 n l := ho.2
      rw [o1, o2]
      exact this)
  refine ⟨by rw [← ek]; exact key.1, key.2.1, by rw [← ek]; exact key.2.2, fun M' hM' hl2 => ?_⟩
  have eI : ∀ f, f ≠ 11 → f ≠ 12 → f ≠ 13 → z_kI I N B g f = I f := fun f a b c => (key.2.2 f c).trans (z_arf a b _ _ _ _)
  have hSZ := z_ar_S (N := N) (O := O) (r := I 7 g 0) hmv hk6 (z_kn N g) I B 0 (by omega) hS hZ hS.2.2.2.2.2.2.2.2.2.1
  refine ⟨hSZ.1, z_db_Z _ _ hSZ.2, hP.c (fun f a => eI f (by omega) (by omega) (by omega)) rfl (fun f a => hM' f (by omega) (by omega) (by omega)), hG.c (fun f a b => eI f (by omega) (by omega) (by omega)) rfl rfl rfl rfl rfl (fun f a b => hM' f (by omega) (by omega) (by omega)), hZZ.c (eI 9 (by decide) (by decide) (by decide)) (eI 10 (by decide) (by decide) (by decide)) rfl (fun f a b => hM' f (by omega) (by omega) (by omega)), fun n l a b c => ?_, fun n l a b c al => ?_, hM.c (eI 5 (by decide) (by decide) (by decide)) rfl rfl rfl rfl⟩
  · obtain ⟨a1, a2, a3, a4, c', s, a5, a6, a7, a8⟩ := hl2 n l a b c
    exact ⟨a1, a2, a3, a4, c', s, a5, a6, Nat.le_trans a7 he, a8⟩
  · intro hb
    have hb2 : z_bd (z_k1 I N B g).1 n l := by
      unfold z_bd
      rw [← key.2.2 11 (by decide), ← key.2.2 12 (by decide)]
      exact hb
    have := (key.1 n l a b c).2 (Or.inr ⟨hb2, fun k x y => al k x (by omega)⟩)
    have h0 := al n a (Nat.le_refl _)
    rw [Nat.mod_eq_of_lt c] at h0
    exact this h0
end EB
section ME
variable {G : z_G} {F : Nat → Prop} {A : z_TA} {M : z_TM} {w : z_W} {I : z_TI} {N : z_TN} {O : z_TO} {B : z_TB}
theorem mX6_end (hM : z_Mo G F A M w) (hJ : z_J I N O B M) (x : Int32) : z_M G zX6_end 5 [.ref (A 22 0 0), .int x] w 0 0 (fun v w' => z_fr F w w' ∧ ((∃ g, O 0 0 = some g ∧ z_rg x 3 ∧ v = some (.int (z_mk (nI (N 1 0) - 1) (I 8 g) (N 5 g) (z_kI (z_e2 I N g x) N B g) N 0 1 0).2.2) ∧ ∃ M', z_Mo G F A M' w' ∧ M' 21 0 = 0 ∧ z_J (z_mk (nI (N 1 0) - 1) (I 8 g) (N 5 g) (z_kI (z_e2 I N g x) N B g) N 0 1 0).1 (z_mk (nI (N 1 0) - 1) (I 8 g) (N 5 g) (z_kI (z_e2 I N g x) N B g) N 0 1 0).2.1 (z_sO O 0 0 none) (z_k1 (z_e2 I N g x) N B g).2 M') ∨ (¬ (z_rg x 3 ∧ O 0 0 ≠ none) ∧ v = some (.int 0) ∧ z_Mo G F A (z_sM M 21 0 (z_go (z_rg x 3) (O 0 0 ≠ none) True)) w'))) z_nx := by
  have hS := hJ.1
  have hG := hJ.2.2.2.1
  have hN60 := hS.2.2.2.2.1
  have e3 : z_b ((0 : Int32) ≤ x ∧ x ≤ 2) = z_b (z_rg x 3) := z_b_c (z_rg_iff (x := x) (n := 3) (by decide))
  have e6 : M 6 0 = z_b (O 0 0 ≠ none) := by
    rw [hG.2.1]
    cases ho : O 0 0 with
    | none => rw [z_b_f (fun z => z rfl)]
    | some g => rw [z_b_t (fun z => by cases z)]
  refine z_M.of (by decide +kernel) rfl (by intro v hv; simp only [List.mem_cons, List.not_mem_nil, or_false] at hv; rcases hv with rfl | rfl <;> first | rfl | exact z_isr_cat (z_isr_rf _)) (Nat.le_of_ble_eq_true rfl) ?_
  show z_E _ zX6_end _ _ 0 [some (.ref (A 22 0 0)), some (.int x), none] [] _ _ _
  refine z_aload_n (pc := 0) dX6_end_0 rfl (by first | rfl | exact z_isr_rf _) ?_
  refine z_iload_n (pc := 1) dX6_end_1 rfl ?_
  refine z_iconst_0 (pc := 2) dX6_end_2 ?_
  refine z_iconst_2 (pc := 3) dX6_end_3 ?_
  refine z_callSp (pc := 4) (mX6_in (G := G) x 0 2) dX6_end_4 cwX6_63 okX6_in rfl (by omega) rfl (Nat.le_of_ble_eq_true rfl) ?_
  refine z_aload_n (pc := 7) dX6_end_7 rfl (by first | rfl | exact z_isr_rf _) ?_
  refine gfX6_98 (pc := 8) rfl dX6_end_8 (hM.k22) rfl ?_
  refine z_iconst_1 (pc := 11) dX6_end_11 ?_
  refine z_callV (pc := 12) (mX6_goes hM e3 e6 z_tt) dX6_end_12 cwX6_91 okX6_goes rfl (hM.k22) rfl rfl (by omega) rfl (Nat.le_of_ble_eq_true rfl) (by omega) (by omega) (fun _ _ h => h.elim) (fun v wN hN => ?_)
  obtain ⟨rfl, hM2, hf2⟩ := hN
  rw [z_b_a2]
  refine z_if_ne (pc := 15) (tgt := 20) dX6_end_15 (by decide) (fun hc => ?_) (fun hc => ?_)
  · obtain ⟨hx, hon⟩ := z_b_1 hc
    rw [z_go_0 hx hon trivial] at hM2
    cases ho : O 0 0 with
    | none => exact absurd ho hon
    | some g =>
      have hg1 : g + 1 = N 1 0 := hS.2.2.2.2.2.2.2.1 g ho
      have hg60 : g < 60 := by omega
      have hgn := hG.2.2.2.1 g (by omega)
      have hpq := hS.2.2.2.2.2.2.1 g (by omega)
      have h8 : N 0 0 ≤ 8 := hS.2.2.2.1
      have hg3 : g < 2 ^ 31 := by omega
      have hp8 : N 3 g < 8 := by omega
      have hq8 : N 4 g < 8 := by omega
      have hp3 : N 3 g < 2 ^ 31 := by omega
      have hq3 : N 4 g < 2 ^ 31 := by omega
      have hne := hgn.2.2.1
      have h5 : M 5 0 = nI (g + 1) := by rw [hG.1, ← hg1]
      have vg : vp_in (nI g) 60 := vp_in_nI hg60 (by omega)
      have vp : vp_in (nI (N 3 g)) 8 := vp_in_nI hp8 (by omega)
      have vq : vp_in (nI (N 4 g)) 8 := vp_in_nI hq8 (by omega)
      refine z_aload_n (pc := 20) dX6_end_20 rfl (by first | rfl | exact z_isr_rf _) ?_
      refine gfX6_95 (pc := 21) rfl dX6_end_21 (hM2.k22) rfl ?_
      refine z_iconst_1 (pc := 24) dX6_end_24 ?_
      refine z_isub (pc := 25) dX6_end_25 ?_
      rw [show z_sM M 21 0 0 5 0 - 1 = nI g from (by rw [show z_sM M 21 0 0 5 0 = nI (g + 1) from h5, ← nI_1, Int32.add_sub_cancel])]
      refine z_istore2 (pc := 26) dX6_end_26 ?_
      refine z_aload_n (pc := 27) dX6_end_27 rfl (by first | rfl | exact z_isr_rf _) ?_
      refine z_iconst_0 (pc := 28) dX6_end_28 ?_
      refine pfX6_98 (pc := 29) rfl dX6_end_29 (Or.inl rfl) (hM2.k22) (Nat.le_of_ble_eq_true rfl) ?_
      refine z_genM (hM2.p6 0) (fun w3 hM3 hf3 => ?_)
      refine z_aload_n (pc := 32) dX6_end_32 rfl (by first | rfl | exact z_isr_rf _) ?_
      refine gfX6_32 (pc := 33) rfl dX6_end_33 (hM3.k22) rfl ?_
      refine z_iload_n (pc := 36) dX6_end_36 rfl ?_
      refine z_iload_n (pc := 37) dX6_end_37 rfl ?_
      refine z_iast (pc := 38) dX6_end_38 (hM3.k11) (vg) ?_
      rw [nI_clamp hg3]
      refine z_genM (hM3.p11 g x) (fun w4 hM4 hf4 => ?_)
      refine z_aload_n (pc := 39) dX6_end_39 rfl (by first | rfl | exact z_isr_rf _) ?_
      refine gfX6_7 (pc := 40) rfl dX6_end_40 (hM4.k22) rfl ?_
      refine z_aload_n (pc := 43) dX6_end_43 rfl (by first | rfl | exact z_isr_rf _) ?_
      refine gfX6_23 (pc := 44) rfl dX6_end_44 (hM4.k22) rfl ?_
      refine z_iload_n (pc := 47) dX6_end_47 rfl ?_
      refine z_iald (pc := 48) dX6_end_48 (hM4.k8) (vg) ?_
      rw [nI_clamp hg3, show z_sM (z_sM (z_sM M 21 0 0) 6 0 0) 11 g x 8 g = nI (N 3 g) from hgn.1]
      refine z_dup2 (pc := 49) dX6_end_49 (by first | rfl | exact z_isr_cat (z_isr_rf _)) (by first | rfl | exact z_isr_cat (z_isr_rf _)) ?_
      refine z_iald (pc := 50) dX6_end_50 (hM4.k1) (vp) ?_
      refine z_iload_n (pc := 51) dX6_end_51 rfl ?_
      refine z_iadd (pc := 52) dX6_end_52 ?_
      refine z_iast (pc := 53) dX6_end_53 (hM4.k1) (vp) ?_
      rw [nI_clamp hp3]
      refine z_genM (hM4.p1 (N 3 g) (M 1 (N 3 g) + x)) (fun w5 hM5 hf5 => ?_)
      refine z_aload_n (pc := 54) dX6_end_54 rfl (by first | rfl | exact z_isr_rf _) ?_
      refine gfX6_7 (pc := 55) rfl dX6_end_55 (hM5.k22) rfl ?_
      refine z_aload_n (pc := 58) dX6_end_58 rfl (by first | rfl | exact z_isr_rf _) ?_
      refine gfX6_26 (pc := 59) rfl dX6_end_59 (hM5.k22) rfl ?_
      refine z_iload_n (pc := 62) dX6_end_62 rfl ?_
      refine z_iald (pc := 63) dX6_end_63 (hM5.k9) (vg) ?_
      rw [nI_clamp hg3, show z_sM (z_sM (z_sM (z_sM M 21 0 0) 6 0 0) 11 g x) 1 (N 3 g) (M 1 (N 3 g) + x) 9 g = nI (N 4 g) from hgn.2.1]
      refine z_dup2 (pc := 64) dX6_end_64 (by first | rfl | exact z_isr_cat (z_isr_rf _)) (by first | rfl | exact z_isr_cat (z_isr_rf _)) ?_
      refine z_iald (pc := 65) dX6_end_65 (hM5.k1) (vq) ?_
      refine z_iconst_2 (pc := 66) dX6_end_66 ?_
      refine z_iload_n (pc := 67) dX6_end_67 rfl ?_
      refine z_isub (pc := 68) dX6_end_68 ?_
      refine z_iadd (pc := 69) dX6_end_69 ?_
      refine z_iast (pc := 70) dX6_end_70 (hM5.k1) (vq) ?_
      rw [nI_clamp hq3, show z_sM (z_sM (z_sM (z_sM M 21 0 0) 6 0 0) 11 g x) 1 (N 3 g) (M 1 (N 3 g) + x) 1 (N 4 g) = M 1 (N 4 g) from z_upd_n _ _ (Ne.symm hne)]
      refine z_genM (hM5.p1 (N 4 g) (M 1 (N 4 g) + (2 - x))) (fun w6 hM6 hf6 => ?_)
      refine z_aload_n (pc := 71) dX6_end_71 rfl (by first | rfl | exact z_isr_rf _) ?_
      refine gfX6_13 (pc := 72) rfl dX6_end_72 (hM6.k22) rfl ?_
      refine z_aload_n (pc := 75) dX6_end_75 rfl (by first | rfl | exact z_isr_rf _) ?_
      refine gfX6_23 (pc := 76) rfl dX6_end_76 (hM6.k22) rfl ?_
      refine z_iload_n (pc := 79) dX6_end_79 rfl ?_
      refine z_iald (pc := 80) dX6_end_80 (hM6.k8) (vg) ?_
      rw [nI_clamp hg3, show z_sM (z_sM (z_sM (z_sM (z_sM M 21 0 0) 6 0 0) 11 g x) 1 (N 3 g) (M 1 (N 3 g) + x)) 1 (N 4 g) (M 1 (N 4 g) + (2 - x)) 8 g = nI (N 3 g) from hgn.1]
      refine z_dup2 (pc := 81) dX6_end_81 (by first | rfl | exact z_isr_cat (z_isr_rf _)) (by first | rfl | exact z_isr_cat (z_isr_rf _)) ?_
      refine z_iald (pc := 82) dX6_end_82 (hM6.k2) (vp) ?_
      refine z_iconst_1 (pc := 83) dX6_end_83 ?_
      refine z_iadd (pc := 84) dX6_end_84 ?_
      refine z_iast (pc := 85) dX6_end_85 (hM6.k2) (vp) ?_
      rw [nI_clamp hp3]
      refine z_genM (hM6.p2 (N 3 g) (M 2 (N 3 g) + 1)) (fun w7 hM7 hf7 => ?_)
      refine z_aload_n (pc := 86) dX6_end_86 rfl (by first | rfl | exact z_isr_rf _) ?_
      refine gfX6_13 (pc := 87) rfl dX6_end_87 (hM7.k22) rfl ?_
      refine z_aload_n (pc := 90) dX6_end_90 rfl (by first | rfl | exact z_isr_rf _) ?_
      refine gfX6_26 (pc := 91) rfl dX6_end_91 (hM7.k22) rfl ?_
      refine z_iload_n (pc := 94) dX6_end_94 rfl ?_
      refine z_iald (pc := 95) dX6_end_95 (hM7.k9) (vg) ?_
      rw [nI_clamp hg3, show z_sM (z_sM (z_sM (z_sM (z_sM (z_sM M 21 0 0) 6 0 0) 11 g x) 1 (N 3 g) (M 1 (N 3 g) + x)) 1 (N 4 g) (M 1 (N 4 g) + (2 - x))) 2 (N 3 g) (M 2 (N 3 g) + 1) 9 g = nI (N 4 g) from hgn.2.1]
      refine z_dup2 (pc := 96) dX6_end_96 (by first | rfl | exact z_isr_cat (z_isr_rf _)) (by first | rfl | exact z_isr_cat (z_isr_rf _)) ?_
      refine z_iald (pc := 97) dX6_end_97 (hM7.k2) (vq) ?_
      refine z_iconst_1 (pc := 98) dX6_end_98 ?_
      refine z_isub (pc := 99) dX6_end_99 ?_
      refine z_iast (pc := 100) dX6_end_100 (hM7.k2) (vq) ?_
      rw [nI_clamp hq3, show z_sM (z_sM (z_sM (z_sM (z_sM (z_sM M 21 0 0) 6 0 0) 11 g x) 1 (N 3 g) (M 1 (N 3 g) + x)) 1 (N 4 g) (M 1 (N 4 g) + (2 - x))) 2 (N 3 g) (M 2 (N 3 g) + 1) 2 (N 4 g) = M 2 (N 4 g) from z_upd_n _ _ (Ne.symm hne)]
      refine z_genM (hM7.p2 (N 4 g) (M 2 (N 4 g) - 1)) (fun w8 hM8 hf8 => ?_)
      have hM8 : z_Mo G F A (z_me M g (N 3 g) (N 4 g) x) w8 := hM8
      have hf0 := hf2.tr (hf3.tr (hf4.tr (hf5.tr (hf6.tr (hf7.tr hf8)))))
      obtain ⟨hJ8, hl8, hed⟩ := hJ.endA ho hx
      have hx2 := hx
      obtain ⟨rr, hrr, ex⟩ := hx2
      have e7 : z_e2 I N g x 7 g 0 = nI rr := by rw [z_e2_7, if_pos rfl]; exact ex
      have hbk := hJ8.book (g := g) (e := z_ed N O) (rr := rr) (by omega) hl8 (Nat.le_of_eq hed.symm) e7
      have hG8 := hJ8.2.2.2.1.2.2.2.1 g (by omega)
      have hk5 : z_kn N g ≤ N 5 g := by unfold z_kn; split <;> omega
      have hmv8 : ∀ i, i < z_kn N g → z_me M g (N 3 g) (N 4 g) x 12 (12 * g + i) = nI (z_mv (z_e2 I N g x) g i) ∧ z_mv (z_e2 I N g x) g i < 4 := fun i hi => by
        have h9 := hG8.2.2.2.2.2.2 i (by omega)
        have h10 := z_rg_mv h9.2
        exact ⟨h9.1.trans h10.1, h10.2⟩
      refine z_aload_n (pc := 101) dX6_end_101 rfl (by first | rfl | exact z_isr_rf _) ?_
      refine z_iload_n (pc := 102) dX6_end_102 rfl ?_
      refine z_callV (pc := 103) (mX6_notes hM8 (g := g) (mc := N 5 g) (kn := z_kn N g) (e := z_ed N O) (rr := rr) (mv := z_mv (z_e2 I N g x) g) (I0 := z_e2 I N g x) (I2 := z_kI (z_e2 I N g x) N B g) (B0 := B) hg60 hG8.2.2.2.1 hpq.2.2 rfl hmv8 (hG8.2.2.2.2.1.trans e7) (by omega) hl8 hbk.1 hbk.2.1 hbk.2.2.1) dX6_end_103 cwX6_124 okX6_notes rfl (hM8.k22) rfl rfl (by omega) rfl (Nat.le_of_ble_eq_true rfl) (by omega) (by omega) (fun _ _ h => h.elim) (fun v wN hN => ?_)
      obtain ⟨rfl, hf9, M9, hM9, hk9, hl9⟩ := hN
      have hJ9 := hbk.2.2.2 M9 hk9 hl9
      have e8 : z_kI (z_e2 I N g x) N B g 8 = I 8 := by
        rw [hbk.2.2.1 8 (by decide), z_arf (by decide) (by decide), z_e2_f (by decide) (by decide) (by decide) (by decide) (by decide)]
      have egm : nI (N 1 0) - 1 = nI g := by rw [← hg1, ← nI_1, Int32.add_sub_cancel]
      refine z_aload_n (pc := 106) dX6_end_106 rfl (by first | rfl | exact z_isr_rf _) ?_
      refine z_iload_n (pc := 107) dX6_end_107 rfl ?_
      refine z_callV (pc := 108) (mX6_makes hM9 hJ9 (g := g) (by omega) (nI (N 1 0) - 1) egm) dX6_end_108 cwX6_128 okX6_makes rfl (hM9.k22) rfl rfl (by omega) rfl (Nat.le_of_ble_eq_true rfl) (by omega) (by omega) (fun _ _ h => h.elim) (fun v wN hN => ?_)
      obtain ⟨rfl, hf10, M10, hM10, hJ10, h21⟩ := hN
      rw [e8] at hJ10 ⊢
      have h210 : M10 21 0 = 0 := by rw [h21, hk9 21 (by decide) (by decide) (by decide)]; rfl
      refine z_iret (pc := 111) dX6_end_111 rfl (⟨hf0.tr (hf9.tr hf10), Or.inl ⟨g, rfl, hx, rfl, M10, hM10, h210, hJ10⟩⟩)
  · have hP := z_b_0 hc
    refine z_iconst_0 (pc := 18) dX6_end_18 ?_
    refine z_iret (pc := 19) dX6_end_19 rfl (⟨hf2, Or.inr ⟨hP, rfl, hM2⟩⟩)
end ME

