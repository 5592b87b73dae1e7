/-! games, lines, the book as it is read; the calls of the face that only ask -/
theorem z_upF {α : Type} (f : Nat → α) (k : Nat) (v : α) : vf_upd f k v = va_up f k v := rfl
/-- the shape of the state -/
def z_S (N : z_TN) (O : z_TO) (B : z_TB) : Prop :=
  N 6 0 = N 0 0 ∧ N 7 0 = N 1 0 ∧ N 8 0 = N 2 0 ∧ N 0 0 ≤ 8 ∧ N 1 0 ≤ 60 ∧ N 2 0 ≤ 40 ∧ (∀ g, g < N 1 0 → N 3 g < N 0 0 ∧ N 4 g < N 0 0 ∧ N 5 g ≤ 12) ∧ (∀ g, O 0 0 = some g → g + 1 = N 1 0) ∧ (∀ p q, p < N 0 0 → O 1 p = some q → q < N 0 0) ∧ B 0 0 = true ∧ (∀ i j, B i j = true → i ≤ 6 ∧ j < 4 ^ i) ∧ (∀ i j, B (i + 1) j = true → B i (j % 4 ^ i) = true)
theorem z_ml : ∀ i, i < 7 → ((((2 * nI i) &&& 31).toBitVec.smod 32).toNat = 2 * i) := by decide +kernel
theorem z_moveOf {l i : Nat} (hl : l < 2 ^ 31) (hi : i < 7) : (nI l >>> ((2 * nI i) &&& 31)) &&& 3 = nI (l / 4 ^ i % 4) := by
  rw [pk_shrN hl _ (2 * i) (z_ml i hi), pk_andN (Nat.lt_of_le_of_lt (Nat.div_le_self _ _) (by omega)) 2 (by decide), Nat.pow_mul]
section PURE2
variable (G : z_G) (w : z_W)
theorem mX5_moveOfLine {l i : Nat} (hl : l < 2 ^ 31) (hi : i < 7) : z_M G zX5_moveOfLine 0 [.int (nI l), .int (nI i)] w 0 0 (z_rp (.int (nI (l / 4 ^ i % 4))) w) z_nx := by
  refine z_M.of (by decide +kernel) rfl (by intro v hv; simp only [List.mem_cons, List.not_mem_nil, or_false] at hv; rcases hv with rfl | rfl <;> first | rfl | exact z_isr_cat (z_isr_rf _)) (Nat.le_of_ble_eq_true rfl) ?_
  show z_E _ zX5_moveOfLine _ _ 0 [some (.int (nI l)), some (.int (nI i))] [] _ _ _
  refine z_iload_n (pc := 0) dX5_moveOfLine_0 rfl ?_
  refine z_iconst_2 (pc := 1) dX5_moveOfLine_1 ?_
  refine z_iload_n (pc := 2) dX5_moveOfLine_2 rfl ?_
  refine z_imul (pc := 3) dX5_moveOfLine_3 ?_
  refine z_ishr (pc := 4) dX5_moveOfLine_4 ?_
  refine z_iconst_3 (pc := 5) dX5_moveOfLine_5 ?_
  refine z_iand (pc := 6) dX5_moveOfLine_6 ?_
  refine z_iret (pc := 7) dX5_moveOfLine_7 rfl (⟨by rw [z_moveOf hl hi], rfl⟩)
end PURE2
def bad (c s o : Int32) : Prop := 3 ≤ c ∧ 3 * (if o = 0 then 2 * c - s else s) < 2 * c
section GM
variable {G : z_G} {F : Nat → Prop} {A : Nat → Nat → Nat → Nat} {I : z_TI} {N : z_TN} {O : z_TO} {B : z_TB} {w : z_W}
theorem mX1_isFull (hC : z_C G F A I N O B w) {g : Nat} (hg : g < N 7 0) (h12 : N 5 g ≤ 12) : z_M G zX1_isFull 0 [.ref (A 9 g 0)] w 0 0 (z_rp (.int (if N 5 g < 12 then 0 else 1)) w) z_nx := by
  refine z_M.of (by decide +kernel) rfl (by intro v hv; simp only [List.mem_cons, List.not_mem_nil, or_false] at hv; rcases hv with rfl <;> first | rfl | exact z_isr_cat (z_isr_rf _)) (Nat.le_of_ble_eq_true rfl) ?_
  show z_E _ zX1_isFull _ _ 0 [some (.ref (A 9 g 0))] [] _ _ _
  refine z_aload_n (pc := 0) dX1_isFull_0 rfl (by first | rfl | exact z_isr_rf _) ?_
  refine gfX1_26 (pc := 1) rfl dX1_isFull_1 (hC.k9 hg) rfl ?_
  refine z_aload_n (pc := 4) dX1_isFull_4 rfl (by first | rfl | exact z_isr_rf _) ?_
  refine gfX1_9 (pc := 5) rfl dX1_isFull_5 (hC.k9 hg) rfl ?_
  refine z_alen (pc := 8) dX1_isFull_8 (hC.k10 hg) rfl rfl ?_
  refine z_icmp_lt (pc := 9) (tgt := 16) dX1_isFull_9 (by decide) (fun hc => ?_) (fun hc => ?_)
  · refine z_iconst_0 (pc := 16) dX1_isFull_16 ?_
    rw [nI_ltI (by omega) (by omega)] at hc
    refine z_zret (pc := 17) dX1_isFull_17 rfl (Or.inl rfl ) ( ⟨by rw [if_pos hc], rfl⟩)
  · refine z_iconst_1 (pc := 12) dX1_isFull_12 ?_
    refine z_goto (pc := 13) (tgt := 17) dX1_isFull_13 (by decide) ?_
    rw [nI_ltI (by omega) (by omega)] at hc
    refine z_zret (pc := 17) dX1_isFull_17 rfl (Or.inr rfl ) ( ⟨by rw [if_neg hc], rfl⟩)
theorem mX1_moveAt (hC : z_C G F A I N O B w) {g i : Nat} (hg : g < N 7 0) (hi : i < 12) : z_M G zX1_moveAt 0 [.ref (A 9 g 0), .int (nI i)] w 0 0 (z_rp (.int (I 8 g i)) w) z_nx := by
  refine z_M.of (by decide +kernel) rfl (by intro v hv; simp only [List.mem_cons, List.not_mem_nil, or_false] at hv; rcases hv with rfl | rfl <;> first | rfl | exact z_isr_cat (z_isr_rf _)) (Nat.le_of_ble_eq_true rfl) ?_
  show z_E _ zX1_moveAt _ _ 0 [some (.ref (A 9 g 0)), some (.int (nI i))] [] _ _ _
  have hi3 : i < 2 ^ 31 := by omega
  refine z_iload_n (pc := 0) dX1_moveAt_0 rfl ?_
  refine z_if_lt (pc := 1) (tgt := 22) dX1_moveAt_1 (by decide) (fun hn => absurd hn (nI_pos hi3)) (fun _ => ?_)
  refine z_iload_n (pc := 4) dX1_moveAt_4 rfl ?_
  refine z_aload_n (pc := 5) dX1_moveAt_5 rfl (by first | rfl | exact z_isr_rf _) ?_
  refine gfX1_9 (pc := 6) rfl dX1_moveAt_6 (hC.k9 hg) rfl ?_
  refine z_alen (pc := 9) dX1_moveAt_9 (hC.k10 hg) rfl rfl ?_
  refine z_icmp_ge (pc := 10) (tgt := 22) dX1_moveAt_10 (by decide) (fun hn => absurd hn (nI_ge hi (by omega))) (fun _ => ?_)
  refine z_aload_n (pc := 13) dX1_moveAt_13 rfl (by first | rfl | exact z_isr_rf _) ?_
  refine gfX1_9 (pc := 14) rfl dX1_moveAt_14 (hC.k9 hg) rfl ?_
  refine z_iload_n (pc := 17) dX1_moveAt_17 rfl ?_
  refine z_iald (pc := 18) dX1_moveAt_18 (hC.k10 hg) (vp_in_nI hi (by omega)) ?_
  refine z_goto (pc := 19) (tgt := 23) dX1_moveAt_19 (by decide) ?_
  refine z_iret (pc := 23) dX1_moveAt_23 rfl (⟨by rw [nI_clamp hi3], rfl⟩)
theorem z_C.pN5 (h : z_C G F A I N O B w) {g : Nat} (hg : g < N 7 0) (v : Nat) : z_C G F A I (z_sN N 5 g v) O B (z_up w (A 9 g 0) (.inr (1, [.ref (A 5 (N 3 g) 0), .ref (A 5 (N 4 g) 0), .ref (A 10 g 0), .int (nI v), .int (I 6 g 0), .int (I 7 g 0)]))) ∧ z_fr F w (z_up w (A 9 g 0) (.inr (1, [.ref (A 5 (N 3 g) 0), .ref (A 5 (N 4 g) 0), .ref (A 10 g 0), .int (nI v), .int (I 6 g 0), .int (I 7 g 0)]))) := by
  have hlv : z_lv (z_sN N 5 g v) B = z_lv N B := by
    funext k i j
    unfold z_lv
    split <;> rfl
  unfold z_C
  rw [hlv]
  refine z_tw.put h (k := 9) (i := g) (j := 0) ⟨hg, rfl⟩ (by simp [z_ct, z_sN]) (fun k' i' j' hl hn => ?_)
  unfold z_ct
  split <;> first
    | rfl
    | (have hi : i' ≠ g := fun q => hn ⟨rfl, q, hl.2⟩
       simp [z_sN, hi])
theorem mX1_addMove (hC : z_C G F A I N O B w) {g : Nat} {m : Int32} (hg : g < N 7 0) (h12 : N 5 g < 12) : z_M G zX1_addMove 1 [.ref (A 9 g 0), .int m] w 0 0 (z_st G F A (z_sI (z_sI I 8 g (N 5 g) m) 6 g 0 (nx (I 6 g 0) m)) (z_sN N 5 g (N 5 g + 1)) O B w none) z_nx := by
  refine z_M.of (by decide +kernel) rfl (by intro v hv; simp only [List.mem_cons, List.not_mem_nil, or_false] at hv; rcases hv with rfl | rfl <;> first | rfl | exact z_isr_cat (z_isr_rf _)) (Nat.le_of_ble_eq_true rfl) ?_
  show z_E _ zX1_addMove _ _ 0 [some (.ref (A 9 g 0)), some (.int m)] [] _ _ _
  have h3 : N 5 g < 2 ^ 31 := by omega
  refine z_aload_n (pc := 0) dX1_addMove_0 rfl (by first | rfl | exact z_isr_rf _) ?_
  refine gfX1_26 (pc := 1) rfl dX1_addMove_1 (hC.k9 hg) rfl ?_
  refine z_if_lt (pc := 4) (tgt := 51) dX1_addMove_4 (by decide) (fun hn => absurd hn (nI_pos h3)) (fun _ => ?_)
  refine z_aload_n (pc := 7) dX1_addMove_7 rfl (by first | rfl | exact z_isr_rf _) ?_
  refine gfX1_26 (pc := 8) rfl dX1_addMove_8 (hC.k9 hg) rfl ?_
  refine z_aload_n (pc := 11) dX1_addMove_11 rfl (by first | rfl | exact z_isr_rf _) ?_
  refine gfX1_9 (pc := 12) rfl dX1_addMove_12 (hC.k9 hg) rfl ?_
  refine z_alen (pc := 15) dX1_addMove_15 (hC.k10 hg) rfl rfl ?_
  refine z_icmp_ge (pc := 16) (tgt := 51) dX1_addMove_16 (by decide) (fun hn => absurd hn (nI_ge h12 (by omega))) (fun _ => ?_)
  refine z_aload_n (pc := 19) dX1_addMove_19 rfl (by first | rfl | exact z_isr_rf _) ?_
  refine gfX1_9 (pc := 20) rfl dX1_addMove_20 (hC.k9 hg) rfl ?_
  refine z_aload_n (pc := 23) dX1_addMove_23 rfl (by first | rfl | exact z_isr_rf _) ?_
  refine gfX1_26 (pc := 24) rfl dX1_addMove_24 (hC.k9 hg) rfl ?_
  refine z_iload_n (pc := 27) dX1_addMove_27 rfl ?_
  refine z_iast (pc := 28) dX1_addMove_28 (hC.k10 hg) (vp_in_nI h12 (by omega)) ?_
  rw [nI_clamp h3]
  refine z_genC (hC.p8 hg (N 5 g) m) (fun w2 hC2 hf2 => ?_)
  refine z_aload_n (pc := 29) dX1_addMove_29 rfl (by first | rfl | exact z_isr_rf _) ?_
  refine z_dup (pc := 30) dX1_addMove_30 (by first | rfl | exact z_isr_cat (z_isr_rf _)) ?_
  refine gfX1_26 (pc := 31) rfl dX1_addMove_31 (hC2.k9 hg) rfl ?_
  refine z_iconst_1 (pc := 34) dX1_addMove_34 ?_
  refine z_iadd (pc := 35) dX1_addMove_35 ?_
  rw [nI_1]
  refine pfX1_26 (pc := 36) rfl dX1_addMove_36 (hC2.k9 hg) (Nat.le_of_ble_eq_true rfl) ?_
  refine z_genC (hC2.pN5 hg (N 5 g + 1)) (fun w3 hC3 hf3 => ?_)
  refine z_aload_n (pc := 39) dX1_addMove_39 rfl (by first | rfl | exact z_isr_rf _) ?_
  refine z_aload_n (pc := 40) dX1_addMove_40 rfl (by first | rfl | exact z_isr_rf _) ?_
  refine gfX1_15 (pc := 41) rfl dX1_addMove_41 (hC3.k9 hg) rfl ?_
  refine z_iload_n (pc := 44) dX1_addMove_44 rfl ?_
  refine z_callSNp (pc := 45) (mX5_positionAfter G w3 _ m) dX1_addMove_45 cwX1_29 okX5_positionAfter rfl (by omega) rfl (Nat.le_of_ble_eq_true rfl) ?_
  refine pfX1_15 (pc := 48) rfl dX1_addMove_48 (hC3.k9 hg) (Nat.le_of_ble_eq_true rfl) ?_
  refine z_genC (hC3.p6 hg _) (fun w4 hC4 hf4 => ?_)
  refine z_vret (pc := 51) dX1_addMove_51 rfl (⟨rfl, hC4, hf2.tr (hf3.tr hf4)⟩)
end GM

