/-! the book as it is kept -/
theorem z_sB_t {B : z_TB} {i j : Nat} (h : B i j = true) : z_sB B i j = B := by
  funext a b
  unfold z_sB
  by_cases q : a = i ∧ b = j
  · rw [if_pos q, q.1, q.2, h]
  · rw [if_neg q]
theorem z_sB_s (B : z_TB) (i j : Nat) : z_sB B i j i j = true := if_pos ⟨rfl, rfl⟩
theorem z_sB_m {B : z_TB} {i j a b : Nat} (h : B a b = true) : z_sB B i j a b = true := by
  unfold z_sB
  by_cases q : a = i ∧ b = j
  · rw [if_pos q]
  · rw [if_neg q, h]
theorem z_sB_o {B : z_TB} {i j a b : Nat} (h : ¬ (a = i ∧ b = j)) : z_sB B i j a b = B a b := if_neg h
theorem z_S.addB {N : z_TN} {O : z_TO} {B : z_TB} (hS : z_S N O B) {i j : Nat} (hi : i < 6) (hj : j < 4 ^ (i + 1)) (hB : B i (j % 4 ^ i) = true) : z_S N O (z_sB B (i + 1) j) := by
  obtain ⟨h1, h2, h3, h4, h5, h6, h7, h8, h9, h10, h11, h12⟩ := hS
  refine ⟨h1, h2, h3, h4, h5, h6, h7, h8, h9, z_sB_m h10, fun a b h => ?_, fun a b h => ?_⟩
  · unfold z_sB at h
    by_cases q : a = i + 1 ∧ b = j
    · obtain ⟨rfl, rfl⟩ := q; exact ⟨hi, hj⟩
    · rw [if_neg q] at h; exact h11 a b h
  · refine z_sB_m ?_
    unfold z_sB at h
    by_cases q : a + 1 = i + 1 ∧ b = j
    · obtain ⟨q1, rfl⟩ := q
      have : a = i := by omega
      subst this
      exact hB
    · rw [if_neg q] at h; exact h12 a b h
theorem z_Z.addB {I : z_TI} {B : z_TB} (h : z_Z I B) (i j : Nat) : z_Z I (z_sB B i j) := fun a b q => h a b (by
  unfold z_sB at q
  by_cases r : a = i ∧ b = j
  · rw [if_pos r] at q; cases q
  · rw [if_neg r] at q; exact q)
theorem z_Z.putI {I : z_TI} {B : z_TB} (h : z_Z I B) {f i j : Nat} (hB : B i j = true) (v : Int32) : z_Z (z_sI I f i j v) B := fun a b q => by
  have hn : ¬ (a = i ∧ b = j) := fun ⟨r1, r2⟩ => by rw [r1, r2, hB] at q; cases q
  rw [z_sI_ne _ _ (fun z => hn z.2), z_sI_ne _ _ (fun z => hn z.2), z_sI_ne _ _ (fun z => hn z.2)]
  exact h a b q
/-- the numbers of a game's beginnings -/
def z_px (mv : Nat → Nat) : Nat → Nat | 0 => 0 | i + 1 => z_px mv i + mv i * 4 ^ i
theorem z_px_lt {mv : Nat → Nat} {n : Nat} (h : ∀ i, i < n → mv i < 4) : ∀ i, i ≤ n → z_px mv i < 4 ^ i
  | 0, _ => by show 0 < 1; omega
  | i + 1, hi => by
    have h1 := z_px_lt h i (by omega)
    have h2 := h i (by omega)
    have h3 : mv i * 4 ^ i ≤ 3 * 4 ^ i := Nat.mul_le_mul_right _ (by omega)
    unfold z_px
    rw [Nat.pow_succ]
    omega
theorem z_px_mod {mv : Nat → Nat} {n : Nat} (h : ∀ i, i < n → mv i < 4) {i : Nat} (hi : i ≤ n) : z_px mv (i + 1) % 4 ^ i = z_px mv i := by
  show (z_px mv i + mv i * 4 ^ i) % 4 ^ i = _
  rw [Nat.add_mul_mod_self_right, Nat.mod_eq_of_lt (z_px_lt h i hi)]
/-- a result put into the book, from the line of i moves on -/
def z_ar (mv : Nat → Nat) (r : Int32) : Nat → z_TI → z_TB → Nat → z_TI × z_TB
  | 0, I, B, _ => (I, B)
  | m + 1, I, B, i => if I 13 (i + 1) (z_px mv (i + 1)) = 0 then z_ar mv r m (z_sI (z_sI I 11 (i + 1) (z_px mv (i + 1)) (I 11 (i + 1) (z_px mv (i + 1)) + 1)) 12 (i + 1) (z_px mv (i + 1)) (I 12 (i + 1) (z_px mv (i + 1)) + r)) (z_sB B (i + 1) (z_px mv (i + 1))) (i + 1) else (I, z_sB B (i + 1) (z_px mv (i + 1)))
noncomputable def z_db (mv : Nat → Nat) : Nat → z_TI → z_TB → Nat → z_TI
  | 0, I, _, _ => I
  | m + 1, I, B, i => if B (i + 1) (z_px mv (i + 1)) = true ∧ I 13 (i + 1) (z_px mv (i + 1)) = 0 then @ite _ (bad (I 11 (i + 1) (z_px mv (i + 1))) (I 12 (i + 1) (z_px mv (i + 1))) (if i % 2 = 0 then 1 else 0)) (Classical.propDecidable _) (z_sI I 13 (i + 1) (z_px mv (i + 1)) 1) (z_db mv m I B (i + 1)) else I
theorem z_lv_le {N : z_TN} {B : z_TB} {k i j : Nat} (h : z_lv N B k i j) : k ≤ 13 := by
  unfold z_lv at h
  split at h <;> first
    | omega
    | exact h.elim
section BW
variable {G : z_G} {F : Nat → Prop} {A : z_TA} {I : z_TI} {N : z_TN} {O : z_TO} {B : z_TB} {w : z_W}
theorem mX2_madeWith (hC : z_C G F A I N O B w) (hS : z_S N O B) (hZ : z_Z I B) {i j m : Nat} (hB : B i j = true) (hm : m < 4) : z_M G zX2_madeWith 2 [.ref (A 12 i j), .int (nI m)] w 2 8 (fun v w' => z_fr F w w' ∧ ∃ A', v = some (.ref (A' 12 (i + 1) (j + m * 4 ^ i))) ∧ (∀ k, k < 12 → A' k = A k) ∧ (∀ a b, B a b = true → A' 12 a b = A 12 a b) ∧ z_C G F A' I N O (z_sB B (i + 1) (j + m * 4 ^ i)) w') z_nx := by
  have hm3 : m < 2 ^ 31 := by omega
  have hj : j < 4 ^ i := (hS.2.2.2.2.2.2.2.2.2.2.1 i j hB).2
  refine z_M.of (by decide +kernel) rfl (by intro v hv; simp only [List.mem_cons, List.not_mem_nil, or_false] at hv; rcases hv with rfl | rfl <;> first | rfl | exact z_isr_cat (z_isr_rf _)) (Nat.le_of_ble_eq_true rfl) ?_
  show z_E _ zX2_madeWith _ _ 0 [some (.ref (A 12 i j)), some (.int (nI m)), none] [] _ _ _
  refine z_iload_n (pc := 0) dX2_madeWith_0 rfl ?_
  refine z_if_lt (pc := 1) (tgt := 13) dX2_madeWith_1 (by decide) (fun hn => absurd hn (nI_pos hm3)) (fun _ => ?_)
  refine z_iload_n (pc := 4) dX2_madeWith_4 rfl ?_
  refine z_aload_n (pc := 5) dX2_madeWith_5 rfl (by first | rfl | exact z_isr_rf _) ?_
  refine gfX2_11 (pc := 6) rfl dX2_madeWith_6 (hC.k12 hB) rfl ?_
  refine z_alen (pc := 9) dX2_madeWith_9 (hC.k13 hB) rfl rfl ?_
  refine z_icmp_lt (pc := 10) (tgt := 15) dX2_madeWith_10 (by decide) (fun _ => ?_) (fun hn => absurd (nI_lt hm (by omega)) hn)
  refine z_aload_n (pc := 15) dX2_madeWith_15 rfl (by first | rfl | exact z_isr_rf _) ?_
  refine gfX2_11 (pc := 16) rfl dX2_madeWith_16 (hC.k12 hB) rfl ?_
  refine z_iload_n (pc := 19) dX2_madeWith_19 rfl ?_
  refine z_aaldN (pc := 20) dX2_madeWith_20 (hC.k13 hB) (vp_in_nI hm (by omega)) ?_
  rw [nI_clamp hm3]
  by_cases hc : B (i + 1) (j + m * 4 ^ i) = true
  · rw [if_pos hc]
    refine z_astore2 (pc := 21) dX2_madeWith_21 (by first | rfl | exact z_isr_rf _) ?_
    refine z_aload_n (pc := 22) dX2_madeWith_22 rfl (by first | rfl | exact z_isr_rf _) ?_
    refine z_ifnonnull (pc := 23) (tgt := 41) dX2_madeWith_23 (by decide) (by first | rfl | exact z_isr_rf _) (fun _ _ => ?_) (fun hn => by cases hn)
    refine z_aload_n (pc := 41) dX2_madeWith_41 rfl (by first | rfl | exact z_isr_rf _) ?_
    refine z_aret (pc := 42) dX2_madeWith_42 rfl (by first | rfl | exact z_isr_rf _) (⟨z_fr.rf, A, rfl, fun _ _ => rfl, fun _ _ _ => rfl, by rw [z_sB_t hc]; exact hC⟩)
  · rw [if_neg hc]
    have hcf : B (i + 1) (j + m * 4 ^ i) = false := Bool.eq_false_iff.mpr hc
    refine z_astore2 (pc := 21) dX2_madeWith_21 (by first | rfl | exact z_isr_rf _) ?_
    refine z_aload_n (pc := 22) dX2_madeWith_22 rfl (by first | rfl | exact z_isr_rf _) ?_
    refine z_ifnonnull (pc := 23) (tgt := 41) dX2_madeWith_23 (by decide) (by first | rfl | exact z_isr_rf _) (fun _ hn => by cases hn) (fun _ => ?_)
    refine nwX2_9 (pc := 26) rfl dX2_madeWith_26 (by omega) (by omega) (fun q hq => ?_)
    refine z_dup (pc := 29) dX2_madeWith_29 (by first | rfl | exact z_isr_cat (z_isr_rf _)) ?_
    refine z_callI (pc := 30) (mX2_init (z_upS w q _)) dX2_madeWith_30 cwX2_15 okX2_init rfl (by omega) rfl (Nat.le_of_ble_eq_true rfl) (by omega) (by omega) (fun _ _ h => h.elim) (fun v wN hN => ?_)
    obtain ⟨rfl, r, hr, wq, wr, hk⟩ := hN
    obtain ⟨hr, n1⟩ := z_none hr
    have hch : ∀ m', B (i + 1 + 1) (j + m * 4 ^ i + m' * 4 ^ (i + 1)) = false := by
      intro m'
      cases hq : B (i + 1 + 1) (j + m * 4 ^ i + m' * 4 ^ (i + 1)) with
      | false => rfl
      | true =>
        have h1 := hS.2.2.2.2.2.2.2.2.2.2.2 (i + 1) _ hq
        rw [Nat.add_mul_mod_self_right, Nat.mod_eq_of_lt (by rw [Nat.pow_succ]; have : m * 4 ^ i ≤ 3 * 4 ^ i := Nat.mul_le_mul_right _ (by omega); omega)] at h1
        exact absurd h1 hc
    have hct : z_ct G (z_AL A (i + 1) (j + m * 4 ^ i) q r) I N O B 13 (i + 1) (j + m * 4 ^ i) = .inl (G.2.1 7, 4, z_rs (fun _ => none)) := by
      show (Sum.inl (G.2.1 7, 4, z_rs (fun m' => if B (i + 1 + 1) (j + m * 4 ^ i + m' * 4 ^ (i + 1)) then _ else none)) : va_E) = _
      congr 5
      congr 1
      funext m'
      rw [hch m']; rfl
    obtain ⟨hT, hf⟩ := hC.growL hZ hS.2.2.2.2.2.2.2.2.2.1 hcf (fun m' _ => hch m') hq hr n1 wq wr (hk.old hq) hct
    have hne : ∀ a b, B a b = true → ¬ (a = i + 1 ∧ b = j + m * 4 ^ i) := fun a b h ⟨e1, e2⟩ => hc (by rw [← e1, ← e2]; exact h)
    have e12 : z_AL A (i + 1) (j + m * 4 ^ i) q r 12 (i + 1) (j + m * 4 ^ i) = q := by simp [z_AL, z_sA]
    have o12 := hT.at (k := 12) (i := i) (j := j) (Or.inl hB)
    have o13 := hT.at (k := 13) (i := i) (j := j) (Or.inl hB)
    rw [z_AL_ne (hne i j hB)] at o12 o13
    have o12' : wN (A 12 i j) = some (.inr (2, [.ref (A 13 i j), .int (I 11 i j), .int (I 12 i j), .int (I 13 i j)])) := by
      rw [o12]
      show some (Sum.inr (2, [.ref (z_AL A (i + 1) (j + m * 4 ^ i) q r 13 i j), _, _, _]) : va_E) = _
      rw [z_AL_ne (hne i j hB)]
    refine z_astore2 (pc := 33) dX2_madeWith_33 (by first | rfl | exact z_isr_rf _) ?_
    refine z_aload_n (pc := 34) dX2_madeWith_34 rfl (by first | rfl | exact z_isr_rf _) ?_
    refine gfX2_11 (pc := 35) rfl dX2_madeWith_35 (o12') rfl ?_
    refine z_iload_n (pc := 38) dX2_madeWith_38 rfl ?_
    refine z_aload_n (pc := 39) dX2_madeWith_39 rfl (by first | rfl | exact z_isr_rf _) ?_
    refine z_aastN (pc := 40) dX2_madeWith_40 (o13) (wq) (vp_in_nI hm (by omega)) ?_
    rw [nI_clamp hm3]
    obtain ⟨hT2, hf2⟩ := z_tw.put (ct' := z_ct G (z_AL A (i + 1) (j + m * 4 ^ i) q r) I N O (z_sB B (i + 1) (j + m * 4 ^ i))) hT (k := 13) (i := i) (j := j) (e := .inl (G.2.1 7, 4, z_rs (va_up (fun m' => if B (i + 1) (j + m' * 4 ^ i) then some (z_AL A (i + 1) (j + m * 4 ^ i) q r 12 (i + 1) (j + m' * 4 ^ i)) else none) m (some q)))) (Or.inl hB) (by
        show (Sum.inl (G.2.1 7, 4, z_rs (fun m' => if z_sB B (i + 1) (j + m * 4 ^ i) (i + 1) (j + m' * 4 ^ i) then some (z_AL A (i + 1) (j + m * 4 ^ i) q r 12 (i + 1) (j + m' * 4 ^ i)) else none)) : va_E) = _
        congr 5
        congr 1
        funext m'
        unfold va_up
        by_cases h : m' = m
        · rw [if_pos h, h, if_pos (z_sB_s _ _ _), e12]
        · rw [if_neg h]
          dsimp only
          have hn : ¬ (i + 1 = i + 1 ∧ j + m' * 4 ^ i = j + m * 4 ^ i) := by
            rintro ⟨-, h2⟩
            have h3 : m' * 4 ^ i = m * 4 ^ i := by omega
            exact h (Nat.eq_of_mul_eq_mul_right (Nat.pow_pos (by omega)) h3)
          rw [show z_sB B (i + 1) (j + m * 4 ^ i) (i + 1) (j + m' * 4 ^ i) = B (i + 1) (j + m' * 4 ^ i) from if_neg hn]) (by
        intro k' i' j' hl hn
        have hk13 : k' ≤ 13 := by
          rcases hl with hl | ⟨hl, -⟩
          · exact z_lv_le hl
          · omega
        by_cases h13 : k' = 13
        · subst h13
          show (Sum.inl (G.2.1 7, 4, z_rs (fun m' => if z_sB B (i + 1) (j + m * 4 ^ i) (i' + 1) (j' + m' * 4 ^ i') then _ else none)) : va_E) = Sum.inl (G.2.1 7, 4, z_rs (fun m' => if B (i' + 1) (j' + m' * 4 ^ i') then _ else none))
          congr 5
          congr 1
          funext m'
          rw [z_sB_o]
          rintro ⟨h1, h2⟩
          have hi' : i' = i := by omega
          subst hi'
          rcases hl with hl | ⟨-, h3, -⟩
          · have hj' : j' < 4 ^ i' := (hS.2.2.2.2.2.2.2.2.2.2.1 i' j' hl).2
            have e1 : (j' + m' * 4 ^ i') % 4 ^ i' = j' := by rw [Nat.add_mul_mod_self_right, Nat.mod_eq_of_lt hj']
            have e2 : (j + m * 4 ^ i') % 4 ^ i' = j := by rw [Nat.add_mul_mod_self_right, Nat.mod_eq_of_lt hj]
            rw [h2, e2] at e1
            exact hn ⟨rfl, rfl, e1.symm⟩
          · omega
        · have h : k' = 0 ∨ k' = 1 ∨ k' = 2 ∨ k' = 3 ∨ k' = 4 ∨ k' = 5 ∨ k' = 6 ∨ k' = 7 ∨ k' = 8 ∨ k' = 9 ∨ k' = 10 ∨ k' = 11 ∨ k' = 12 := by omega
          rcases h with rfl | rfl | rfl | rfl | rfl | rfl | rfl | rfl | rfl | rfl | rfl | rfl | rfl <;> rfl)
    rw [z_AL_ne (hne i j hB)] at hT2 hf2
    refine z_genC (A := z_AL A (i + 1) (j + m * 4 ^ i) q r) (I := I) (N := N) (O := O) (B := z_sB B (i + 1) (j + m * 4 ^ i)) (w0 := wN) ⟨z_tw.re hT2 ?_ (fun _ _ _ _ => rfl), hf2⟩ (fun w3 hC3 hf3 => ?_)
    · intro k a b hl
      unfold z_lv at hl ⊢
      split at hl <;> first
        | exact Or.inl hl
        | (unfold z_sB at hl
           by_cases h : a = i + 1 ∧ b = j + m * 4 ^ i
           · exact Or.inr ⟨by simp, h⟩
           · rw [if_neg h] at hl; exact Or.inl hl)
    · refine z_aload_n (pc := 41) dX2_madeWith_41 rfl (by first | rfl | exact z_isr_rf _) ?_
      refine z_aret (pc := 42) dX2_madeWith_42 rfl (by first | rfl | exact z_isr_rf _) (⟨hf.tr hf3, z_AL A (i + 1) (j + m * 4 ^ i) q r, by rw [e12], fun k hk => z_AL_k hk, fun a b h => z_AL_ne (hne a b h) 12, hC3⟩)
theorem iX0_addResult {QX} {g : Nat} {mv : Nat → Nat} {r : Int32} {w0 : z_W} {A0 : z_TA} {I9 : z_TI} {B9 : z_TB} {a4 a9 : Nat} {n : Nat} (h6 : n ≤ 6) (hmv : ∀ i, i < n → mv i < 4) : ∀ m i : Nat, n - i = m → i ≤ n → ∀ (A : z_TA) (I : z_TI) (B : z_TB) (w : z_W), z_C G F A I N O B w → z_S N O B → z_Z I B → z_fr F w0 w → (∀ k, k < 12 → A k = A0 k) → A 4 0 0 = a4 → A 9 g 0 = a9 → g < N 7 0 → (∀ i, i < n → I 8 g i = nI (mv i)) → I 7 g 0 = r → B i (z_px mv i) = true → z_ar mv r m I B i = (I9, B9) →
    z_E G zX0_addResult 3 (z_mq G (fun v w' => v = none ∧ z_fr F w0 w' ∧ z_S N O B9 ∧ z_Z I9 B9 ∧ ∃ A', (∀ k, k < 12 → A' k = A0 k) ∧ z_C G F A' I9 N O B9 w') QX) 8 [some (.ref a4), some (.ref a9), some (.int (nI n)), some (.ref (A 12 i (z_px mv i))), some (.int (nI i))] [] w (2 * (6 - i)) (8 * (6 - i)) := by
  intro m
  induction m with
  | zero =>
    intro i hm hi A I B w hC hS hZ hf hA h4 h9 hg hI hr hB har
    have : i = n := by omega
    subst this
    obtain ⟨rfl, rfl⟩ := Prod.mk.inj har
    refine z_iload (pc := 8) dX0_addResult_8 rfl ?_
    refine z_iload_n (pc := 10) dX0_addResult_10 rfl ?_
    refine z_icmp_ge (pc := 11) (tgt := 66) dX0_addResult_11 (by decide) (fun _ => ?_) (fun hn => absurd (nI_le (Nat.le_refl _) (by omega)) hn)
    refine z_vret (pc := 66) dX0_addResult_66 rfl (⟨rfl, hf, hS, hZ, A, hA, hC⟩)
  | succ m ih =>
    intro i hm hi A I B w hC hS hZ hf hA h4 h9 hg hI hr hB har
    have hin : i < n := by omega
    subst h4
    subst h9
    refine z_iload (pc := 8) dX0_addResult_8 rfl ?_
    refine z_iload_n (pc := 10) dX0_addResult_10 rfl ?_
    refine z_icmp_ge (pc := 11) (tgt := 66) dX0_addResult_11 (by decide) (fun hn => absurd hn (nI_ge hin (by omega))) (fun _ => ?_)
    refine z_aload_n (pc := 14) dX0_addResult_14 rfl (by first | rfl | exact z_isr_rf _) ?_
    refine z_aload_n (pc := 15) dX0_addResult_15 rfl (by first | rfl | exact z_isr_rf _) ?_
    refine z_iload (pc := 16) dX0_addResult_16 rfl ?_
    refine z_callVp (pc := 18) (mX1_moveAt hC hg (show i < 12 by omega)) dX0_addResult_18 cwX0_37 okX1_moveAt rfl (hC.k9 hg) rfl rfl (by omega) rfl (Nat.le_of_ble_eq_true rfl) ?_
    rw [hI i hin]
    refine z_callV (pc := 21) (mX2_madeWith hC hS hZ hB (hmv i hin)) dX0_addResult_21 cwX0_41 okX2_madeWith rfl (hC.k12 hB) rfl rfl (by omega) rfl (Nat.le_of_ble_eq_true rfl) (by omega) (by omega) (fun _ _ h => h.elim) (fun v wN hN => ?_)
    obtain ⟨hf2, A2, rfl, hA2, hA12, hC2⟩ := hN
    have hS2 : z_S N O (z_sB B (i + 1) (z_px mv (i + 1))) := hS.addB (by omega) (z_px_lt hmv (i + 1) (by omega)) (by rw [z_px_mod hmv (by omega)]; exact hB)
    have hB2 : z_sB B (i + 1) (z_px mv (i + 1)) (i + 1) (z_px mv (i + 1)) = true := z_sB_s _ _ _
    have hZ2 := hZ.addB (i + 1) (z_px mv (i + 1))
    have e9 : A 9 g 0 = A2 9 g 0 := by rw [hA2 9 (by omega)]
    have e4 : A 4 0 0 = A2 4 0 0 := by rw [hA2 4 (by omega)]
    have hC2 : z_C G F A2 I N O (z_sB B (i + 1) (z_px mv (i + 1))) wN := hC2
    show z_E G zX0_addResult 3 _ 24 _ [.ref (A2 12 (i + 1) (z_px mv (i + 1)))] wN _ _
    rw [e9, e4]
    refine z_astore3 (pc := 24) dX0_addResult_24 (by first | rfl | exact z_isr_rf _) ?_
    refine z_aload_n (pc := 25) dX0_addResult_25 rfl (by first | rfl | exact z_isr_rf _) ?_
    refine z_ifnull (pc := 26) (tgt := 36) dX0_addResult_26 (by decide) (by first | rfl | exact z_isr_rf _) (fun hn => by cases hn) (fun _ _ => ?_)
    refine z_aload_n (pc := 29) dX0_addResult_29 rfl (by first | rfl | exact z_isr_rf _) ?_
    refine gfX0_45 (pc := 30) rfl dX0_addResult_30 (hC2.k12 hB2) rfl ?_
    by_cases hd : I 13 (i + 1) (z_px mv (i + 1)) = 0
    · refine z_if_eq (pc := 33) (tgt := 37) dX0_addResult_33 (by decide) (fun _ => ?_) (fun hn => absurd (hd) hn)
      refine z_aload_n (pc := 37) dX0_addResult_37 rfl (by first | rfl | exact z_isr_rf _) ?_
      refine z_dup (pc := 38) dX0_addResult_38 (by first | rfl | exact z_isr_cat (z_isr_rf _)) ?_
      refine gfX0_49 (pc := 39) rfl dX0_addResult_39 (hC2.k12 hB2) rfl ?_
      refine z_iconst_1 (pc := 42) dX0_addResult_42 ?_
      refine z_iadd (pc := 43) dX0_addResult_43 ?_
      refine pfX0_49 (pc := 44) rfl dX0_addResult_44 (hC2.k12 hB2) (Nat.le_of_ble_eq_true rfl) ?_
      refine z_genC (hC2.p11 hB2 _) (fun w3 hC3 hf3 => ?_)
      refine z_aload_n (pc := 47) dX0_addResult_47 rfl (by first | rfl | exact z_isr_rf _) ?_
      refine z_dup (pc := 48) dX0_addResult_48 (by first | rfl | exact z_isr_cat (z_isr_rf _)) ?_
      refine gfX0_52 (pc := 49) rfl dX0_addResult_49 (hC3.k12 hB2) rfl ?_
      refine z_aload_n (pc := 52) dX0_addResult_52 rfl (by first | rfl | exact z_isr_rf _) ?_
      refine gfX0_55 (pc := 53) rfl dX0_addResult_53 (hC3.k9 hg) rfl ?_
      refine z_iadd (pc := 56) dX0_addResult_56 ?_
      refine pfX0_52 (pc := 57) rfl dX0_addResult_57 (hC3.k12 hB2) (Nat.le_of_ble_eq_true rfl) ?_
      refine z_genC (hC3.p12 hB2 _) (fun w4 hC4 hf4 => ?_)
      refine z_iinc4 (pc := 60) dX0_addResult_60 ?_
      refine z_goto (pc := 63) (tgt := 8) dX0_addResult_63 (by decide) ?_
      rw [nI_1]
      rw [z_ar, if_pos hd] at har
      rw [← e9, ← e4]
      refine z_E.mono (k := 2 * (6 - (i + 1))) (n := 8 * (6 - (i + 1))) (by omega) (by omega) (ih (i + 1) (by omega) (by omega) A2 _ _ w4 hC4 hS2 ((hZ2.putI hB2 _).putI hB2 _) ((hf.tr hf2).tr (hf3.tr hf4)) (fun k hk => (hA2 k hk).trans (hA k hk)) e4.symm e9.symm hg hI hr hB2 ?_)
      have e : z_sI I 11 (i + 1) (z_px mv (i + 1)) (I 11 (i + 1) (z_px mv (i + 1)) + 1) 12 (i + 1) (z_px mv (i + 1)) + z_sI I 11 (i + 1) (z_px mv (i + 1)) (I 11 (i + 1) (z_px mv (i + 1)) + 1) 7 g 0 = I 12 (i + 1) (z_px mv (i + 1)) + r := by
        rw [← hr]; rfl
      rw [e]
      exact har
    · refine z_if_eq (pc := 33) (tgt := 37) dX0_addResult_33 (by decide) (fun hn => absurd hn (hd)) (fun _ => ?_)
      rw [z_ar, if_neg hd] at har
      obtain ⟨rfl, rfl⟩ := Prod.mk.inj har
      refine z_vret (pc := 36) dX0_addResult_36 rfl (⟨rfl, hf.tr hf2, hS2, hZ2, A2, fun k hk => (hA2 k hk).trans (hA k hk), hC2⟩)
theorem mX0_addResult (hC : z_C G F A I N O B w) (hS : z_S N O B) (hZ : z_Z I B) {g n : Nat} {mv : Nat → Nat} (h6 : n ≤ 6) (hmv : ∀ i, i < n → mv i < 4) (hg : g < N 7 0) (hI : ∀ i, i < n → I 8 g i = nI (mv i)) : z_M G zX0_addResult 3 [.ref (A 4 0 0), .ref (A 9 g 0), .int (nI n)] w 12 48 (fun v w' => v = none ∧ z_fr F w w' ∧ z_S N O (z_ar mv (I 7 g 0) n I B 0).2 ∧ z_Z (z_ar mv (I 7 g 0) n I B 0).1 (z_ar mv (I 7 g 0) n I B 0).2 ∧ ∃ A', (∀ k, k < 12 → A' k = A k) ∧ z_C G F A' (z_ar mv (I 7 g 0) n I B 0).1 N O (z_ar mv (I 7 g 0) n I B 0).2 w') z_nx := by
  refine z_M.of (by decide +kernel) rfl (by intro v hv; simp only [List.mem_cons, List.not_mem_nil, or_false] at hv; rcases hv with rfl | rfl | rfl <;> first | rfl | exact z_isr_cat (z_isr_rf _)) (Nat.le_of_ble_eq_true rfl) ?_
  show z_E _ zX0_addResult _ _ 0 [some (.ref (A 4 0 0)), some (.ref (A 9 g 0)), some (.int (nI n)), none, none] [] _ _ _
  refine z_aload_n (pc := 0) dX0_addResult_0 rfl (by first | rfl | exact z_isr_rf _) ?_
  refine gfX0_12 (pc := 1) rfl dX0_addResult_1 (hC.k4) rfl ?_
  refine z_astore3 (pc := 4) dX0_addResult_4 (by first | rfl | exact z_isr_rf _) ?_
  refine z_iconst_0 (pc := 5) dX0_addResult_5 ?_
  refine z_istore4 (pc := 6) dX0_addResult_6 ?_
  exact iX0_addResult h6 hmv n 0 (by omega) (Nat.zero_le _) A I B w hC hS hZ z_fr.rf (fun _ _ => rfl) rfl rfl hg hI rfl hS.2.2.2.2.2.2.2.2.2.1 rfl
theorem iX0_dropBadLine {QX} {g : Nat} {mv : Nat → Nat} {w0 : z_W} {I9 : z_TI} {n : Nat} (h6 : n ≤ 6) (hmv : ∀ i, i < n → mv i < 4) (hC : z_C G F A I N O B w) (hS : z_S N O B) (hg : g < N 7 0) (hI : ∀ i, i < n → I 8 g i = nI (mv i)) : ∀ m i : Nat, n - i = m → i ≤ n → B i (z_px mv i) = true → z_db mv m I B i = I9 →
    z_E G zX0_dropBadLine 3 (z_mq G (fun v w' => v = none ∧ z_fr F w w' ∧ z_C G F A I9 N O B w') QX) 8 [some (.ref (A 4 0 0)), some (.ref (A 9 g 0)), some (.int (nI n)), some (.ref (A 12 i (z_px mv i))), some (.int (nI i))] [] w 0 0 := by
  intro m
  induction m with
  | zero =>
    intro i hm hi hB hdb
    have : i = n := by omega
    subst this
    subst hdb
    refine z_iload (pc := 8) dX0_dropBadLine_8 rfl ?_
    refine z_iload_n (pc := 10) dX0_dropBadLine_10 rfl ?_
    refine z_icmp_ge (pc := 11) (tgt := 68) dX0_dropBadLine_11 (by decide) (fun _ => ?_) (fun hn => absurd (nI_le (Nat.le_refl _) (by omega)) hn)
    refine z_vret (pc := 68) dX0_dropBadLine_68 rfl (⟨rfl, z_fr.rf, hC⟩)
  | succ m ih =>
    intro i hm hi hB hdb
    have hin : i < n := by omega
    refine z_iload (pc := 8) dX0_dropBadLine_8 rfl ?_
    refine z_iload_n (pc := 10) dX0_dropBadLine_10 rfl ?_
    refine z_icmp_ge (pc := 11) (tgt := 68) dX0_dropBadLine_11 (by decide) (fun hn => absurd hn (nI_ge hin (by omega))) (fun _ => ?_)
    refine z_aload_n (pc := 14) dX0_dropBadLine_14 rfl (by first | rfl | exact z_isr_rf _) ?_
    refine z_aload_n (pc := 15) dX0_dropBadLine_15 rfl (by first | rfl | exact z_isr_rf _) ?_
    refine z_iload (pc := 16) dX0_dropBadLine_16 rfl ?_
    refine z_callVp (pc := 18) (mX1_moveAt hC hg (show i < 12 by omega)) dX0_dropBadLine_18 cwX0_37 okX1_moveAt rfl (hC.k9 hg) rfl rfl (by omega) rfl (Nat.le_of_ble_eq_true rfl) ?_
    rw [hI i hin]
    refine z_callVp (pc := 21) (mX2_goingOnWith hC hB (hmv i hin)) dX0_dropBadLine_21 cwX0_58 okX2_goingOnWith rfl (hC.k12 hB) rfl rfl (by omega) rfl (Nat.le_of_ble_eq_true rfl) ?_
    have ih := ih (i + 1) (by omega) (by omega)
    rw [show z_px mv i + mv i * 4 ^ i = z_px mv (i + 1) from rfl]
    rw [z_db] at hdb
    by_cases hB2 : B (i + 1) (z_px mv (i + 1)) = true
    · rw [if_pos hB2]
      refine z_astore3 (pc := 24) dX0_dropBadLine_24 (by first | rfl | exact z_isr_rf _) ?_
      refine z_aload_n (pc := 25) dX0_dropBadLine_25 rfl (by first | rfl | exact z_isr_rf _) ?_
      refine z_ifnull (pc := 26) (tgt := 36) dX0_dropBadLine_26 (by decide) (by first | rfl | exact z_isr_rf _) (fun hn => by cases hn) (fun _ _ => ?_)
      refine z_aload_n (pc := 29) dX0_dropBadLine_29 rfl (by first | rfl | exact z_isr_rf _) ?_
      refine gfX0_45 (pc := 30) rfl dX0_dropBadLine_30 (hC.k12 hB2) rfl ?_
      by_cases hd : I 13 (i + 1) (z_px mv (i + 1)) = 0
      · rw [if_pos ⟨hB2, hd⟩] at hdb
        refine z_if_eq (pc := 33) (tgt := 37) dX0_dropBadLine_33 (by decide) (fun _ => ?_) (fun hn => absurd (hd) hn)
        refine z_aload_n (pc := 37) dX0_dropBadLine_37 rfl (by first | rfl | exact z_isr_rf _) ?_
        refine z_iload (pc := 38) dX0_dropBadLine_38 rfl ?_
        refine z_iconst_2 (pc := 40) dX0_dropBadLine_40 ?_
        refine z_irem (pc := 41) dX0_dropBadLine_41 (by decide) ?_
        have e2 : nI i - nI i / 2 * 2 = nI (i % 2) := pk_rem (a := i) (d := 2) (by omega) (by omega) (by omega)
        rw [e2]
        have hbad : ∀ o : Int32, o = (if i % 2 = 0 then 1 else 0) → z_E G zX0_dropBadLine 3 (z_mq G (fun v w' => v = none ∧ z_fr F w w' ∧ z_C G F A I9 N O B w') QX) 50 [some (.ref (A 4 0 0)), some (.ref (A 9 g 0)), some (.int (nI n)), some (.ref (A 12 (i + 1) (z_px mv (i + 1)))), some (.int (nI i))] [.int o, .ref (A 12 (i + 1) (z_px mv (i + 1)))] w 0 0 := by
          intro o ho
          haveI : Decidable (bad (I 11 (i + 1) (z_px mv (i + 1))) (I 12 (i + 1) (z_px mv (i + 1))) o) := Classical.propDecidable _
          refine z_callVp (pc := 50) (mX2_doesBadly hC hB2 (o := o)) dX0_dropBadLine_50 cwX0_61 okX2_doesBadly rfl (hC.k12 hB2) rfl rfl (by omega) rfl (Nat.le_of_ble_eq_true rfl) ?_
          by_cases hb : bad (I 11 (i + 1) (z_px mv (i + 1))) (I 12 (i + 1) (z_px mv (i + 1))) o
          · rw [if_pos hb]
            rw [← ho, if_pos hb] at hdb
            refine z_if_eq (pc := 53) (tgt := 62) dX0_dropBadLine_53 (by decide) (fun hn => absurd hn ((by decide : ¬ (1 : Int32) = 0))) (fun _ => ?_)
            refine z_aload_n (pc := 56) dX0_dropBadLine_56 rfl (by first | rfl | exact z_isr_rf _) ?_
            refine z_iconst_1 (pc := 57) dX0_dropBadLine_57 ?_
            refine pfX0_45 (pc := 58) rfl dX0_dropBadLine_58 (Or.inr rfl) (hC.k12 hB2) (Nat.le_of_ble_eq_true rfl) ?_
            refine z_genC (hC.p13 hB2 1) (fun w3 hC3 hf3 => ?_)
            subst hdb
            refine z_vret (pc := 61) dX0_dropBadLine_61 rfl (⟨rfl, hf3, hC3⟩)
          · rw [if_neg hb]
            rw [← ho, if_neg hb] at hdb
            refine z_if_eq (pc := 53) (tgt := 62) dX0_dropBadLine_53 (by decide) (fun _ => ?_) (fun hn => absurd (rfl) hn)
            refine z_iinc4 (pc := 62) dX0_dropBadLine_62 ?_
            refine z_goto (pc := 65) (tgt := 8) dX0_dropBadLine_65 (by decide) ?_
            rw [nI_1]
            exact ih hB2 hdb
        by_cases hi2 : i % 2 = 0
        · rw [hi2]
          refine z_if_ne (pc := 42) (tgt := 49) dX0_dropBadLine_42 (by decide) (fun hn => absurd (nI_0) hn) (fun _ => ?_)
          refine z_iconst_1 (pc := 45) dX0_dropBadLine_45 ?_
          refine z_goto (pc := 46) (tgt := 50) dX0_dropBadLine_46 (by decide) ?_
          exact hbad 1 (by rw [if_pos hi2])
        · refine z_if_ne (pc := 42) (tgt := 49) dX0_dropBadLine_42 (by decide) (fun _ => ?_) (fun hn => absurd hn (nI_ne0 (by omega) (by omega)))
          refine z_iconst_0 (pc := 49) dX0_dropBadLine_49 ?_
          exact hbad 0 (by rw [if_neg hi2])
      · rw [if_neg (fun q => hd q.2)] at hdb
        subst hdb
        refine z_if_eq (pc := 33) (tgt := 37) dX0_dropBadLine_33 (by decide) (fun hn => absurd hn (hd)) (fun _ => ?_)
        refine z_vret (pc := 36) dX0_dropBadLine_36 rfl (⟨rfl, z_fr.rf, hC⟩)
    · rw [if_neg hB2]
      rw [if_neg (fun q => hB2 q.1)] at hdb
      subst hdb
      refine z_astore3 (pc := 24) dX0_dropBadLine_24 (by first | rfl | exact z_isr_rf _) ?_
      refine z_aload_n (pc := 25) dX0_dropBadLine_25 rfl (by first | rfl | exact z_isr_rf _) ?_
      refine z_ifnull (pc := 26) (tgt := 36) dX0_dropBadLine_26 (by decide) (by first | rfl | exact z_isr_rf _) (fun _ => ?_) (fun _ hn => by cases hn)
      refine z_vret (pc := 36) dX0_dropBadLine_36 rfl (⟨rfl, z_fr.rf, hC⟩)
theorem mX0_dropBadLine (hC : z_C G F A I N O B w) (hS : z_S N O B) {g n : Nat} {mv : Nat → Nat} (h6 : n ≤ 6) (hmv : ∀ i, i < n → mv i < 4) (hg : g < N 7 0) (hI : ∀ i, i < n → I 8 g i = nI (mv i)) : z_M G zX0_dropBadLine 3 [.ref (A 4 0 0), .ref (A 9 g 0), .int (nI n)] w 0 0 (fun v w' => v = none ∧ z_fr F w w' ∧ z_C G F A (z_db mv n I B 0) N O B w') z_nx := by
  refine z_M.of (by decide +kernel) rfl (by intro v hv; simp only [List.mem_cons, List.not_mem_nil, or_false] at hv; rcases hv with rfl | rfl | rfl <;> first | rfl | exact z_isr_cat (z_isr_rf _)) (Nat.le_of_ble_eq_true rfl) ?_
  show z_E _ zX0_dropBadLine _ _ 0 [some (.ref (A 4 0 0)), some (.ref (A 9 g 0)), some (.int (nI n)), none, none] [] _ _ _
  refine z_aload_n (pc := 0) dX0_dropBadLine_0 rfl (by first | rfl | exact z_isr_rf _) ?_
  refine gfX0_12 (pc := 1) rfl dX0_dropBadLine_1 (hC.k4) rfl ?_
  refine z_astore3 (pc := 4) dX0_dropBadLine_4 (by first | rfl | exact z_isr_rf _) ?_
  refine z_iconst_0 (pc := 5) dX0_dropBadLine_5 ?_
  refine z_istore4 (pc := 6) dX0_dropBadLine_6 ?_
  exact iX0_dropBadLine (w0 := w) h6 hmv hC hS hg hI n 0 (by omega) (Nat.zero_le _) hS.2.2.2.2.2.2.2.2.2.1 rfl
end BW

