/-! constructors -/
theorem z_genW {G : z_G} {Y : z_Mi} {d : Nat} {Z : z_Gq} {pc : Nat} {L : List (Option Value)} {st : List Value} {k n : Nat} (w : z_W) (P : z_W → Prop) (h : P w) (kk : ∀ w', P w' → z_E G Y d Z pc L st w' k n) : z_E G Y d Z pc L st w k n := kk w h
theorem z_upne {w : z_W} {a b : Nat} {e : va_E} {v : Option va_E} (h : b ≠ a) (hv : w b = v) : z_up w a e b = v := (z_upN w e h).trans hv
def z_kp (q : Nat) (w w' : z_W) : Prop := ∀ a, a ≠ q → w a ≠ none → w' a = w a
theorem z_ne {w : z_W} {a b : Nat} {e : va_E} (ha : w a = some e) (hb : w b = none) : a ≠ b := fun h => by rw [h, hb] at ha; cases ha
theorem z_kp.up {q r : Nat} {w w' : z_W} {e : va_E} (h : z_kp q w w') (hr : r = q ∨ w r = none) : z_kp q w (z_up w' r e) := fun a h1 h2 => by
  rw [z_upN]
  · exact h a h1 h2
  · rintro rfl
    rcases hr with rfl | hr
    · exact h1 rfl
    · exact h2 hr
theorem z_kp.rf {q : Nat} {w : z_W} : z_kp q w w := fun _ _ _ => rfl
/-- the row of five ratings at first -/
def z_r0 (i : Nat) (f : Nat → Int32) : Nat → Int32 := fun j => if i ≤ j ∧ j < 5 then 1000 else f j
theorem z_r0_5 (f : Nat → Int32) : z_r0 5 f = f := by funext j; exact if_neg (by omega)
theorem z_r0_s {i : Nat} (hi : i < 5) (f : Nat → Int32) : z_r0 (i + 1) (upd f i 1000) = z_r0 i f := by
  funext j
  unfold z_r0 upd
  by_cases h : j = i
  · subst h
    rw [if_neg (by omega), if_pos rfl, if_pos (by omega)]
  · rw [if_neg h]
    by_cases h2 : i + 1 ≤ j ∧ j < 5
    · rw [if_pos h2, if_pos (by omega)]
    · rw [if_neg h2, if_neg (by omega)]
section MK
variable {G : z_G} {w : z_W}
theorem iX3_init {Z : z_Gq} {q r t m : Nat} {x : Int32} {k n : Nat} (hrq : r ≠ q) : ∀ c i : Nat, 5 - i = c → i ≤ 5 → ∀ (f : Nat → Int32) (w2 : z_W), w2 q = some (.inr (3, [.int x, .ref r, .ref t, .ref m, .int 0, .int 0, .int 0, .null])) → w2 r = some (.inl (G.2.1 0, 5, .inl f)) → (∀ w3, w3 r = some (.inl (G.2.1 0, 5, .inl (z_r0 i f))) → (∀ a, a ≠ r → w3 a = w2 a) → z_E G zX3_init 1 Z 58 [some (.ref q), some (.int x), some (.int (nI 5))] [] w3 k n) → z_E G zX3_init 1 Z 34 [some (.ref q), some (.int x), some (.int (nI i))] [] w2 k n := by
  intro c
  induction c with
  | zero =>
    intro i hc hi f w2 hq hr kk
    have : i = 5 := by omega
    subst this
    rw [z_r0_5] at kk
    refine z_iload_n (pc := 34) dX3_init_34 rfl ?_
    refine z_aload_n (pc := 35) dX3_init_35 rfl (by first | rfl | exact z_isr_rf _) ?_
    refine gfX3_9 (pc := 36) rfl dX3_init_36 (hq) rfl ?_
    refine z_alen (pc := 39) dX3_init_39 (hr) rfl rfl ?_
    refine z_icmp_ge (pc := 40) (tgt := 58) dX3_init_40 (by decide) (fun _ => ?_) (fun hn => absurd (nI_le (Nat.le_refl _) (by omega)) hn)
    exact kk w2 hr (fun _ _ => rfl)
  | succ c ih =>
    intro i hc hi f w2 hq hr kk
    have hi5 : i < 5 := by omega
    have hi3 : i < 2 ^ 31 := by omega
    refine z_iload_n (pc := 34) dX3_init_34 rfl ?_
    refine z_aload_n (pc := 35) dX3_init_35 rfl (by first | rfl | exact z_isr_rf _) ?_
    refine gfX3_9 (pc := 36) rfl dX3_init_36 (hq) rfl ?_
    refine z_alen (pc := 39) dX3_init_39 (hr) rfl rfl ?_
    refine z_icmp_ge (pc := 40) (tgt := 58) dX3_init_40 (by decide) (fun hn => absurd hn (nI_ge hi5 (by omega))) (fun _ => ?_)
    refine z_aload_n (pc := 43) dX3_init_43 rfl (by first | rfl | exact z_isr_rf _) ?_
    refine gfX3_9 (pc := 44) rfl dX3_init_44 (hq) rfl ?_
    refine z_iload_n (pc := 47) dX3_init_47 rfl ?_
    refine z_sipush_1000 (pc := 48) dX3_init_48 ?_
    refine z_iast (pc := 51) dX3_init_51 (hr) (vp_in_nI hi5 (by omega)) ?_
    rw [nI_clamp hi3]
    refine z_iinc2 (pc := 52) dX3_init_52 ?_
    refine z_goto (pc := 55) (tgt := 34) dX3_init_55 (by decide) ?_
    rw [nI_1]
    refine ih (i + 1) (by omega) (by omega) (upd f i 1000) _ (z_upne (Ne.symm hrq) hq) (z_upS _ _ _) (fun w3 h1 h2 => ?_)
    rw [z_r0_s hi5] at h1
    exact kk w3 h1 (fun a ha => (h2 a ha).trans (z_upN _ _ ha))
theorem mX3_init {q : Nat} {x : Int32} (hq : w q = some (.inr (3, [.int 0, .null, .null, .null, .int 0, .int 0, .int 0, .null]))) : z_M G zX3_init 1 [.ref q, .int x] w 3 53 (fun v w' => v = none ∧ ∃ r t m, w r = none ∧ w t = none ∧ w m = none ∧ r ≠ t ∧ r ≠ m ∧ t ≠ m ∧ w' q = some (.inr (3, [.int x, .ref r, .ref t, .ref m, .int 0, .int 0, .int 0, .null])) ∧ w' r = some (.inl (G.2.1 0, 5, .inl (z_r0 0 (fun _ => 0)))) ∧ w' t = some (.inl (G.2.1 1, 40, .inl (fun _ => 0))) ∧ w' m = some (.inl (G.2.1 1, 8, .inl (fun _ => 0))) ∧ z_kp q w w') z_nx := by
  refine z_M.of (by decide +kernel) rfl (by intro v hv; simp only [List.mem_cons, List.not_mem_nil, or_false] at hv; rcases hv with rfl | rfl <;> first | rfl | exact z_isr_cat (z_isr_rf _)) (Nat.le_of_ble_eq_true rfl) ?_
  show z_E _ zX3_init _ _ 0 [some (.ref q), some (.int x), none] [] _ _ _
  refine z_aload_n (pc := 0) dX3_init_0 rfl (by first | rfl | exact z_isr_rf _) ?_
  refine oiX3_3 (pc := 1) rfl dX3_init_1 (by omega) (Nat.le_of_ble_eq_true rfl) ?_
  refine z_aload_n (pc := 4) dX3_init_4 rfl (by first | rfl | exact z_isr_rf _) ?_
  refine z_iconst_5 (pc := 5) dX3_init_5 ?_
  refine z_newaI (m0 := 5) (pc := 6) dX3_init_6 ac_int (by decide) (by decide) (Nat.le_of_ble_eq_true rfl) (by omega) (by omega) (fun r hr => ?_)
  have nr : r ≠ q := (z_ne hq hr).symm
  refine pfX3_9 (pc := 8) rfl rfl dX3_init_8 (by first | rfl | exact z_isr_rf _) (z_upne nr.symm hq) (Nat.le_of_ble_eq_true rfl) ?_
  refine z_aload_n (pc := 11) dX3_init_11 rfl (by first | rfl | exact z_isr_rf _) ?_
  refine z_bipush_40 (pc := 12) dX3_init_12 ?_
  refine z_genW _ (fun w1 => w1 q = some (.inr (3, [.int 0, .ref r, .null, .null, .int 0, .int 0, .int 0, .null])) ∧ w1 r = some (.inl (G.2.1 0, 5, .inl (fun _ => 0))) ∧ z_kp q w w1 ∧ (∀ a, w1 a = none → w a = none)) ⟨z_upS _ _ _, z_upne nr (z_upS _ _ _), (z_kp.rf.up (Or.inr hr)).up (Or.inl rfl), fun a h => ?_⟩ (fun w1 h1 => ?_)
  · by_cases e1 : a = q
    · rw [e1, z_upS] at h; cases h
    · rw [z_upN _ _ e1] at h
      by_cases e2 : a = r
      · rw [e2]; exact hr
      · rw [z_upN _ _ e2] at h; exact h
  obtain ⟨h1q, h1r, h1k, h1n⟩ := h1
  refine z_newaZ (m0 := 40) (pc := 14) dX3_init_14 ac_boolean (by decide) (by decide) (Nat.le_of_ble_eq_true rfl) (by omega) (by omega) (fun t ht => ?_)
  have nt : t ≠ q := (z_ne h1q ht).symm
  have ntr : r ≠ t := z_ne h1r ht
  refine pfX3_15 (pc := 16) rfl rfl dX3_init_16 (by first | rfl | exact z_isr_rf _) (z_upne nt.symm h1q) (Nat.le_of_ble_eq_true rfl) ?_
  refine z_aload_n (pc := 19) dX3_init_19 rfl (by first | rfl | exact z_isr_rf _) ?_
  refine z_bipush_8 (pc := 20) dX3_init_20 ?_
  refine z_genW _ (fun w2 => w2 q = some (.inr (3, [.int 0, .ref r, .ref t, .null, .int 0, .int 0, .int 0, .null])) ∧ w2 r = some (.inl (G.2.1 0, 5, .inl (fun _ => 0))) ∧ w2 t = some (.inl (G.2.1 1, 40, .inl (fun _ => 0))) ∧ z_kp q w w2 ∧ (∀ a, w2 a = none → w a = none)) ⟨z_upS _ _ _, z_upne nr (z_upne ntr h1r), z_upne nt (z_upS _ _ _), (h1k.up (Or.inr (h1n _ ht))).up (Or.inl rfl), fun a h => ?_⟩ (fun w2 h2 => ?_)
  · by_cases e1 : a = q
    · rw [e1, z_upS] at h; cases h
    · rw [z_upN _ _ e1] at h
      by_cases e2 : a = t
      · rw [e2]; exact h1n _ ht
      · rw [z_upN _ _ e2] at h; exact h1n _ h
  obtain ⟨h2q, h2r, h2t, h2k, h2n⟩ := h2
  refine z_newaZ (m0 := 8) (pc := 22) dX3_init_22 ac_boolean (by decide) (by decide) (Nat.le_of_ble_eq_true rfl) (by omega) (by omega) (fun m hm => ?_)
  have nm2 : m ≠ q := (z_ne h2q hm).symm
  have nmr : r ≠ m := z_ne h2r hm
  have nmt : t ≠ m := z_ne h2t hm
  refine pfX3_19 (pc := 24) rfl rfl dX3_init_24 (by first | rfl | exact z_isr_rf _) (z_upne nm2.symm h2q) (Nat.le_of_ble_eq_true rfl) ?_
  refine z_genW _ (fun w3 => w3 q = some (.inr (3, [.int 0, .ref r, .ref t, .ref m, .int 0, .int 0, .int 0, .null])) ∧ w3 r = some (.inl (G.2.1 0, 5, .inl (fun _ => 0))) ∧ w3 t = some (.inl (G.2.1 1, 40, .inl (fun _ => 0))) ∧ w3 m = some (.inl (G.2.1 1, 8, .inl (fun _ => 0))) ∧ z_kp q w w3) ⟨z_upS _ _ _, z_upne nr (z_upne nmr h2r), z_upne nt (z_upne nmt h2t), z_upne nm2 (z_upS _ _ _), (h2k.up (Or.inr (h2n _ hm))).up (Or.inl rfl)⟩ (fun w3 h3 => ?_)
  obtain ⟨h3q, h3r, h3t, h3m, h3k⟩ := h3
  refine z_aload_n (pc := 27) dX3_init_27 rfl (by first | rfl | exact z_isr_rf _) ?_
  refine z_iload_n (pc := 28) dX3_init_28 rfl ?_
  refine pfX3_22 (pc := 29) rfl rfl dX3_init_29 (h3q) (Nat.le_of_ble_eq_true rfl) ?_
  refine z_iconst_0 (pc := 32) dX3_init_32 ?_
  refine z_istore2 (pc := 33) dX3_init_33 ?_
  refine iX3_init nr _ 0 rfl (by omega) (fun _ => 0) _ (z_upS _ _ _) (z_upne nr h3r) (fun w4 h4 h4k => ?_)
  refine z_vret (pc := 58) dX3_init_58 rfl (⟨rfl, r, t, m, hr, h1n _ ht, h2n _ hm, ntr, nmr, nmt, (h4k q nr.symm).trans (z_upS _ _ _), h4, (h4k t ntr.symm).trans (z_upne nt h3t), (h4k m nmr.symm).trans (z_upne nm2 h3m), fun a ha hb => ?_⟩)
  have har : a ≠ r := fun e => hb (by rw [e]; exact hr)
  rw [h4k a har, z_upN _ _ ha]
  exact h3k a ha hb
theorem mX1_init {q : Nat} {p1 p2 : Nat} (hq : w q = some (.inr (1, [.null, .null, .null, .int 0, .int 0, .int 0]))) : z_M G zX1_init 1 [.ref q, .ref p1, .ref p2] w 1 12 (fun v w' => v = none ∧ ∃ r, w r = none ∧ w' q = some (.inr (1, [.ref p1, .ref p2, .ref r, .int 0, .int 1, .int 0])) ∧ w' r = some (.inl (G.2.1 0, 12, .inl (fun _ => 0))) ∧ z_kp q w w') z_nx := by
  refine z_M.of (by decide +kernel) rfl (by intro v hv; simp only [List.mem_cons, List.not_mem_nil, or_false] at hv; rcases hv with rfl | rfl | rfl <;> first | rfl | exact z_isr_cat (z_isr_rf _)) (Nat.le_of_ble_eq_true rfl) ?_
  show z_E _ zX1_init _ _ 0 [some (.ref q), some (.ref p1), some (.ref p2)] [] _ _ _
  refine z_aload_n (pc := 0) dX1_init_0 rfl (by first | rfl | exact z_isr_rf _) ?_
  refine oiX1_3 (pc := 1) rfl dX1_init_1 (by omega) (Nat.le_of_ble_eq_true rfl) ?_
  refine z_aload_n (pc := 4) dX1_init_4 rfl (by first | rfl | exact z_isr_rf _) ?_
  refine z_bipush_12 (pc := 5) dX1_init_5 ?_
  refine z_newaI (m0 := 12) (pc := 7) dX1_init_7 ac_int (by decide) (by decide) (Nat.le_of_ble_eq_true rfl) (by omega) (by omega) (fun r hr => ?_)
  have nr : r ≠ q := (z_ne hq hr).symm
  refine pfX1_9 (pc := 9) rfl rfl dX1_init_9 (by first | rfl | exact z_isr_rf _) (z_upne nr.symm hq) (Nat.le_of_ble_eq_true rfl) ?_
  refine z_aload_n (pc := 12) dX1_init_12 rfl (by first | rfl | exact z_isr_rf _) ?_
  refine z_iconst_1 (pc := 13) dX1_init_13 ?_
  refine pfX1_15 (pc := 14) rfl dX1_init_14 (z_upS _ _ _) (Nat.le_of_ble_eq_true rfl) ?_
  refine z_aload_n (pc := 17) dX1_init_17 rfl (by first | rfl | exact z_isr_rf _) ?_
  refine z_aload_n (pc := 18) dX1_init_18 rfl (by first | rfl | exact z_isr_rf _) ?_
  refine pfX1_19 (pc := 19) rfl rfl dX1_init_19 (by first | rfl | exact z_isr_rf _) (z_upS _ _ _) (Nat.le_of_ble_eq_true rfl) ?_
  refine z_aload_n (pc := 22) dX1_init_22 rfl (by first | rfl | exact z_isr_rf _) ?_
  refine z_aload_n (pc := 23) dX1_init_23 rfl (by first | rfl | exact z_isr_rf _) ?_
  refine pfX1_23 (pc := 24) rfl rfl dX1_init_24 (by first | rfl | exact z_isr_rf _) (z_upS _ _ _) (Nat.le_of_ble_eq_true rfl) ?_
  refine z_vret (pc := 27) dX1_init_27 rfl (⟨rfl, r, hr, z_upS _ _ _, z_upne nr (z_upne nr (z_upne nr (z_upne nr (z_upS _ _ _)))), ((((z_kp.rf.up (Or.inr hr)).up (Or.inl rfl)).up (Or.inl rfl)).up (Or.inl rfl)).up (Or.inl rfl)⟩)
theorem mX4_init {q : Nat} {x g : Int32} (hq : w q = some (.inr (4, [.int 0, .int 0, .int 0]))) : z_M G zX4_init 1 [.ref q, .int x, .int g] w 0 0 (fun v w' => v = none ∧ w' q = some (.inr (4, [.int x, .int (x - x / 5 * 5), .int g])) ∧ z_kp q w w') z_nx := by
  refine z_M.of (by decide +kernel) rfl (by intro v hv; simp only [List.mem_cons, List.not_mem_nil, or_false] at hv; rcases hv with rfl | rfl | rfl <;> first | rfl | exact z_isr_cat (z_isr_rf _)) (Nat.le_of_ble_eq_true rfl) ?_
  show z_E _ zX4_init _ _ 0 [some (.ref q), some (.int x), some (.int g)] [] _ _ _
  refine z_aload_n (pc := 0) dX4_init_0 rfl (by first | rfl | exact z_isr_rf _) ?_
  refine oiX4_3 (pc := 1) rfl dX4_init_1 (by omega) (Nat.le_of_ble_eq_true rfl) ?_
  refine z_aload_n (pc := 4) dX4_init_4 rfl (by first | rfl | exact z_isr_rf _) ?_
  refine z_iload_n (pc := 5) dX4_init_5 rfl ?_
  refine pfX4_9 (pc := 6) rfl rfl dX4_init_6 (hq) (Nat.le_of_ble_eq_true rfl) ?_
  refine z_aload_n (pc := 9) dX4_init_9 rfl (by first | rfl | exact z_isr_rf _) ?_
  refine z_iload_n (pc := 10) dX4_init_10 rfl ?_
  refine z_iconst_5 (pc := 11) dX4_init_11 ?_
  refine z_irem (pc := 12) dX4_init_12 (by decide) ?_
  refine pfX4_15 (pc := 13) rfl rfl dX4_init_13 (z_upS _ _ _) (Nat.le_of_ble_eq_true rfl) ?_
  refine z_aload_n (pc := 16) dX4_init_16 rfl (by first | rfl | exact z_isr_rf _) ?_
  refine z_iload_n (pc := 17) dX4_init_17 rfl ?_
  refine pfX4_18 (pc := 18) rfl rfl dX4_init_18 (z_upS _ _ _) (Nat.le_of_ble_eq_true rfl) ?_
  refine z_vret (pc := 21) dX4_init_21 rfl (⟨rfl, z_upS _ _ _, ((z_kp.rf.up (Or.inl rfl)).up (Or.inl rfl)).up (Or.inl rfl)⟩)
theorem mX2_init {q : Nat} (hq : w q = some (.inr (2, [.null, .int 0, .int 0, .int 0]))) : z_M G zX2_init 1 [.ref q] w 1 4 (fun v w' => v = none ∧ ∃ r, w r = none ∧ w' q = some (.inr (2, [.ref r, .int 0, .int 0, .int 0])) ∧ w' r = some (.inl (G.2.1 7, 4, z_rs (fun _ => none))) ∧ z_kp q w w') z_nx := by
  refine z_M.of (by decide +kernel) rfl (by intro v hv; simp only [List.mem_cons, List.not_mem_nil, or_false] at hv; rcases hv with rfl <;> first | rfl | exact z_isr_cat (z_isr_rf _)) (Nat.le_of_ble_eq_true rfl) ?_
  show z_E _ zX2_init _ _ 0 [some (.ref q)] [] _ _ _
  refine z_aload_n (pc := 0) dX2_init_0 rfl (by first | rfl | exact z_isr_rf _) ?_
  refine oiX2_3 (pc := 1) rfl dX2_init_1 (by omega) (Nat.le_of_ble_eq_true rfl) ?_
  refine z_aload_n (pc := 4) dX2_init_4 rfl (by first | rfl | exact z_isr_rf _) ?_
  refine z_iconst_4 (pc := 5) dX2_init_5 ?_
  refine z_newqN (m0 := 4) (pc := 6) dX2_init_6 (by exact awX2_9) (by decide) (by decide) (Nat.le_of_ble_eq_true rfl) (by omega) (by omega) (fun r hr => ?_)
  have nr : r ≠ q := (z_ne hq hr).symm
  refine pfX2_11 (pc := 9) rfl rfl dX2_init_9 (by first | rfl | exact z_isr_rf _) (z_upne nr.symm hq) (Nat.le_of_ble_eq_true rfl) ?_
  refine z_vret (pc := 12) dX2_init_12 rfl (⟨rfl, r, hr, z_upS _ _ _, z_upne nr (z_upS _ _ _), (z_kp.rf.up (Or.inr hr)).up (Or.inl rfl)⟩)
theorem mX0_init {q : Nat} (hq : w q = some (.inr (0, [.null]))) : z_M G zX0_init 2 [.ref q] w 2 8 (fun v w' => v = none ∧ ∃ r t, w r = none ∧ w t = none ∧ r ≠ t ∧ w' q = some (.inr (0, [.ref r])) ∧ w' r = some (.inr (2, [.ref t, .int 0, .int 0, .int 0])) ∧ w' t = some (.inl (G.2.1 7, 4, z_rs (fun _ => none))) ∧ z_kp q w w') z_nx := by
  refine z_M.of (by decide +kernel) rfl (by intro v hv; simp only [List.mem_cons, List.not_mem_nil, or_false] at hv; rcases hv with rfl <;> first | rfl | exact z_isr_cat (z_isr_rf _)) (Nat.le_of_ble_eq_true rfl) ?_
  show z_E _ zX0_init _ _ 0 [some (.ref q)] [] _ _ _
  refine z_aload_n (pc := 0) dX0_init_0 rfl (by first | rfl | exact z_isr_rf _) ?_
  refine oiX0_3 (pc := 1) rfl dX0_init_1 (by omega) (Nat.le_of_ble_eq_true rfl) ?_
  refine z_aload_n (pc := 4) dX0_init_4 rfl (by first | rfl | exact z_isr_rf _) ?_
  refine nwX0_9 (pc := 5) rfl dX0_init_5 (by omega) (by omega) (fun r hr => ?_)
  refine z_dup (pc := 8) dX0_init_8 (by first | rfl | exact z_isr_cat (z_isr_rf _)) ?_
  have nr : r ≠ q := (z_ne hq hr).symm
  refine z_callIN (pc := 9) (mX2_init (G := G) (z_upS w r _)) dX0_init_9 cwX0_11 okX2_init rfl (by omega) rfl (Nat.le_of_ble_eq_true rfl) (by omega) (by omega) (fun _ _ h => h.elim) (fun v wN hN => ?_)
  obtain ⟨rfl, t, ht, h1, h2, h3⟩ := hN
  have ntr : r ≠ t := z_ne (z_upS w r _) ht
  have hwt : w t = none := by rw [z_upN _ _ ntr.symm] at ht; exact ht
  have ntq : t ≠ q := (z_ne hq hwt).symm
  have hqN : wN q = some (.inr (0, [.null])) := by
    rw [h3 q nr.symm (by rw [z_upN _ _ nr.symm, hq]; exact fun z => nomatch z), z_upN _ _ nr.symm]; exact hq
  refine pfX0_12 (pc := 12) rfl rfl dX0_init_12 (by first | rfl | exact z_isr_rf _) (hqN) (Nat.le_of_ble_eq_true rfl) ?_
  refine z_vret (pc := 15) dX0_init_15 rfl (⟨rfl, r, t, hr, hwt, ntr, z_upS _ _ _, z_upne nr h1, z_upne ntq h2, fun a ha hb => ?_⟩)
  have har : a ≠ r := fun e => hb (by rw [e]; exact hr)
  rw [z_upN _ _ ha, h3 a har (by rw [z_upN _ _ har]; exact hb), z_upN _ _ har]
end MK

