/-! lines of the book as they are read -/
theorem z_01t {c : Prop} (h : c) [Decidable c] : (if c then (1 : Int32) else 0) = 1 := if_pos h
section BK
variable {G : z_G} {F : Nat → Prop} {A : Nat → Nat → Nat → Nat} {I : z_TI} {N : z_TN} {O : z_TO} {B : z_TB} {w : z_W}
theorem iX1_beginsWith {QX} (hC : z_C G F A I N O B w) {g l n : Nat} (hg : g < N 7 0) (hl : l < 2 ^ 31) (hn : n ≤ N 5 g) (h12 : N 5 g ≤ 12) (h6 : n ≤ 6) [Decidable (n ≤ N 5 g ∧ ∀ i, i < n → I 8 g i = nI (l / 4 ^ i % 4))] : ∀ m i : Nat, n - i = m → i ≤ n → (∀ i', i' < i → I 8 g i' = nI (l / 4 ^ i' % 4)) → z_E G zX1_beginsWith 2 (z_mq G (z_rp (.int (if n ≤ N 5 g ∧ ∀ i, i < n → I 8 g i = nI (l / 4 ^ i % 4) then 1 else 0)) w) QX) 12 [some (.ref (A 9 g 0)), some (.int (nI l)), some (.int (nI n)), some (.int (nI i))] [] w 0 0 := by
  intro m
  induction m with
  | zero =>
    intro i hm hi ha
    have : i = n := by omega
    subst this
    refine z_iload_n (pc := 12) dX1_beginsWith_12 rfl ?_
    refine z_iload_n (pc := 13) dX1_beginsWith_13 rfl ?_
    refine z_icmp_ge (pc := 14) (tgt := 38) dX1_beginsWith_14 (by decide) (fun _ => ?_) (fun hn => absurd (nI_le (Nat.le_refl _) (by omega)) hn)
    refine z_iconst_1 (pc := 38) dX1_beginsWith_38 ?_
    refine z_zret (pc := 39) dX1_beginsWith_39 rfl (Or.inr rfl ) ( ⟨by rw [if_pos ⟨hn, ha⟩], rfl⟩)
  | succ m ih =>
    intro i hm hi ha
    have hin : i < n := by omega
    refine z_iload_n (pc := 12) dX1_beginsWith_12 rfl ?_
    refine z_iload_n (pc := 13) dX1_beginsWith_13 rfl ?_
    refine z_icmp_ge (pc := 14) (tgt := 38) dX1_beginsWith_14 (by decide) (fun hn => absurd hn (nI_ge hin (by omega))) (fun _ => ?_)
    refine z_aload_n (pc := 17) dX1_beginsWith_17 rfl (by first | rfl | exact z_isr_rf _) ?_
    refine z_iload_n (pc := 18) dX1_beginsWith_18 rfl ?_
    refine z_callVp (pc := 19) (mX1_moveAt hC hg (show i < 12 by omega)) dX1_beginsWith_19 cwX1_33 okX1_moveAt rfl (hC.k9 hg) rfl rfl (by omega) rfl (Nat.le_of_ble_eq_true rfl) ?_
    refine z_iload_n (pc := 22) dX1_beginsWith_22 rfl ?_
    refine z_iload_n (pc := 23) dX1_beginsWith_23 rfl ?_
    refine z_callSNp (pc := 24) (mX5_moveOfLine G w hl (show i < 7 by omega)) dX1_beginsWith_24 cwX1_37 okX5_moveOfLine rfl (by omega) rfl (Nat.le_of_ble_eq_true rfl) ?_
    refine z_icmp_eq (pc := 27) (tgt := 32) dX1_beginsWith_27 (by decide) (fun hc => ?_) (fun hc => ?_)
    · refine z_iinc3 (pc := 32) dX1_beginsWith_32 ?_
      refine z_goto (pc := 35) (tgt := 12) dX1_beginsWith_35 (by decide) ?_
      rw [nI_1]
      exact ih (i + 1) (by omega) (by omega) (fun i' h => by
        rcases Nat.lt_succ_iff_lt_or_eq.mp h with q | q
        · exact ha i' q
        · rw [q]; exact hc)
    · refine z_iconst_0 (pc := 30) dX1_beginsWith_30 ?_
      refine z_zret (pc := 31) dX1_beginsWith_31 rfl (Or.inl rfl ) ( ⟨by rw [if_neg (fun q => hc (q.2 i hin))], rfl⟩)
theorem mX1_beginsWith (hC : z_C G F A I N O B w) {g l n : Nat} (hg : g < N 7 0) (hl : l < 2 ^ 31) (h12 : N 5 g ≤ 12) (h6 : n ≤ 6) [Decidable (n ≤ N 5 g ∧ ∀ i, i < n → I 8 g i = nI (l / 4 ^ i % 4))] : z_M G zX1_beginsWith 2 [.ref (A 9 g 0), .int (nI l), .int (nI n)] w 0 0 (z_rp (.int (if n ≤ N 5 g ∧ ∀ i, i < n → I 8 g i = nI (l / 4 ^ i % 4) then 1 else 0)) w) z_nx := by
  refine z_M.of (by decide +kernel) rfl (by intro v hv; simp only [List.mem_cons, List.not_mem_nil, or_false] at hv; rcases hv with rfl | rfl | rfl <;> first | rfl | exact z_isr_cat (z_isr_rf _)) (Nat.le_of_ble_eq_true rfl) ?_
  show z_E _ zX1_beginsWith _ _ 0 [some (.ref (A 9 g 0)), some (.int (nI l)), some (.int (nI n)), none] [] _ _ _
  refine z_aload_n (pc := 0) dX1_beginsWith_0 rfl (by first | rfl | exact z_isr_rf _) ?_
  refine gfX1_26 (pc := 1) rfl dX1_beginsWith_1 (hC.k9 hg) rfl ?_
  refine z_iload_n (pc := 4) dX1_beginsWith_4 rfl ?_
  refine z_icmp_ge (pc := 5) (tgt := 10) dX1_beginsWith_5 (by decide) (fun hc => ?_) (fun hc => ?_)
  · refine z_iconst_0 (pc := 10) dX1_beginsWith_10 ?_
    refine z_istore3 (pc := 11) dX1_beginsWith_11 ?_
    rw [nI_leI (by omega) (by omega)] at hc
    exact iX1_beginsWith hC hg hl hc h12 h6 _ 0 rfl (Nat.zero_le _) (fun _ h => absurd h (Nat.not_lt_zero _))
  · refine z_iconst_0 (pc := 8) dX1_beginsWith_8 ?_
    rw [nI_leI (by omega) (by omega)] at hc
    refine z_zret (pc := 9) dX1_beginsWith_9 rfl (Or.inl rfl ) ( ⟨by rw [if_neg (fun q => hc q.1)], rfl⟩)
theorem mX2_goingOnWith (hC : z_C G F A I N O B w) {i j m : Nat} (hB : B i j = true) (hm : m < 4) : z_M G zX2_goingOnWith 0 [.ref (A 12 i j), .int (nI m)] w 0 0 (z_rp (va_rf (if B (i + 1) (j + m * 4 ^ i) then some (A 12 (i + 1) (j + m * 4 ^ i)) else none)) w) z_nx := by
  refine z_M.of (by decide +kernel) rfl (by intro v hv; simp only [List.mem_cons, List.not_mem_nil, or_false] at hv; rcases hv with rfl | rfl <;> first | rfl | exact z_isr_cat (z_isr_rf _)) (Nat.le_of_ble_eq_true rfl) ?_
  show z_E _ zX2_goingOnWith _ _ 0 [some (.ref (A 12 i j)), some (.int (nI m))] [] _ _ _
  have hm3 : m < 2 ^ 31 := by omega
  refine z_iload_n (pc := 0) dX2_goingOnWith_0 rfl ?_
  refine z_if_lt (pc := 1) (tgt := 22) dX2_goingOnWith_1 (by decide) (fun hn => absurd hn (nI_pos hm3)) (fun _ => ?_)
  refine z_iload_n (pc := 4) dX2_goingOnWith_4 rfl ?_
  refine z_aload_n (pc := 5) dX2_goingOnWith_5 rfl (by first | rfl | exact z_isr_rf _) ?_
  refine gfX2_11 (pc := 6) rfl dX2_goingOnWith_6 (hC.k12 hB) rfl ?_
  refine z_alen (pc := 9) dX2_goingOnWith_9 (hC.k13 hB) rfl rfl ?_
  refine z_icmp_ge (pc := 10) (tgt := 22) dX2_goingOnWith_10 (by decide) (fun hn => absurd hn (nI_ge hm (by omega))) (fun _ => ?_)
  refine z_aload_n (pc := 13) dX2_goingOnWith_13 rfl (by first | rfl | exact z_isr_rf _) ?_
  refine gfX2_11 (pc := 14) rfl dX2_goingOnWith_14 (hC.k12 hB) rfl ?_
  refine z_iload_n (pc := 17) dX2_goingOnWith_17 rfl ?_
  refine z_aaldN (pc := 18) dX2_goingOnWith_18 (hC.k13 hB) (vp_in_nI hm (by omega)) ?_
  refine z_goto (pc := 19) (tgt := 23) dX2_goingOnWith_19 (by decide) ?_
  rw [nI_clamp hm3]
  refine z_aret (pc := 23) dX2_goingOnWith_23 rfl (by first | rfl | exact z_isr_rf _) (⟨rfl, rfl⟩)
theorem mX2_doesBadly (hC : z_C G F A I N O B w) {i j : Nat} {o : Int32} (hB : B i j = true) [Decidable (bad (I 11 i j) (I 12 i j) o)] : z_M G zX2_doesBadly 0 [.ref (A 12 i j), .int o] w 0 0 (z_rp (.int (if bad (I 11 i j) (I 12 i j) o then 1 else 0)) w) z_nx := by
  refine z_M.of (by decide +kernel) rfl (by intro v hv; simp only [List.mem_cons, List.not_mem_nil, or_false] at hv; rcases hv with rfl | rfl <;> first | rfl | exact z_isr_cat (z_isr_rf _)) (Nat.le_of_ble_eq_true rfl) ?_
  show z_E _ zX2_doesBadly _ _ 0 [some (.ref (A 12 i j)), some (.int o), none] [] _ _ _
  have e : ∀ {Z : z_Gq} (v : Int32), v = (if o = 0 then 2 * I 11 i j - I 12 i j else I 12 i j) → (Z = z_mq G (z_rp (.int (if bad (I 11 i j) (I 12 i j) o then 1 else 0)) w) z_nx) → z_E G zX2_doesBadly 0 Z 22 [some (.ref (A 12 i j)), some (.int o), none] [.int v] w 0 0 := by
    intro Z v hv hZ
    subst hZ
    refine z_istore2 (pc := 22) dX2_doesBadly_22 ?_
    refine z_aload_n (pc := 23) dX2_doesBadly_23 rfl (by first | rfl | exact z_isr_rf _) ?_
    refine gfX2_20 (pc := 24) rfl dX2_doesBadly_24 (hC.k12 hB) rfl ?_
    refine z_iconst_3 (pc := 27) dX2_doesBadly_27 ?_
    refine z_icmp_lt (pc := 28) (tgt := 47) dX2_doesBadly_28 (by decide) (fun hc => ?_) (fun hc => ?_)
    · refine z_iconst_0 (pc := 47) dX2_doesBadly_47 ?_
      refine z_zret (pc := 48) dX2_doesBadly_48 rfl (Or.inl rfl ) ( ⟨by rw [if_neg (fun q => Int32.not_le.mpr hc q.1)], rfl⟩)
    · refine z_iconst_3 (pc := 31) dX2_doesBadly_31 ?_
      refine z_iload_n (pc := 32) dX2_doesBadly_32 rfl ?_
      refine z_imul (pc := 33) dX2_doesBadly_33 ?_
      refine z_iconst_2 (pc := 34) dX2_doesBadly_34 ?_
      refine z_aload_n (pc := 35) dX2_doesBadly_35 rfl (by first | rfl | exact z_isr_rf _) ?_
      refine gfX2_20 (pc := 36) rfl dX2_doesBadly_36 (hC.k12 hB) rfl ?_
      refine z_imul (pc := 39) dX2_doesBadly_39 ?_
      refine z_icmp_ge (pc := 40) (tgt := 47) dX2_doesBadly_40 (by decide) (fun hd => ?_) (fun hd => ?_)
      · refine z_iconst_0 (pc := 47) dX2_doesBadly_47 ?_
        refine z_zret (pc := 48) dX2_doesBadly_48 rfl (Or.inl rfl ) ( ⟨by rw [if_neg (fun q => Int32.not_lt.mpr hd (by rw [hv]; exact q.2))], rfl⟩)
      · refine z_iconst_1 (pc := 43) dX2_doesBadly_43 ?_
        refine z_goto (pc := 44) (tgt := 48) dX2_doesBadly_44 (by decide) ?_
        refine z_zret (pc := 48) dX2_doesBadly_48 rfl (Or.inr rfl ) ( ⟨by rw [if_pos ⟨Int32.not_lt.mp hc, by rw [← hv]; exact Int32.not_le.mp hd⟩], rfl⟩)
  refine z_iload_n (pc := 0) dX2_doesBadly_0 rfl ?_
  refine z_if_eq (pc := 1) (tgt := 11) dX2_doesBadly_1 (by decide) (fun ho => ?_) (fun ho => ?_)
  · refine z_iconst_2 (pc := 11) dX2_doesBadly_11 ?_
    refine z_aload_n (pc := 12) dX2_doesBadly_12 rfl (by first | rfl | exact z_isr_rf _) ?_
    refine gfX2_20 (pc := 13) rfl dX2_doesBadly_13 (hC.k12 hB) rfl ?_
    refine z_imul (pc := 16) dX2_doesBadly_16 ?_
    refine z_aload_n (pc := 17) dX2_doesBadly_17 rfl (by first | rfl | exact z_isr_rf _) ?_
    refine gfX2_16 (pc := 18) rfl dX2_doesBadly_18 (hC.k12 hB) rfl ?_
    refine z_isub (pc := 21) dX2_doesBadly_21 ?_
    exact e _ (by rw [if_pos ho]) rfl
  · refine z_aload_n (pc := 4) dX2_doesBadly_4 rfl (by first | rfl | exact z_isr_rf _) ?_
    refine gfX2_16 (pc := 5) rfl dX2_doesBadly_5 (hC.k12 hB) rfl ?_
    refine z_goto (pc := 8) (tgt := 22) dX2_doesBadly_8 (by decide) ?_
    exact e _ (by rw [if_neg ho]) rfl
theorem z_pre (l i : Nat) : l % 4 ^ i + l / 4 ^ i % 4 * 4 ^ i = l % 4 ^ (i + 1) := by
  rw [Nat.pow_succ, Nat.mod_mul, Nat.mul_comm]
theorem z_up_B (hS : z_S N O B) {l i : Nat} : ∀ m, B (i + m) (l % 4 ^ (i + m)) = true → B i (l % 4 ^ i) = true
  | 0, h => h
  | m + 1, h => by
    have h1 := hS.2.2.2.2.2.2.2.2.2.2.2 (i + m) _ h
    rw [Nat.mod_mod_of_dvd _ (Nat.pow_dvd_pow 4 (show i + m ≤ i + (m + 1) by omega))] at h1
    exact z_up_B hS m h1
theorem iX0_find {QX} (hC : z_C G F A I N O B w) (hS : z_S N O B) {l n : Nat} (hl : l < 4 ^ n) (hl3 : l < 2 ^ 31) (h6 : n ≤ 6) : ∀ m i : Nat, n - i = m → i ≤ n → z_E G zX0_find 1 (z_mq G (z_rp (va_rf (if B n l then some (A 12 n l) else none)) w) QX) 8 [some (.ref (A 4 0 0)), some (.int (nI l)), some (.int (nI n)), some (va_rf (if B i (l % 4 ^ i) then some (A 12 i (l % 4 ^ i)) else none)), some (.int (nI i))] [] w 0 0 := by
  intro m
  induction m with
  | zero =>
    intro i hm hi
    have : i = n := by omega
    subst this
    rw [Nat.mod_eq_of_lt hl]
    refine z_iload (pc := 8) dX0_find_8 rfl ?_
    refine z_iload_n (pc := 10) dX0_find_10 rfl ?_
    refine z_icmp_ge (pc := 11) (tgt := 35) dX0_find_11 (by decide) (fun _ => ?_) (fun hn => absurd (nI_le (Nat.le_refl _) (by omega)) hn)
    refine z_aload_n (pc := 35) dX0_find_35 rfl (by first | rfl | exact z_isr_rf _) ?_
    refine z_aret (pc := 36) dX0_find_36 rfl (by first | rfl | exact z_isr_rf _) (⟨rfl, rfl⟩)
  | succ m ih =>
    intro i hm hi
    have hin : i < n := by omega
    by_cases hB : B i (l % 4 ^ i) = true
    · rw [if_pos hB]
      refine z_iload (pc := 8) dX0_find_8 rfl ?_
      refine z_iload_n (pc := 10) dX0_find_10 rfl ?_
      refine z_icmp_ge (pc := 11) (tgt := 35) dX0_find_11 (by decide) (fun hn => absurd hn (nI_ge hin (by omega))) (fun _ => ?_)
      refine z_aload_n (pc := 14) dX0_find_14 rfl (by first | rfl | exact z_isr_rf _) ?_
      refine z_ifnull (pc := 15) (tgt := 35) dX0_find_15 (by decide) (by first | rfl | exact z_isr_rf _) (fun hn => by cases hn) (fun _ _ => ?_)
      refine z_aload_n (pc := 18) dX0_find_18 rfl (by first | rfl | exact z_isr_rf _) ?_
      refine z_iload_n (pc := 19) dX0_find_19 rfl ?_
      refine z_iload (pc := 20) dX0_find_20 rfl ?_
      refine z_callSNp (pc := 22) (mX5_moveOfLine G w hl3 (show i < 7 by omega)) dX0_find_22 cwX0_65 okX5_moveOfLine rfl (by omega) rfl (Nat.le_of_ble_eq_true rfl) ?_
      refine z_callVp (pc := 25) (mX2_goingOnWith hC hB (Nat.mod_lt _ (by omega))) dX0_find_25 cwX0_58 okX2_goingOnWith rfl (hC.k12 hB) rfl rfl (by omega) rfl (Nat.le_of_ble_eq_true rfl) ?_
      rw [z_pre]
      refine z_astore3 (pc := 28) dX0_find_28 (by first | rfl | exact z_isr_rf _) ?_
      refine z_iinc4 (pc := 29) dX0_find_29 ?_
      refine z_goto (pc := 32) (tgt := 8) dX0_find_32 (by decide) ?_
      rw [nI_1]
      exact ih (i + 1) (by omega) (by omega)
    · rw [if_neg hB, if_neg (fun q => hB (z_up_B hS (i := i) (l := l) (n - i) (by rw [Nat.add_sub_cancel' (by omega), Nat.mod_eq_of_lt hl]; exact q)))]
      refine z_iload (pc := 8) dX0_find_8 rfl ?_
      refine z_iload_n (pc := 10) dX0_find_10 rfl ?_
      refine z_icmp_ge (pc := 11) (tgt := 35) dX0_find_11 (by decide) (fun hn => absurd hn (nI_ge hin (by omega))) (fun _ => ?_)
      refine z_aload_n (pc := 14) dX0_find_14 rfl (by first | rfl | exact z_isr_rf _) ?_
      refine z_ifnull (pc := 15) (tgt := 35) dX0_find_15 (by decide) (by first | rfl | exact z_isr_rf _) (fun _ => ?_) (fun _ hn => by cases hn)
      refine z_aload_n (pc := 35) dX0_find_35 rfl (by first | rfl | exact z_isr_rf _) ?_
      refine z_aret (pc := 36) dX0_find_36 rfl (by first | rfl | exact z_isr_rf _) (⟨rfl, rfl⟩)
theorem mX0_find (hC : z_C G F A I N O B w) (hS : z_S N O B) {l n : Nat} (hl : l < 4 ^ n) (hl3 : l < 2 ^ 31) (h6 : n ≤ 6) : z_M G zX0_find 1 [.ref (A 4 0 0), .int (nI l), .int (nI n)] w 0 0 (z_rp (va_rf (if B n l then some (A 12 n l) else none)) w) z_nx := by
  refine z_M.of (by decide +kernel) rfl (by intro v hv; simp only [List.mem_cons, List.not_mem_nil, or_false] at hv; rcases hv with rfl | rfl | rfl <;> first | rfl | exact z_isr_cat (z_isr_rf _)) (Nat.le_of_ble_eq_true rfl) ?_
  show z_E _ zX0_find _ _ 0 [some (.ref (A 4 0 0)), some (.int (nI l)), some (.int (nI n)), none, none] [] _ _ _
  refine z_aload_n (pc := 0) dX0_find_0 rfl (by first | rfl | exact z_isr_rf _) ?_
  refine gfX0_12 (pc := 1) rfl dX0_find_1 (hC.k4) rfl ?_
  refine z_astore3 (pc := 4) dX0_find_4 (by first | rfl | exact z_isr_rf _) ?_
  refine z_iconst_0 (pc := 5) dX0_find_5 ?_
  refine z_istore4 (pc := 6) dX0_find_6 ?_
  have := iX0_find (QX := z_nx) hC hS hl hl3 h6 _ 0 rfl (Nat.zero_le _)
  rw [Nat.pow_zero, Nat.mod_one, if_pos hS.2.2.2.2.2.2.2.2.2.1] at this
  exact this
/-- whether one of the first k beginnings is dropped -/
def z_hd (I : z_TI) (B : z_TB) (l : Nat) : Nat → Bool
  | 0 => false
  | k + 1 => z_hd I B l k || (B (k + 1) (l % 4 ^ (k + 1)) && decide (I 13 (k + 1) (l % 4 ^ (k + 1)) ≠ 0))
theorem z_hd_up {l : Nat} : ∀ {i n : Nat}, i ≤ n → z_hd I B l i = true → z_hd I B l n = true := by
  intro i n h
  induction h with
  | refl => exact id
  | step _ ih => intro q; unfold z_hd; rw [ih q]; rfl
theorem z_hd_no (hS : z_S N O B) {l i n : Nat} (hB : ¬ B i (l % 4 ^ i) = true) (h : z_hd I B l i = false) (hi : i ≤ n) : z_hd I B l n = false := by
  induction hi with
  | refl => exact h
  | @step m hm ih =>
    unfold z_hd
    rw [ih]
    have : B (m + 1) (l % 4 ^ (m + 1)) = false := by
      cases q : B (m + 1) (l % 4 ^ (m + 1)) with
      | false => rfl
      | true =>
        have hm' : i ≤ m := hm
        exact absurd (z_up_B hS (i := i) (l := l) (m + 1 - i) (by rw [Nat.add_sub_cancel' (by omega)]; exact q)) hB
    rw [this]; rfl
theorem iX0_holdsDropped {QX} (hC : z_C G F A I N O B w) (hS : z_S N O B) {l n : Nat} (hl3 : l < 2 ^ 31) (h6 : n ≤ 6) : ∀ m i : Nat, n - i = m → i ≤ n → z_hd I B l i = false → z_E G zX0_holdsDropped 1 (z_mq G (z_rp (.int (if z_hd I B l n then 1 else 0)) w) QX) 8 [some (.ref (A 4 0 0)), some (.int (nI l)), some (.int (nI n)), some (va_rf (if B i (l % 4 ^ i) then some (A 12 i (l % 4 ^ i)) else none)), some (.int (nI i))] [] w 0 0 := by
  intro m
  induction m with
  | zero =>
    intro i hm hi hh
    have : i = n := by omega
    subst this
    refine z_iload (pc := 8) dX0_holdsDropped_8 rfl ?_
    refine z_iload_n (pc := 10) dX0_holdsDropped_10 rfl ?_
    refine z_icmp_ge (pc := 11) (tgt := 48) dX0_holdsDropped_11 (by decide) (fun _ => ?_) (fun hn => absurd (nI_le (Nat.le_refl _) (by omega)) hn)
    refine z_iconst_0 (pc := 48) dX0_holdsDropped_48 ?_
    refine z_zret (pc := 49) dX0_holdsDropped_49 rfl (Or.inl rfl ) ( ⟨by rw [hh]; rfl, rfl⟩)
  | succ m ih =>
    intro i hm hi hh
    have hin : i < n := by omega
    by_cases hB : B i (l % 4 ^ i) = true
    · rw [if_pos hB]
      refine z_iload (pc := 8) dX0_holdsDropped_8 rfl ?_
      refine z_iload_n (pc := 10) dX0_holdsDropped_10 rfl ?_
      refine z_icmp_ge (pc := 11) (tgt := 48) dX0_holdsDropped_11 (by decide) (fun hn => absurd hn (nI_ge hin (by omega))) (fun _ => ?_)
      refine z_aload_n (pc := 14) dX0_holdsDropped_14 rfl (by first | rfl | exact z_isr_rf _) ?_
      refine z_ifnull (pc := 15) (tgt := 48) dX0_holdsDropped_15 (by decide) (by first | rfl | exact z_isr_rf _) (fun hn => by cases hn) (fun _ _ => ?_)
      refine z_aload_n (pc := 18) dX0_holdsDropped_18 rfl (by first | rfl | exact z_isr_rf _) ?_
      refine z_iload_n (pc := 19) dX0_holdsDropped_19 rfl ?_
      refine z_iload (pc := 20) dX0_holdsDropped_20 rfl ?_
      refine z_callSNp (pc := 22) (mX5_moveOfLine G w hl3 (show i < 7 by omega)) dX0_holdsDropped_22 cwX0_65 okX5_moveOfLine rfl (by omega) rfl (Nat.le_of_ble_eq_true rfl) ?_
      refine z_callVp (pc := 25) (mX2_goingOnWith hC hB (Nat.mod_lt _ (by omega))) dX0_holdsDropped_25 cwX0_58 okX2_goingOnWith rfl (hC.k12 hB) rfl rfl (by omega) rfl (Nat.le_of_ble_eq_true rfl) ?_
      rw [z_pre]
      refine z_astore3 (pc := 28) dX0_holdsDropped_28 (by first | rfl | exact z_isr_rf _) ?_
      refine z_aload_n (pc := 29) dX0_holdsDropped_29 rfl (by first | rfl | exact z_isr_rf _) ?_
      have ih2 := ih (i + 1) (by omega) (by omega)
      by_cases hB2 : B (i + 1) (l % 4 ^ (i + 1)) = true
      · rw [if_pos hB2] at ih2 ⊢
        refine z_ifnull (pc := 30) (tgt := 42) dX0_holdsDropped_30 (by decide) (by first | rfl | exact z_isr_rf _) (fun hn => by cases hn) (fun _ _ => ?_)
        refine z_aload_n (pc := 33) dX0_holdsDropped_33 rfl (by first | rfl | exact z_isr_rf _) ?_
        refine gfX0_45 (pc := 34) rfl dX0_holdsDropped_34 (hC.k12 hB2) rfl ?_
        refine z_if_eq (pc := 37) (tgt := 42) dX0_holdsDropped_37 (by decide) (fun hd => ?_) (fun hd => ?_)
        · refine z_iinc4 (pc := 42) dX0_holdsDropped_42 ?_
          refine z_goto (pc := 45) (tgt := 8) dX0_holdsDropped_45 (by decide) ?_
          rw [nI_1]
          exact ih2 (by unfold z_hd; rw [hh, decide_eq_false (by simpa using hd)]; simp)
        · refine z_iconst_1 (pc := 40) dX0_holdsDropped_40 ?_
          refine z_zret (pc := 41) dX0_holdsDropped_41 rfl (Or.inr rfl ) ( ⟨by rw [if_pos (z_hd_up (i := i + 1) (by omega) (by unfold z_hd; rw [hB2, decide_eq_true hd]; simp))], rfl⟩)
      · rw [if_neg hB2] at ih2 ⊢
        refine z_ifnull (pc := 30) (tgt := 42) dX0_holdsDropped_30 (by decide) (by first | rfl | exact z_isr_rf _) (fun _ => ?_) (fun _ hn => by cases hn)
        refine z_iinc4 (pc := 42) dX0_holdsDropped_42 ?_
        refine z_goto (pc := 45) (tgt := 8) dX0_holdsDropped_45 (by decide) ?_
        rw [nI_1]
        exact ih2 (by unfold z_hd; rw [hh, Bool.eq_false_iff.mpr hB2]; rfl)
    · rw [if_neg hB]
      refine z_iload (pc := 8) dX0_holdsDropped_8 rfl ?_
      refine z_iload_n (pc := 10) dX0_holdsDropped_10 rfl ?_
      refine z_icmp_ge (pc := 11) (tgt := 48) dX0_holdsDropped_11 (by decide) (fun hn => absurd hn (nI_ge hin (by omega))) (fun _ => ?_)
      refine z_aload_n (pc := 14) dX0_holdsDropped_14 rfl (by first | rfl | exact z_isr_rf _) ?_
      refine z_ifnull (pc := 15) (tgt := 48) dX0_holdsDropped_15 (by decide) (by first | rfl | exact z_isr_rf _) (fun _ => ?_) (fun _ hn => by cases hn)
      refine z_iconst_0 (pc := 48) dX0_holdsDropped_48 ?_
      refine z_zret (pc := 49) dX0_holdsDropped_49 rfl (Or.inl rfl ) ( ⟨by rw [z_hd_no hS hB hh (by omega)]; rfl, rfl⟩)
theorem mX0_holdsDropped (hC : z_C G F A I N O B w) (hS : z_S N O B) {l n : Nat} (hl3 : l < 2 ^ 31) (h6 : n ≤ 6) : z_M G zX0_holdsDropped 1 [.ref (A 4 0 0), .int (nI l), .int (nI n)] w 0 0 (z_rp (.int (if z_hd I B l n then 1 else 0)) w) z_nx := by
  refine z_M.of (by decide +kernel) rfl (by intro v hv; simp only [List.mem_cons, List.not_mem_nil, or_false] at hv; rcases hv with rfl | rfl | rfl <;> first | rfl | exact z_isr_cat (z_isr_rf _)) (Nat.le_of_ble_eq_true rfl) ?_
  show z_E _ zX0_holdsDropped _ _ 0 [some (.ref (A 4 0 0)), some (.int (nI l)), some (.int (nI n)), none, none] [] _ _ _
  refine z_aload_n (pc := 0) dX0_holdsDropped_0 rfl (by first | rfl | exact z_isr_rf _) ?_
  refine gfX0_12 (pc := 1) rfl dX0_holdsDropped_1 (hC.k4) rfl ?_
  refine z_astore3 (pc := 4) dX0_holdsDropped_4 (by first | rfl | exact z_isr_rf _) ?_
  refine z_iconst_0 (pc := 5) dX0_holdsDropped_5 ?_
  refine z_istore4 (pc := 6) dX0_holdsDropped_6 ?_
  have := iX0_holdsDropped (QX := z_nx) hC hS hl3 h6 _ 0 rfl (Nat.zero_le _) (l := l) rfl
  rw [Nat.pow_zero, Nat.mod_one, if_pos hS.2.2.2.2.2.2.2.2.2.1] at this
  exact this
end BK

