/-! ranges, and the checks of arguments -/
def z_rg (x : Int32) (n : Nat) : Prop := ∃ j : Nat, j < n ∧ x = nI j
theorem z_rg_lt {x : Int32} {n : Nat} (hn : n < 2 ^ 31) (h : x < 0) : ¬ z_rg x n := by
  rintro ⟨j, h1, rfl⟩
  exact nI_pos (by omega) h
theorem z_rg_ge {x : Int32} {n : Nat} (hn : n < 2 ^ 31) (h : nI n ≤ x) : ¬ z_rg x n := by
  rintro ⟨j, h1, rfl⟩
  exact nI_ge h1 hn h
theorem z_rg_in {x : Int32} {n : Nat} (hn : n < 2 ^ 31) (h : ¬ x < 0) (h2 : ¬ nI n ≤ x) : z_rg x n := by
  obtain ⟨j, h3, rfl⟩ := nI_of h
  rw [nI_leI hn h3] at h2
  exact ⟨j, by omega, rfl⟩
theorem z_rg_in' {x : Int32} {n : Nat} (hn : n < 2 ^ 31) (h : ¬ x < 0) (h2 : x < nI n) : z_rg x n :=
  z_rg_in hn h (fun h3 => Int32.not_lt.mpr h3 h2)
theorem nI_inj {a b : Nat} (ha : a < 2 ^ 31) (hb : b < 2 ^ 31) (h : nI a = nI b) : a = b := (nI_eq ha hb).mp h
def IAE : String := "java/lang/IllegalArgumentException"
def ISE : String := "java/lang/IllegalStateException"
def IOE : String := "java/lang/IndexOutOfBoundsException"
/-- a check: it returns where P holds, throws E where it doesn't -/
def z_ck (P : Prop) (w : z_W) : Option Value → z_W → Prop := fun v w' => v = none ∧ w = w' ∧ P
def z_cx (E : String) (P : Prop) (w : z_W) : String → z_W → Prop := fun E' w' => E' = E ∧ w = w' ∧ ¬ P
/-- where nothing changes: the answer r where P holds -/
def z_an (r : Value) (P : Prop) (w : z_W) : Option Value → z_W → Prop := fun v w' => v = some r ∧ w = w' ∧ P
section CHK
variable (G : z_G) (w : z_W)
theorem mX5_checkPosition (x : Int32) : z_M G zX5_checkPosition 6 [.int x] w 1 6 (z_ck (z_rg x 1000) w) (z_cx IAE (z_rg x 1000) w) := by
  refine z_M.of (by decide +kernel) rfl (by intro v hv; simp only [List.mem_cons, List.not_mem_nil, or_false] at hv; rcases hv with rfl <;> first | rfl | exact z_isr_cat (z_isr_rf _)) (Nat.le_of_ble_eq_true rfl) ?_
  show z_E _ zX5_checkPosition _ _ 0 [some (.int x)] [] _ _ _
  refine z_iload_n (pc := 0) dX5_checkPosition_0 rfl ?_
  refine z_if_lt (pc := 1) (tgt := 11) dX5_checkPosition_1 (by decide) (fun hc => ?_) (fun hc => ?_)
  · refine z_throw (pc := 11) rfl rfl th69 sr210 (by omega) (Nat.le_of_ble_eq_true rfl) (by omega) (by omega) dX5_checkPosition_11 dX5_checkPosition_14 dX5_checkPosition_15 dX5_checkPosition_17 dX5_checkPosition_20 (⟨rfl, rfl, z_rg_lt (by decide) hc⟩)
  · refine z_iload_n (pc := 4) dX5_checkPosition_4 rfl ?_
    refine z_sipush_1000 (pc := 5) dX5_checkPosition_5 ?_
    refine z_icmp_lt (pc := 8) (tgt := 21) dX5_checkPosition_8 (by decide) (fun hd => ?_) (fun hd => ?_)
    · refine z_vret (pc := 21) dX5_checkPosition_21 rfl (⟨rfl, rfl, z_rg_in' (by decide) hc hd⟩)
    · refine z_throw (pc := 11) rfl rfl th69 sr210 (by omega) (Nat.le_of_ble_eq_true rfl) (by omega) (by omega) dX5_checkPosition_11 dX5_checkPosition_14 dX5_checkPosition_15 dX5_checkPosition_17 dX5_checkPosition_20 (⟨rfl, rfl, z_rg_ge (by decide) (Int32.not_lt.mp hd)⟩)
theorem mX5_checkMove (x : Int32) : z_M G zX5_checkMove 6 [.int x] w 1 6 (z_ck (z_rg x 4) w) (z_cx IAE (z_rg x 4) w) := by
  refine z_M.of (by decide +kernel) rfl (by intro v hv; simp only [List.mem_cons, List.not_mem_nil, or_false] at hv; rcases hv with rfl <;> first | rfl | exact z_isr_cat (z_isr_rf _)) (Nat.le_of_ble_eq_true rfl) ?_
  show z_E _ zX5_checkMove _ _ 0 [some (.int x)] [] _ _ _
  refine z_iload_n (pc := 0) dX5_checkMove_0 rfl ?_
  refine z_if_lt (pc := 1) (tgt := 9) dX5_checkMove_1 (by decide) (fun hc => ?_) (fun hc => ?_)
  · refine z_throw (pc := 9) rfl rfl th69 sr212 (by omega) (Nat.le_of_ble_eq_true rfl) (by omega) (by omega) dX5_checkMove_9 dX5_checkMove_12 dX5_checkMove_13 dX5_checkMove_15 dX5_checkMove_18 (⟨rfl, rfl, z_rg_lt (by decide) hc⟩)
  · refine z_iload_n (pc := 4) dX5_checkMove_4 rfl ?_
    refine z_iconst_4 (pc := 5) dX5_checkMove_5 ?_
    refine z_icmp_lt (pc := 6) (tgt := 19) dX5_checkMove_6 (by decide) (fun hd => ?_) (fun hd => ?_)
    · refine z_vret (pc := 19) dX5_checkMove_19 rfl (⟨rfl, rfl, z_rg_in' (by decide) hc hd⟩)
    · refine z_throw (pc := 9) rfl rfl th69 sr212 (by omega) (Nat.le_of_ble_eq_true rfl) (by omega) (by omega) dX5_checkMove_9 dX5_checkMove_12 dX5_checkMove_13 dX5_checkMove_15 dX5_checkMove_18 (⟨rfl, rfl, z_rg_ge (by decide) (Int32.not_lt.mp hd)⟩)
/-- a line and its number of moves -/
def z_ln (x y : Int32) : Prop := ∃ l n : Nat, 1 ≤ n ∧ n ≤ 6 ∧ l < 4 ^ n ∧ x = nI l ∧ y = nI n
theorem z_shl : ∀ n, n < 7 → (1 : Int32) <<< ((2 * nI n) &&& 31) = nI (4 ^ n) := by decide +kernel
theorem z_p4 : ∀ n, n < 7 → 4 ^ n < 2 ^ 31 := by decide +kernel
theorem mX5_checkLine (x y : Int32) : z_M G zX5_checkLine 6 [.int x, .int y] w 1 6 (z_ck (z_ln x y) w) (z_cx IAE (z_ln x y) w) := by
  refine z_M.of (by decide +kernel) rfl (by intro v hv; simp only [List.mem_cons, List.not_mem_nil, or_false] at hv; rcases hv with rfl | rfl <;> first | rfl | exact z_isr_cat (z_isr_rf _)) (Nat.le_of_ble_eq_true rfl) ?_
  show z_E _ zX5_checkLine _ _ 0 [some (.int x), some (.int y)] [] _ _ _
  refine z_iload_n (pc := 0) dX5_checkLine_0 rfl ?_
  refine z_iconst_1 (pc := 1) dX5_checkLine_1 ?_
  refine z_icmp_lt (pc := 2) (tgt := 11) dX5_checkLine_2 (by decide) (fun hc => ?_) (fun hc => ?_)
  · refine z_throw (pc := 11) rfl rfl th69 sr214 (by omega) (Nat.le_of_ble_eq_true rfl) (by omega) (by omega) dX5_checkLine_11 dX5_checkLine_14 dX5_checkLine_15 dX5_checkLine_17 dX5_checkLine_20 (⟨rfl, rfl, ?_⟩)
    rintro ⟨l, n, h1, h2, h3, h4, rfl⟩
    exact (nI_nlt (a := n) (b := 1) h1 (by omega)) hc
  · refine z_iload_n (pc := 5) dX5_checkLine_5 rfl ?_
    refine z_bipush_6 (pc := 6) dX5_checkLine_6 ?_
    refine z_icmp_le (pc := 8) (tgt := 21) dX5_checkLine_8 (by decide) (fun hd => ?_) (fun hd => ?_)
    · have hy : ∃ n : Nat, 1 ≤ n ∧ n ≤ 6 ∧ y = nI n := by
        have h0 : ¬ y < 0 := fun h => hc (Int32.lt_trans h (by decide))
        obtain ⟨j, h3, rfl⟩ := nI_of h0
        have h6 : j ≤ 6 := (nI_leI (a := j) (b := 6) h3 (by decide)).mp hd
        refine ⟨j, ?_, h6, rfl⟩
        have h1 := Int32.not_lt.mp hc
        exact (nI_leI (a := 1) (b := j) (by decide) h3).mp h1
      obtain ⟨n, hn1, hn6, rfl⟩ := hy
      refine z_iload_n (pc := 21) dX5_checkLine_21 rfl ?_
      refine z_if_lt (pc := 22) (tgt := 34) dX5_checkLine_22 (by decide) (fun he => ?_) (fun he => ?_)
      · refine z_throw (pc := 34) rfl rfl th69 sr216 (by omega) (Nat.le_of_ble_eq_true rfl) (by omega) (by omega) dX5_checkLine_34 dX5_checkLine_37 dX5_checkLine_38 dX5_checkLine_40 dX5_checkLine_43 (⟨rfl, rfl, ?_⟩)
        rintro ⟨l, n', h1, h2, h3, rfl, h5⟩
        exact nI_pos (Nat.lt_of_lt_of_le h3 (Nat.le_of_lt (z_p4 n' (by omega)))) he
      · refine z_iload_n (pc := 25) dX5_checkLine_25 rfl ?_
        refine z_iconst_1 (pc := 26) dX5_checkLine_26 ?_
        refine z_iconst_2 (pc := 27) dX5_checkLine_27 ?_
        refine z_iload_n (pc := 28) dX5_checkLine_28 rfl ?_
        refine z_imul (pc := 29) dX5_checkLine_29 ?_
        refine z_ishl (pc := 30) dX5_checkLine_30 ?_
        rw [z_shl n (by omega)]
        refine z_icmp_lt (pc := 31) (tgt := 44) dX5_checkLine_31 (by decide) (fun hf => ?_) (fun hf => ?_)
        · obtain ⟨l, hl, rfl⟩ := z_rg_in' (z_p4 n (by omega)) he hf
          refine z_vret (pc := 44) dX5_checkLine_44 rfl (⟨rfl, rfl, l, n, hn1, hn6, hl, rfl, rfl⟩)
        · refine z_throw (pc := 34) rfl rfl th69 sr216 (by omega) (Nat.le_of_ble_eq_true rfl) (by omega) (by omega) dX5_checkLine_34 dX5_checkLine_37 dX5_checkLine_38 dX5_checkLine_40 dX5_checkLine_43 (⟨rfl, rfl, ?_⟩)
          rintro ⟨l, n', h1, h2, h3, rfl, h5⟩
          have := nI_inj (by omega) (by omega) h5
          subst this
          exact hf (nI_lt h3 (z_p4 n (by omega)))
    · refine z_throw (pc := 11) rfl rfl th69 sr214 (by omega) (Nat.le_of_ble_eq_true rfl) (by omega) (by omega) dX5_checkLine_11 dX5_checkLine_14 dX5_checkLine_15 dX5_checkLine_17 dX5_checkLine_20 (⟨rfl, rfl, ?_⟩)
      rintro ⟨l, n, h1, h2, h3, h4, rfl⟩
      exact hd (nI_le (a := n) (b := 6) h2 (by decide))
end CHK

