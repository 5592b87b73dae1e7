/-! calls of methods that answer one value and leave the world -/
def z_rp (r : Value) (w : z_W) : Option Value → z_W → Prop := fun v w' => v = some r ∧ w' = w
def z_rv (w : z_W) : Option Value → z_W → Prop := fun v w' => v = none ∧ w' = w
def z_nx : String → z_W → Prop := fun _ _ => False
def z_ex (E : String) (w : z_W) : String → z_W → Prop := fun E' w' => E' = E ∧ w' = w
section ZP
variable {G : z_G} {Y : z_Mi} {d : Nat} {Z : z_Gq} {pc : Nat} {L : List (Option Value)} {st : List Value} {w : z_W} {k n : Nat}
variable {Y' : z_Mi} {d' idx j : Nat} {As rest : List Value} {r : Value}
theorem z_callVp {b ci : Nat} {q : vw_C} {fs : List Value} (hM : z_M G Y' d' (.ref b :: As) w 0 0 (z_rp r w) z_nx) (d0 : decode Y.2.1 pc = .ok (.invokevirtual idx, 3)) (hw : z_cV Y.1.cls idx Y') (ho : z_ok Y' j) (hn : As.length = j) (hb : w b = some (.inr (ci, fs))) (hc : vwCl[ci]? = some q) (hq : q.1 = Y'.1.cls) (hdd : d' + 1 ≤ d) (hst : st = As.reverse ++ .ref b :: rest) (hre : (rest.map fun v => v.category).sum ≤ 8)
    (kk : z_E G Y d Z (pc + 3) L (r :: rest) w k n) : z_E G Y d Z pc L st w k n := by
  refine z_callV hM d0 hw ho hn hb hc hq hdd hst hre (Nat.zero_le _) (Nat.zero_le _) (fun _ _ h => h.elim) (fun v w2 h => ?_)
  obtain ⟨rfl, rfl⟩ := h
  exact kk
theorem z_callSp (hM : z_M G Y' d' As w 0 0 (z_rp r w) z_nx) (d0 : decode Y.2.1 pc = .ok (.invokestatic idx, 3)) (hw : z_cS Y.1.cls idx Y') (ho : z_ok Y' j) (hn : As.length = j) (hdd : d' + 1 ≤ d) (hst : st = As.reverse ++ rest) (hre : (rest.map fun v => v.category).sum ≤ 8)
    (kk : z_E G Y d Z (pc + 3) L (r :: rest) w k n) : z_E G Y d Z pc L st w k n := by
  refine z_callS hM d0 hw ho hn hdd hst hre (Nat.zero_le _) (Nat.zero_le _) (fun _ _ h => h.elim) (fun v w2 h => ?_)
  obtain ⟨rfl, rfl⟩ := h
  exact kk
theorem z_callSNp (hM : z_M G Y' d' As w 0 0 (z_rp r w) z_nx) (d0 : decode Y.2.1 pc = .ok (.invokestatic idx, 3)) (hw : z_cSN Y.1.cls idx Y') (ho : z_ok Y' j) (hn : As.length = j) (hdd : d' + 1 ≤ d) (hst : st = As.reverse ++ rest) (hre : (rest.map fun v => v.category).sum ≤ 8)
    (kk : z_E G Y d Z (pc + 3) L (r :: rest) w k n) : z_E G Y d Z pc L st w k n := by
  refine z_callSN hM d0 hw ho hn hdd hst hre (Nat.zero_le _) (Nat.zero_le _) (fun _ _ h => h.elim) (fun v w2 h => ?_)
  obtain ⟨rfl, rfl⟩ := h
  exact kk
end ZP
def nx (p m : Int32) : Int32 := (7 * p + 13 * m + 5) - (7 * p + 13 * m + 5) / 1000 * 1000
def wo (p : Int32) : Int32 := p * 37 - p * 37 / 101 * 101 - 50
def bs (p m f : Int32) : Int32 := if wo (nx p f) < wo (nx p m) then m else f
def bst (p : Int32) : Int32 := bs p 3 (bs p 2 (bs p 1 0))
def blC (p m : Int32) : Int32 := if wo (nx p (bst p)) - wo (nx p m) < 40 then 0 else 1
def blM (p m : Int32) : Int32 := if wo (nx p (bst p)) - 40 < wo (nx p m) then 0 else 1
theorem z_01 (c : Prop) [Decidable c] : (if c then (0 : Int32) else 1) = 0 ∨ (if c then (0 : Int32) else 1) = 1 := by
  by_cases h : c
  · exact Or.inl (if_pos h)
  · exact Or.inr (if_neg h)
theorem z_10 (c : Prop) [Decidable c] : (if c then (1 : Int32) else 0) = 0 ∨ (if c then (1 : Int32) else 0) = 1 := by
  by_cases h : c
  · exact Or.inr (if_pos h)
  · exact Or.inl (if_neg h)
section POS
variable (G : z_G) (w : z_W)
theorem mX5_positionAfter (p m : Int32) : z_M G zX5_positionAfter 0 [.int p, .int m] w 0 0 (z_rp (.int (nx p m)) w) z_nx := by
  refine z_M.of (by decide +kernel) rfl (by intro v hv; simp only [List.mem_cons, List.not_mem_nil, or_false] at hv; rcases hv with rfl | rfl <;> first | rfl | exact z_isr_cat (z_isr_rf _)) (Nat.le_of_ble_eq_true rfl) ?_
  show z_E _ zX5_positionAfter _ _ 0 [some (.int p), some (.int m)] [] _ _ _
  refine z_bipush_7 (pc := 0) dX5_positionAfter_0 ?_
  refine z_iload_n (pc := 2) dX5_positionAfter_2 rfl ?_
  refine z_imul (pc := 3) dX5_positionAfter_3 ?_
  refine z_bipush_13 (pc := 4) dX5_positionAfter_4 ?_
  refine z_iload_n (pc := 6) dX5_positionAfter_6 rfl ?_
  refine z_imul (pc := 7) dX5_positionAfter_7 ?_
  refine z_iadd (pc := 8) dX5_positionAfter_8 ?_
  refine z_iconst_5 (pc := 9) dX5_positionAfter_9 ?_
  refine z_iadd (pc := 10) dX5_positionAfter_10 ?_
  refine z_sipush_1000 (pc := 11) dX5_positionAfter_11 ?_
  refine z_irem (pc := 14) dX5_positionAfter_14 (by decide) ?_
  refine z_iret (pc := 15) dX5_positionAfter_15 rfl (⟨rfl, rfl⟩)
theorem mX5_worthOf (p : Int32) : z_M G zX5_worthOf 0 [.int p] w 0 0 (z_rp (.int (wo p)) w) z_nx := by
  refine z_M.of (by decide +kernel) rfl (by intro v hv; simp only [List.mem_cons, List.not_mem_nil, or_false] at hv; rcases hv with rfl <;> first | rfl | exact z_isr_cat (z_isr_rf _)) (Nat.le_of_ble_eq_true rfl) ?_
  show z_E _ zX5_worthOf _ _ 0 [some (.int p)] [] _ _ _
  refine z_iload_n (pc := 0) dX5_worthOf_0 rfl ?_
  refine z_bipush_37 (pc := 1) dX5_worthOf_1 ?_
  refine z_imul (pc := 3) dX5_worthOf_3 ?_
  refine z_bipush_101 (pc := 4) dX5_worthOf_4 ?_
  refine z_irem (pc := 6) dX5_worthOf_6 (by decide) ?_
  refine z_bipush_50 (pc := 7) dX5_worthOf_7 ?_
  refine z_isub (pc := 9) dX5_worthOf_9 ?_
  refine z_iret (pc := 10) dX5_worthOf_10 rfl (⟨rfl, rfl⟩)
theorem mX5_worthAfter (p m : Int32) : z_M G zX5_worthAfter 1 [.int p, .int m] w 0 0 (z_rp (.int (wo (nx p m))) w) z_nx := by
  refine z_M.of (by decide +kernel) rfl (by intro v hv; simp only [List.mem_cons, List.not_mem_nil, or_false] at hv; rcases hv with rfl | rfl <;> first | rfl | exact z_isr_cat (z_isr_rf _)) (Nat.le_of_ble_eq_true rfl) ?_
  show z_E _ zX5_worthAfter _ _ 0 [some (.int p), some (.int m)] [] _ _ _
  refine z_iload_n (pc := 0) dX5_worthAfter_0 rfl ?_
  refine z_iload_n (pc := 1) dX5_worthAfter_1 rfl ?_
  refine z_callSp (pc := 2) (mX5_positionAfter G w p m) dX5_worthAfter_2 cwX5_41 okX5_positionAfter rfl (by omega) rfl (Nat.le_of_ble_eq_true rfl) ?_
  refine z_callSp (pc := 5) (mX5_worthOf G w (nx p m)) dX5_worthAfter_5 cwX5_45 okX5_worthOf rfl (by omega) rfl (Nat.le_of_ble_eq_true rfl) ?_
  refine z_iret (pc := 8) dX5_worthAfter_8 rfl (⟨rfl, rfl⟩)
theorem iX5_bestMove {Z : z_Gq} (p f m : Int32) (hm : ¬ (4 : Int32) ≤ m) (kk : z_E G zX5_bestMove 2 Z 4 [some (.int p), some (.int (bs p m f)), some (.int (m + 1))] [] w 0 0) : z_E G zX5_bestMove 2 Z 4 [some (.int p), some (.int f), some (.int m)] [] w 0 0 := by
  refine z_iload_n (pc := 4) dX5_bestMove_4 rfl ?_
  refine z_iconst_4 (pc := 5) dX5_bestMove_5 ?_
  refine z_icmp_ge (pc := 6) (tgt := 30) dX5_bestMove_6 (by decide) (fun hn => absurd hn (hm)) (fun _ => ?_)
  refine z_iload_n (pc := 9) dX5_bestMove_9 rfl ?_
  refine z_iload_n (pc := 10) dX5_bestMove_10 rfl ?_
  refine z_callSp (pc := 11) (mX5_worthAfter G w p m) dX5_bestMove_11 cwX5_225 okX5_worthAfter rfl (by omega) rfl (Nat.le_of_ble_eq_true rfl) ?_
  refine z_iload_n (pc := 14) dX5_bestMove_14 rfl ?_
  refine z_iload_n (pc := 15) dX5_bestMove_15 rfl ?_
  refine z_callSp (pc := 16) (mX5_worthAfter G w p f) dX5_bestMove_16 cwX5_225 okX5_worthAfter rfl (by omega) rfl (Nat.le_of_ble_eq_true rfl) ?_
  refine z_icmp_le (pc := 19) (tgt := 24) dX5_bestMove_19 (by decide) (fun hc => ?_) (fun hc => ?_)
  · have e : bs p m f = f := if_neg (by rw [← Int32.not_le] at *; exact fun h => h hc)
    rw [e] at kk
    refine z_iinc2 (pc := 24) dX5_bestMove_24 ?_
    refine z_goto (pc := 27) (tgt := 4) dX5_bestMove_27 (by decide) ?_
    exact kk
  · have e : bs p m f = m := if_pos (by rw [← Int32.not_le] at *; exact hc)
    rw [e] at kk
    refine z_iload_n (pc := 22) dX5_bestMove_22 rfl ?_
    refine z_istore1 (pc := 23) dX5_bestMove_23 ?_
    refine z_iinc2 (pc := 24) dX5_bestMove_24 ?_
    refine z_goto (pc := 27) (tgt := 4) dX5_bestMove_27 (by decide) ?_
    exact kk
theorem mX5_bestMove (p : Int32) : z_M G zX5_bestMove 2 [.int p] w 0 0 (z_rp (.int (bst p)) w) z_nx := by
  refine z_M.of (by decide +kernel) rfl (by intro v hv; simp only [List.mem_cons, List.not_mem_nil, or_false] at hv; rcases hv with rfl <;> first | rfl | exact z_isr_cat (z_isr_rf _)) (Nat.le_of_ble_eq_true rfl) ?_
  show z_E _ zX5_bestMove _ _ 0 [some (.int p), none, none] [] _ _ _
  refine z_iconst_0 (pc := 0) dX5_bestMove_0 ?_
  refine z_istore1 (pc := 1) dX5_bestMove_1 ?_
  refine z_iconst_1 (pc := 2) dX5_bestMove_2 ?_
  refine z_istore2 (pc := 3) dX5_bestMove_3 ?_
  refine iX5_bestMove G w p 0 1 (by decide) (iX5_bestMove G w p _ _ (by decide) (iX5_bestMove G w p _ _ (by decide) ?_))
  refine z_iload_n (pc := 4) dX5_bestMove_4 rfl ?_
  refine z_iconst_4 (pc := 5) dX5_bestMove_5 ?_
  refine z_icmp_ge (pc := 6) (tgt := 30) dX5_bestMove_6 (by decide) (fun _ => ?_) (fun hn => absurd ((by decide)) hn)
  refine z_iload_n (pc := 30) dX5_bestMove_30 rfl ?_
  refine z_iret (pc := 31) dX5_bestMove_31 rfl (⟨rfl, rfl⟩)
theorem mX5_isBlunder (p m : Int32) : z_M G zX5_isBlunder 3 [.int p, .int m] w 0 0 (z_rp (.int (blC p m)) w) z_nx := by
  refine z_M.of (by decide +kernel) rfl (by intro v hv; simp only [List.mem_cons, List.not_mem_nil, or_false] at hv; rcases hv with rfl | rfl <;> first | rfl | exact z_isr_cat (z_isr_rf _)) (Nat.le_of_ble_eq_true rfl) ?_
  show z_E _ zX5_isBlunder _ _ 0 [some (.int p), some (.int m)] [] _ _ _
  refine z_iload_n (pc := 0) dX5_isBlunder_0 rfl ?_
  refine z_iload_n (pc := 1) dX5_isBlunder_1 rfl ?_
  refine z_callSp (pc := 2) (mX5_bestMove G w p) dX5_isBlunder_2 cwX5_49 okX5_bestMove rfl (by omega) rfl (Nat.le_of_ble_eq_true rfl) ?_
  refine z_callSp (pc := 5) (mX5_worthAfter G w p (bst p)) dX5_isBlunder_5 cwX5_225 okX5_worthAfter rfl (by omega) rfl (Nat.le_of_ble_eq_true rfl) ?_
  refine z_iload_n (pc := 8) dX5_isBlunder_8 rfl ?_
  refine z_iload_n (pc := 9) dX5_isBlunder_9 rfl ?_
  refine z_callSp (pc := 10) (mX5_worthAfter G w p m) dX5_isBlunder_10 cwX5_225 okX5_worthAfter rfl (by omega) rfl (Nat.le_of_ble_eq_true rfl) ?_
  refine z_isub (pc := 13) dX5_isBlunder_13 ?_
  refine z_bipush_40 (pc := 14) dX5_isBlunder_14 ?_
  refine z_icmp_lt (pc := 16) (tgt := 23) dX5_isBlunder_16 (by decide) (fun hc => ?_) (fun hc => ?_)
  · refine z_iconst_0 (pc := 23) dX5_isBlunder_23 ?_
    refine z_zret (pc := 24) dX5_isBlunder_24 rfl (Or.inl rfl ) ( ⟨by rw [blC, if_pos hc], rfl⟩)
  · refine z_iconst_1 (pc := 19) dX5_isBlunder_19 ?_
    refine z_goto (pc := 20) (tgt := 24) dX5_isBlunder_20 (by decide) ?_
    refine z_zret (pc := 24) dX5_isBlunder_24 rfl (Or.inr rfl ) ( ⟨by rw [blC, if_neg hc], rfl⟩)
end POS

