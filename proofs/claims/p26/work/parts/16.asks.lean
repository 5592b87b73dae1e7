/-! the class's calls that only ask -/
/-- throws: the first of the conditions that doesn't hold -/
def z_cx2 (E1 : String) (P1 : Prop) (E2 : String) (P2 : Prop) (w : z_W) : String → z_W → Prop := fun E' w' => w = w' ∧ ((E' = E1 ∧ ¬ P1) ∨ (E' = E2 ∧ P1 ∧ ¬ P2))
section ASK
variable {G : z_G} {F : Nat → Prop} {A : Nat → Nat → Nat → Nat} {I : z_TI} {N : z_TN} {O : z_TO} {B : z_TB} {w : z_W}
theorem mX5_knownPlayer (hC : z_C G F A I N O B w) (hS : z_S N O B) (x : Int32) : z_M G zX5_knownPlayer 6 [.ref (A 0 0 0), .int x] w 1 6 (fun v w' => w = w' ∧ ∃ p, p < N 6 0 ∧ x = nI p ∧ v = some (.ref (A 5 p 0))) (z_cx IOE (z_rg x (N 6 0)) w) := by
  have h8 : N 6 0 ≤ 8 := by rw [hS.1]; exact hS.2.2.2.1
  refine z_M.of (by decide +kernel) rfl (by intro v hv; simp only [List.mem_cons, List.not_mem_nil, or_false] at hv; rcases hv with rfl | rfl <;> first | rfl | exact z_isr_cat (z_isr_rf _)) (Nat.le_of_ble_eq_true rfl) ?_
  show z_E _ zX5_knownPlayer _ _ 0 [some (.ref (A 0 0 0)), some (.int x), none] [] _ _ _
  have e : ∀ {Z : z_Gq}, (Z = z_mq G (fun v w' => w = w' ∧ ∃ p, p < N 6 0 ∧ x = nI p ∧ v = some (.ref (A 5 p 0))) (z_cx IOE (z_rg x (N 6 0)) w)) → ¬ z_rg x (N 6 0) → z_E G zX5_knownPlayer 6 Z 23 [some (.ref (A 0 0 0)), some (.int x), none] [.null] w 1 6 := by
    intro Z hZ hn
    subst hZ
    refine z_astore2 (pc := 23) dX5_knownPlayer_23 (by first | rfl | exact z_isr_rf _) ?_
    refine z_aload_n (pc := 24) dX5_knownPlayer_24 rfl (by first | rfl | exact z_isr_rf _) ?_
    refine z_ifnonnull (pc := 25) (tgt := 38) dX5_knownPlayer_25 (by decide) (by first | rfl | exact z_isr_rf _) (fun _ hn => by cases hn) (fun _ => ?_)
    refine z_throw (pc := 28) rfl rfl th218 sr220 (by omega) (Nat.le_of_ble_eq_true rfl) (by omega) (by omega) dX5_knownPlayer_28 dX5_knownPlayer_31 dX5_knownPlayer_32 dX5_knownPlayer_34 dX5_knownPlayer_37 (⟨rfl, rfl, hn⟩)
  refine z_iload_n (pc := 0) dX5_knownPlayer_0 rfl ?_
  refine z_if_lt (pc := 1) (tgt := 22) dX5_knownPlayer_1 (by decide) (fun hc => ?_) (fun hc => ?_)
  · refine z_null (pc := 22) dX5_knownPlayer_22 ?_
    exact e rfl (z_rg_lt (by omega) hc)
  · obtain ⟨p, hp3, rfl⟩ := nI_of hc
    refine z_iload_n (pc := 4) dX5_knownPlayer_4 rfl ?_
    refine z_aload_n (pc := 5) dX5_knownPlayer_5 rfl (by first | rfl | exact z_isr_rf _) ?_
    refine gfX5_11 (pc := 6) rfl dX5_knownPlayer_6 (hC.k0) rfl ?_
    refine z_alen (pc := 9) dX5_knownPlayer_9 (hC.k1) rfl rfl ?_
    refine z_icmp_ge (pc := 10) (tgt := 22) dX5_knownPlayer_10 (by decide) (fun hd => ?_) (fun hd => ?_)
    · rw [nI_leI (by omega) hp3] at hd
      refine z_null (pc := 22) dX5_knownPlayer_22 ?_
      exact e rfl (fun ⟨j, h1, h2⟩ => by have := nI_inj hp3 (by omega) h2; omega)
    · rw [nI_leI (by omega) hp3] at hd
      refine z_aload_n (pc := 13) dX5_knownPlayer_13 rfl (by first | rfl | exact z_isr_rf _) ?_
      refine gfX5_11 (pc := 14) rfl dX5_knownPlayer_14 (hC.k0) rfl ?_
      refine z_iload_n (pc := 17) dX5_knownPlayer_17 rfl ?_
      refine z_aaldP (pc := 18) dX5_knownPlayer_18 (hC.k1) (vp_in_nI (by omega) (by omega)) ?_
      rw [nI_clamp hp3]
      by_cases hp : p < N 6 0
      · rw [if_pos hp]
        refine z_goto (pc := 19) (tgt := 23) dX5_knownPlayer_19 (by decide) ?_
        refine z_astore2 (pc := 23) dX5_knownPlayer_23 (by first | rfl | exact z_isr_rf _) ?_
        refine z_aload_n (pc := 24) dX5_knownPlayer_24 rfl (by first | rfl | exact z_isr_rf _) ?_
        refine z_ifnonnull (pc := 25) (tgt := 38) dX5_knownPlayer_25 (by decide) (by first | rfl | exact z_isr_rf _) (fun _ _ => ?_) (fun hn => by cases hn)
        refine z_aload_n (pc := 38) dX5_knownPlayer_38 rfl (by first | rfl | exact z_isr_rf _) ?_
        refine z_aret (pc := 39) dX5_knownPlayer_39 rfl (by first | rfl | exact z_isr_rf _) (⟨rfl, p, hp, rfl, rfl⟩)
      · rw [if_neg hp]
        refine z_goto (pc := 19) (tgt := 23) dX5_knownPlayer_19 (by decide) ?_
        exact e rfl (fun ⟨j, h1, h2⟩ => by have := nI_inj hp3 (by omega) h2; omega)
theorem mX5_knownPuzzle (hC : z_C G F A I N O B w) (hS : z_S N O B) (x : Int32) : z_M G zX5_knownPuzzle 6 [.ref (A 0 0 0), .int x] w 1 6 (fun v w' => w = w' ∧ ∃ p, p < N 8 0 ∧ x = nI p ∧ v = some (.ref (A 11 p 0))) (z_cx IOE (z_rg x (N 8 0)) w) := by
  have h8 : N 8 0 ≤ 40 := by rw [hS.2.2.1]; exact hS.2.2.2.2.2.1
  refine z_M.of (by decide +kernel) rfl (by intro v hv; simp only [List.mem_cons, List.not_mem_nil, or_false] at hv; rcases hv with rfl | rfl <;> first | rfl | exact z_isr_cat (z_isr_rf _)) (Nat.le_of_ble_eq_true rfl) ?_
  show z_E _ zX5_knownPuzzle _ _ 0 [some (.ref (A 0 0 0)), some (.int x), none] [] _ _ _
  have e : ∀ {Z : z_Gq}, (Z = z_mq G (fun v w' => w = w' ∧ ∃ p, p < N 8 0 ∧ x = nI p ∧ v = some (.ref (A 11 p 0))) (z_cx IOE (z_rg x (N 8 0)) w)) → ¬ z_rg x (N 8 0) → z_E G zX5_knownPuzzle 6 Z 23 [some (.ref (A 0 0 0)), some (.int x), none] [.null] w 1 6 := by
    intro Z hZ hn
    subst hZ
    refine z_astore2 (pc := 23) dX5_knownPuzzle_23 (by first | rfl | exact z_isr_rf _) ?_
    refine z_aload_n (pc := 24) dX5_knownPuzzle_24 rfl (by first | rfl | exact z_isr_rf _) ?_
    refine z_ifnonnull (pc := 25) (tgt := 38) dX5_knownPuzzle_25 (by decide) (by first | rfl | exact z_isr_rf _) (fun _ hn => by cases hn) (fun _ => ?_)
    refine z_throw (pc := 28) rfl rfl th218 sr223 (by omega) (Nat.le_of_ble_eq_true rfl) (by omega) (by omega) dX5_knownPuzzle_28 dX5_knownPuzzle_31 dX5_knownPuzzle_32 dX5_knownPuzzle_34 dX5_knownPuzzle_37 (⟨rfl, rfl, hn⟩)
  refine z_iload_n (pc := 0) dX5_knownPuzzle_0 rfl ?_
  refine z_if_lt (pc := 1) (tgt := 22) dX5_knownPuzzle_1 (by decide) (fun hc => ?_) (fun hc => ?_)
  · refine z_null (pc := 22) dX5_knownPuzzle_22 ?_
    exact e rfl (z_rg_lt (by omega) hc)
  · obtain ⟨p, hp3, rfl⟩ := nI_of hc
    refine z_iload_n (pc := 4) dX5_knownPuzzle_4 rfl ?_
    refine z_aload_n (pc := 5) dX5_knownPuzzle_5 rfl (by first | rfl | exact z_isr_rf _) ?_
    refine gfX5_23 (pc := 6) rfl dX5_knownPuzzle_6 (hC.k0) rfl ?_
    refine z_alen (pc := 9) dX5_knownPuzzle_9 (hC.k3) rfl rfl ?_
    refine z_icmp_ge (pc := 10) (tgt := 22) dX5_knownPuzzle_10 (by decide) (fun hd => ?_) (fun hd => ?_)
    · rw [nI_leI (by omega) hp3] at hd
      refine z_null (pc := 22) dX5_knownPuzzle_22 ?_
      exact e rfl (fun ⟨j, h1, h2⟩ => by have := nI_inj hp3 (by omega) h2; omega)
    · rw [nI_leI (by omega) hp3] at hd
      refine z_aload_n (pc := 13) dX5_knownPuzzle_13 rfl (by first | rfl | exact z_isr_rf _) ?_
      refine gfX5_23 (pc := 14) rfl dX5_knownPuzzle_14 (hC.k0) rfl ?_
      refine z_iload_n (pc := 17) dX5_knownPuzzle_17 rfl ?_
      refine z_aaldZ (pc := 18) dX5_knownPuzzle_18 (hC.k3) (vp_in_nI (by omega) (by omega)) ?_
      rw [nI_clamp hp3]
      by_cases hp : p < N 8 0
      · rw [if_pos hp]
        refine z_goto (pc := 19) (tgt := 23) dX5_knownPuzzle_19 (by decide) ?_
        refine z_astore2 (pc := 23) dX5_knownPuzzle_23 (by first | rfl | exact z_isr_rf _) ?_
        refine z_aload_n (pc := 24) dX5_knownPuzzle_24 rfl (by first | rfl | exact z_isr_rf _) ?_
        refine z_ifnonnull (pc := 25) (tgt := 38) dX5_knownPuzzle_25 (by decide) (by first | rfl | exact z_isr_rf _) (fun _ _ => ?_) (fun hn => by cases hn)
        refine z_aload_n (pc := 38) dX5_knownPuzzle_38 rfl (by first | rfl | exact z_isr_rf _) ?_
        refine z_aret (pc := 39) dX5_knownPuzzle_39 rfl (by first | rfl | exact z_isr_rf _) (⟨rfl, p, hp, rfl, rfl⟩)
      · rw [if_neg hp]
        refine z_goto (pc := 19) (tgt := 23) dX5_knownPuzzle_19 (by decide) ?_
        exact e rfl (fun ⟨j, h1, h2⟩ => by have := nI_inj hp3 (by omega) h2; omega)
theorem mX5_after (x y : Int32) : z_M G zX5_after 7 [.ref (A 0 0 0), .int x, .int y] w 2 12 (z_an (.int (nx x y)) (z_rg x 1000 ∧ z_rg y 4) w) (z_cx IAE (z_rg x 1000 ∧ z_rg y 4) w) := by
  refine z_M.of (by decide +kernel) rfl (by intro v hv; simp only [List.mem_cons, List.not_mem_nil, or_false] at hv; rcases hv with rfl | rfl | rfl <;> first | rfl | exact z_isr_cat (z_isr_rf _)) (Nat.le_of_ble_eq_true rfl) ?_
  show z_E _ zX5_after _ _ 0 [some (.ref (A 0 0 0)), some (.int x), some (.int y)] [] _ _ _
  refine z_iload_n (pc := 0) dX5_after_0 rfl ?_
  refine z_callS (pc := 1) (mX5_checkPosition G w x) dX5_after_1 cwX5_34 okX5_checkPosition rfl (by omega) rfl (Nat.le_of_ble_eq_true rfl) (by omega) (by omega) (fun E wN hN => z_Xout rfl (⟨hN.1, hN.2.1, fun h => hN.2.2 h.1⟩)) (fun v wN hN => ?_)
  obtain ⟨rfl, rfl, h1⟩ := hN
  refine z_iload_n (pc := 4) dX5_after_4 rfl ?_
  refine z_callS (pc := 5) (mX5_checkMove G w y) dX5_after_5 cwX5_38 okX5_checkMove rfl (by omega) rfl (Nat.le_of_ble_eq_true rfl) (by omega) (by omega) (fun E wN hN => z_Xout rfl (⟨hN.1, hN.2.1, fun h => hN.2.2 h.2⟩)) (fun v wN hN => ?_)
  obtain ⟨rfl, rfl, h2⟩ := hN
  refine z_iload_n (pc := 8) dX5_after_8 rfl ?_
  refine z_iload_n (pc := 9) dX5_after_9 rfl ?_
  refine z_callSp (pc := 10) (mX5_positionAfter G w x y) dX5_after_10 cwX5_41 okX5_positionAfter rfl (by omega) rfl (Nat.le_of_ble_eq_true rfl) ?_
  refine z_iret (pc := 13) dX5_after_13 rfl (⟨rfl, rfl, h1, h2⟩)
theorem mX5_worth (x : Int32) : z_M G zX5_worth 7 [.ref (A 0 0 0), .int x] w 2 12 (z_an (.int (wo x)) (z_rg x 1000) w) (z_cx IAE (z_rg x 1000) w) := by
  refine z_M.of (by decide +kernel) rfl (by intro v hv; simp only [List.mem_cons, List.not_mem_nil, or_false] at hv; rcases hv with rfl | rfl <;> first | rfl | exact z_isr_cat (z_isr_rf _)) (Nat.le_of_ble_eq_true rfl) ?_
  show z_E _ zX5_worth _ _ 0 [some (.ref (A 0 0 0)), some (.int x)] [] _ _ _
  refine z_iload_n (pc := 0) dX5_worth_0 rfl ?_
  refine z_callS (pc := 1) (mX5_checkPosition G w x) dX5_worth_1 cwX5_34 okX5_checkPosition rfl (by omega) rfl (Nat.le_of_ble_eq_true rfl) (by omega) (by omega) (fun E wN hN => z_Xout rfl (hN)) (fun v wN hN => ?_)
  obtain ⟨rfl, rfl, h1⟩ := hN
  refine z_iload_n (pc := 4) dX5_worth_4 rfl ?_
  refine z_callSp (pc := 5) (mX5_worthOf G w x) dX5_worth_5 cwX5_45 okX5_worthOf rfl (by omega) rfl (Nat.le_of_ble_eq_true rfl) ?_
  refine z_iret (pc := 8) dX5_worth_8 rfl (⟨rfl, rfl, h1⟩)
theorem mX5_best (x : Int32) : z_M G zX5_best 7 [.ref (A 0 0 0), .int x] w 2 12 (z_an (.int (bst x)) (z_rg x 1000) w) (z_cx IAE (z_rg x 1000) w) := by
  refine z_M.of (by decide +kernel) rfl (by intro v hv; simp only [List.mem_cons, List.not_mem_nil, or_false] at hv; rcases hv with rfl | rfl <;> first | rfl | exact z_isr_cat (z_isr_rf _)) (Nat.le_of_ble_eq_true rfl) ?_
  show z_E _ zX5_best _ _ 0 [some (.ref (A 0 0 0)), some (.int x)] [] _ _ _
  refine z_iload_n (pc := 0) dX5_best_0 rfl ?_
  refine z_callS (pc := 1) (mX5_checkPosition G w x) dX5_best_1 cwX5_34 okX5_checkPosition rfl (by omega) rfl (Nat.le_of_ble_eq_true rfl) (by omega) (by omega) (fun E wN hN => z_Xout rfl (hN)) (fun v wN hN => ?_)
  obtain ⟨rfl, rfl, h1⟩ := hN
  refine z_iload_n (pc := 4) dX5_best_4 rfl ?_
  refine z_callSp (pc := 5) (mX5_bestMove G w x) dX5_best_5 cwX5_49 okX5_bestMove rfl (by omega) rfl (Nat.le_of_ble_eq_true rfl) ?_
  refine z_iret (pc := 8) dX5_best_8 rfl (⟨rfl, rfl, h1⟩)
theorem mX5_position (hC : z_C G F A I N O B w) (hS : z_S N O B) : z_M G zX5_position 0 [.ref (A 0 0 0)] w 0 0 (z_rp (.int (match O 0 0 with | none => -1 | some g => I 6 g 0)) w) z_nx := by
  refine z_M.of (by decide +kernel) rfl (by intro v hv; simp only [List.mem_cons, List.not_mem_nil, or_false] at hv; rcases hv with rfl <;> first | rfl | exact z_isr_cat (z_isr_rf _)) (Nat.le_of_ble_eq_true rfl) ?_
  show z_E _ zX5_position _ _ 0 [some (.ref (A 0 0 0)), none] [] _ _ _
  have k0 := hC.k0
  have hO := hS.2.2.2.2.2.2.2.1
  cases hq : O 0 0 with
  | none =>
    rw [hq] at k0
    refine z_aload_n (pc := 0) dX5_position_0 rfl (by first | rfl | exact z_isr_rf _) ?_
    refine gfX5_74 (pc := 1) rfl dX5_position_1 (k0) rfl ?_
    refine z_astore1 (pc := 4) dX5_position_4 (by first | rfl | exact z_isr_rf _) ?_
    refine z_aload_n (pc := 5) dX5_position_5 rfl (by first | rfl | exact z_isr_rf _) ?_
    refine z_ifnonnull (pc := 6) (tgt := 13) dX5_position_6 (by decide) (by first | rfl | exact z_isr_rf _) (fun _ hn => by cases hn) (fun _ => ?_)
    refine z_iconst_m1 (pc := 9) dX5_position_9 ?_
    refine z_goto (pc := 10) (tgt := 17) dX5_position_10 (by decide) ?_
    refine z_iret (pc := 17) dX5_position_17 rfl (⟨rfl, rfl⟩)
  | some g =>
    rw [hq] at k0
    have hg : g < N 7 0 := by have := hO g hq; have := hS.2.1; omega
    refine z_aload_n (pc := 0) dX5_position_0 rfl (by first | rfl | exact z_isr_rf _) ?_
    refine gfX5_74 (pc := 1) rfl dX5_position_1 (k0) rfl ?_
    refine z_astore1 (pc := 4) dX5_position_4 (by first | rfl | exact z_isr_rf _) ?_
    refine z_aload_n (pc := 5) dX5_position_5 rfl (by first | rfl | exact z_isr_rf _) ?_
    refine z_ifnonnull (pc := 6) (tgt := 13) dX5_position_6 (by decide) (by first | rfl | exact z_isr_rf _) (fun _ _ => ?_) (fun hn => by cases hn)
    refine z_aload_n (pc := 13) dX5_position_13 rfl (by first | rfl | exact z_isr_rf _) ?_
    refine gfX5_96 (pc := 14) rfl dX5_position_14 (hC.k9 hg) rfl ?_
    refine z_iret (pc := 17) dX5_position_17 rfl (⟨rfl, rfl⟩)
theorem mX5_games (hC : z_C G F A I N O B w) : z_M G zX5_games 0 [.ref (A 0 0 0)] w 0 0 (z_rp (.int (match O 0 0 with | none => nI (N 1 0) | some _ => nI (N 1 0) - 1)) w) z_nx := by
  refine z_M.of (by decide +kernel) rfl (by intro v hv; simp only [List.mem_cons, List.not_mem_nil, or_false] at hv; rcases hv with rfl <;> first | rfl | exact z_isr_cat (z_isr_rf _)) (Nat.le_of_ble_eq_true rfl) ?_
  show z_E _ zX5_games _ _ 0 [some (.ref (A 0 0 0))] [] _ _ _
  have k0 := hC.k0
  cases hq : O 0 0 with
  | none =>
    rw [hq] at k0
    refine z_aload_n (pc := 0) dX5_games_0 rfl (by first | rfl | exact z_isr_rf _) ?_
    refine gfX5_74 (pc := 1) rfl dX5_games_1 (k0) rfl ?_
    refine z_ifnonnull (pc := 4) (tgt := 14) dX5_games_4 (by decide) (by first | rfl | exact z_isr_rf _) (fun _ hn => by cases hn) (fun _ => ?_)
    refine z_aload_n (pc := 7) dX5_games_7 rfl (by first | rfl | exact z_isr_rf _) ?_
    refine gfX5_80 (pc := 8) rfl dX5_games_8 (k0) rfl ?_
    refine z_goto (pc := 11) (tgt := 20) dX5_games_11 (by decide) ?_
    refine z_iret (pc := 20) dX5_games_20 rfl (⟨rfl, rfl⟩)
  | some g =>
    rw [hq] at k0
    refine z_aload_n (pc := 0) dX5_games_0 rfl (by first | rfl | exact z_isr_rf _) ?_
    refine gfX5_74 (pc := 1) rfl dX5_games_1 (k0) rfl ?_
    refine z_ifnonnull (pc := 4) (tgt := 14) dX5_games_4 (by decide) (by first | rfl | exact z_isr_rf _) (fun _ _ => ?_) (fun hn => by cases hn)
    refine z_aload_n (pc := 14) dX5_games_14 rfl (by first | rfl | exact z_isr_rf _) ?_
    refine gfX5_80 (pc := 15) rfl dX5_games_15 (k0) rfl ?_
    refine z_iconst_1 (pc := 18) dX5_games_18 ?_
    refine z_isub (pc := 19) dX5_games_19 ?_
    refine z_iret (pc := 20) dX5_games_20 rfl (⟨rfl, rfl⟩)
theorem mX5_score (hC : z_C G F A I N O B w) (hS : z_S N O B) (x : Int32) : z_M G zX5_score 7 [.ref (A 0 0 0), .int x] w 1 6 (fun v w' => w = w' ∧ ∃ p, p < N 6 0 ∧ x = nI p ∧ v = some (.int (I 2 p 0))) (z_cx IOE (z_rg x (N 6 0)) w) := by
  refine z_M.of (by decide +kernel) rfl (by intro v hv; simp only [List.mem_cons, List.not_mem_nil, or_false] at hv; rcases hv with rfl | rfl <;> first | rfl | exact z_isr_cat (z_isr_rf _)) (Nat.le_of_ble_eq_true rfl) ?_
  show z_E _ zX5_score _ _ 0 [some (.ref (A 0 0 0)), some (.int x)] [] _ _ _
  refine z_aload_n (pc := 0) dX5_score_0 rfl (by first | rfl | exact z_isr_rf _) ?_
  refine z_iload_n (pc := 1) dX5_score_1 rfl ?_
  refine z_callV (pc := 2) (mX5_knownPlayer hC hS x) dX5_score_2 cwX5_65 okX5_knownPlayer rfl (hC.k0) rfl rfl (by omega) rfl (Nat.le_of_ble_eq_true rfl) (by omega) (by omega) (fun E wN hN => z_Xout rfl (hN)) (fun v wN hN => ?_)
  obtain ⟨rfl, p, hp, rfl, rfl⟩ := hN
  refine gfX5_133 (pc := 5) rfl dX5_score_5 (hC.k5 hp) rfl ?_
  refine z_iret (pc := 8) dX5_score_8 rfl (⟨rfl, p, hp, rfl, rfl⟩)
theorem mX5_puzzles (hC : z_C G F A I N O B w) : z_M G zX5_puzzles 0 [.ref (A 0 0 0)] w 0 0 (z_rp (.int (nI (N 2 0))) w) z_nx := by
  refine z_M.of (by decide +kernel) rfl (by intro v hv; simp only [List.mem_cons, List.not_mem_nil, or_false] at hv; rcases hv with rfl <;> first | rfl | exact z_isr_cat (z_isr_rf _)) (Nat.le_of_ble_eq_true rfl) ?_
  show z_E _ zX5_puzzles _ _ 0 [some (.ref (A 0 0 0))] [] _ _ _
  refine z_aload_n (pc := 0) dX5_puzzles_0 rfl (by first | rfl | exact z_isr_rf _) ?_
  refine gfX5_136 (pc := 1) rfl dX5_puzzles_1 (hC.k0) rfl ?_
  refine z_iret (pc := 4) dX5_puzzles_4 rfl (⟨rfl, rfl⟩)
theorem mX5_puzzle (hC : z_C G F A I N O B w) (hS : z_S N O B) (x : Int32) : z_M G zX5_puzzle 7 [.ref (A 0 0 0), .int x] w 1 6 (fun v w' => w = w' ∧ ∃ p, p < N 8 0 ∧ x = nI p ∧ v = some (.int (I 9 p 0))) (z_cx IOE (z_rg x (N 8 0)) w) := by
  refine z_M.of (by decide +kernel) rfl (by intro v hv; simp only [List.mem_cons, List.not_mem_nil, or_false] at hv; rcases hv with rfl | rfl <;> first | rfl | exact z_isr_cat (z_isr_rf _)) (Nat.le_of_ble_eq_true rfl) ?_
  show z_E _ zX5_puzzle _ _ 0 [some (.ref (A 0 0 0)), some (.int x)] [] _ _ _
  refine z_aload_n (pc := 0) dX5_puzzle_0 rfl (by first | rfl | exact z_isr_rf _) ?_
  refine z_iload_n (pc := 1) dX5_puzzle_1 rfl ?_
  refine z_callV (pc := 2) (mX5_knownPuzzle hC hS x) dX5_puzzle_2 cwX5_139 okX5_knownPuzzle rfl (hC.k0) rfl rfl (by omega) rfl (Nat.le_of_ble_eq_true rfl) (by omega) (by omega) (fun E wN hN => z_Xout rfl (hN)) (fun v wN hN => ?_)
  obtain ⟨rfl, p, hp, rfl, rfl⟩ := hN
  refine gfX5_143 (pc := 5) rfl dX5_puzzle_5 (hC.k11 hp) rfl ?_
  refine z_iret (pc := 8) dX5_puzzle_8 rfl (⟨rfl, p, hp, rfl, rfl⟩)
theorem mX5_source (hC : z_C G F A I N O B w) (hS : z_S N O B) (x : Int32) : z_M G zX5_source 7 [.ref (A 0 0 0), .int x] w 1 6 (fun v w' => w = w' ∧ ∃ p, p < N 8 0 ∧ x = nI p ∧ v = some (.int (I 10 p 0))) (z_cx IOE (z_rg x (N 8 0)) w) := by
  refine z_M.of (by decide +kernel) rfl (by intro v hv; simp only [List.mem_cons, List.not_mem_nil, or_false] at hv; rcases hv with rfl | rfl <;> first | rfl | exact z_isr_cat (z_isr_rf _)) (Nat.le_of_ble_eq_true rfl) ?_
  show z_E _ zX5_source _ _ 0 [some (.ref (A 0 0 0)), some (.int x)] [] _ _ _
  refine z_aload_n (pc := 0) dX5_source_0 rfl (by first | rfl | exact z_isr_rf _) ?_
  refine z_iload_n (pc := 1) dX5_source_1 rfl ?_
  refine z_callV (pc := 2) (mX5_knownPuzzle hC hS x) dX5_source_2 cwX5_139 okX5_knownPuzzle rfl (hC.k0) rfl rfl (by omega) rfl (Nat.le_of_ble_eq_true rfl) (by omega) (by omega) (fun E wN hN => z_Xout rfl (hN)) (fun v wN hN => ?_)
  obtain ⟨rfl, p, hp, rfl, rfl⟩ := hN
  refine gfX5_146 (pc := 5) rfl dX5_source_5 (hC.k11 hp) rfl ?_
  refine z_iret (pc := 8) dX5_source_8 rfl (⟨rfl, p, hp, rfl, rfl⟩)
theorem mX5_rating (hC : z_C G F A I N O B w) (hS : z_S N O B) (x y : Int32) : z_M G zX5_rating 7 [.ref (A 0 0 0), .int x, .int y] w 2 12 (fun v w' => w = w' ∧ ∃ p t, p < N 6 0 ∧ x = nI p ∧ t < 5 ∧ y = nI t ∧ v = some (.int (I 3 p t))) (z_cx2 IOE (z_rg x (N 6 0)) IAE (z_rg y 5) w) := by
  refine z_M.of (by decide +kernel) rfl (by intro v hv; simp only [List.mem_cons, List.not_mem_nil, or_false] at hv; rcases hv with rfl | rfl | rfl <;> first | rfl | exact z_isr_cat (z_isr_rf _)) (Nat.le_of_ble_eq_true rfl) ?_
  show z_E _ zX5_rating _ _ 0 [some (.ref (A 0 0 0)), some (.int x), some (.int y), none] [] _ _ _
  refine z_aload_n (pc := 0) dX5_rating_0 rfl (by first | rfl | exact z_isr_rf _) ?_
  refine z_iload_n (pc := 1) dX5_rating_1 rfl ?_
  refine z_callV (pc := 2) (mX5_knownPlayer hC hS x) dX5_rating_2 cwX5_65 okX5_knownPlayer rfl (hC.k0) rfl rfl (by omega) rfl (Nat.le_of_ble_eq_true rfl) (by omega) (by omega) (fun E wN hN => z_Xout rfl (⟨hN.2.1, Or.inl ⟨hN.1, hN.2.2⟩⟩)) (fun v wN hN => ?_)
  obtain ⟨rfl, p, hp, rfl, rfl⟩ := hN
  have hr : z_rg (nI p) (N 6 0) := ⟨p, hp, rfl⟩
  refine z_astore3 (pc := 5) dX5_rating_5 (by first | rfl | exact z_isr_rf _) ?_
  refine z_iload_n (pc := 6) dX5_rating_6 rfl ?_
  refine z_if_lt (pc := 7) (tgt := 15) dX5_rating_7 (by decide) (fun hc => ?_) (fun hc => ?_)
  · refine z_throw (pc := 15) rfl rfl th69 sr168 (by omega) (Nat.le_of_ble_eq_true rfl) (by omega) (by omega) dX5_rating_15 dX5_rating_18 dX5_rating_19 dX5_rating_21 dX5_rating_24 (⟨rfl, Or.inr ⟨rfl, hr, z_rg_lt (by decide) hc⟩⟩)
  · refine z_iload_n (pc := 10) dX5_rating_10 rfl ?_
    refine z_iconst_5 (pc := 11) dX5_rating_11 ?_
    refine z_icmp_lt (pc := 12) (tgt := 25) dX5_rating_12 (by decide) (fun hd => ?_) (fun hd => ?_)
    · obtain ⟨t, ht, rfl⟩ := z_rg_in' (n := 5) (by decide) hc hd
      refine z_aload_n (pc := 25) dX5_rating_25 rfl (by first | rfl | exact z_isr_rf _) ?_
      refine z_iload_n (pc := 26) dX5_rating_26 rfl ?_
      refine z_callVp (pc := 27) (mX3_ratingIn hC hp ht) dX5_rating_27 cwX5_170 okX3_ratingIn rfl (hC.k5 hp) rfl rfl (by omega) rfl (Nat.le_of_ble_eq_true rfl) ?_
      refine z_iret (pc := 30) dX5_rating_30 rfl (⟨rfl, p, t, hp, rfl, ht, rfl, rfl⟩)
    · refine z_throw (pc := 15) rfl rfl th69 sr168 (by omega) (Nat.le_of_ble_eq_true rfl) (by omega) (by omega) dX5_rating_15 dX5_rating_18 dX5_rating_19 dX5_rating_21 dX5_rating_24 (⟨rfl, Or.inr ⟨rfl, hr, z_rg_ge (by decide) (Int32.not_lt.mp hd)⟩⟩)
theorem mX5_results (hC : z_C G F A I N O B w) (hS : z_S N O B) (x y : Int32) : z_M G zX5_results 7 [.ref (A 0 0 0), .int x, .int y] w 1 6 (fun v w' => w = w' ∧ ∃ l n : Nat, 1 ≤ n ∧ n ≤ 6 ∧ l < 4 ^ n ∧ x = nI l ∧ y = nI n ∧ v = some (.int (if B n l then I 11 n l else 0))) (z_cx IAE (z_ln x y) w) := by
  refine z_M.of (by decide +kernel) rfl (by intro v hv; simp only [List.mem_cons, List.not_mem_nil, or_false] at hv; rcases hv with rfl | rfl | rfl <;> first | rfl | exact z_isr_cat (z_isr_rf _)) (Nat.le_of_ble_eq_true rfl) ?_
  show z_E _ zX5_results _ _ 0 [some (.ref (A 0 0 0)), some (.int x), some (.int y), none] [] _ _ _
  refine z_iload_n (pc := 0) dX5_results_0 rfl ?_
  refine z_iload_n (pc := 1) dX5_results_1 rfl ?_
  refine z_callS (pc := 2) (mX5_checkLine G w x y) dX5_results_2 cwX5_173 okX5_checkLine rfl (by omega) rfl (Nat.le_of_ble_eq_true rfl) (by omega) (by omega) (fun E wN hN => z_Xout rfl (hN)) (fun v wN hN => ?_)
  obtain ⟨rfl, rfl, l, n, h1, h6, hl, rfl, rfl⟩ := hN
  refine z_aload_n (pc := 5) dX5_results_5 rfl (by first | rfl | exact z_isr_rf _) ?_
  refine gfX5_30 (pc := 6) rfl dX5_results_6 (hC.k0) rfl ?_
  refine z_iload_n (pc := 9) dX5_results_9 rfl ?_
  refine z_iload_n (pc := 10) dX5_results_10 rfl ?_
  refine z_callVp (pc := 11) (mX0_find hC hS hl (Nat.lt_trans hl (z_p4 n (by omega))) h6) dX5_results_11 cwX5_177 okX0_find rfl (hC.k4) rfl rfl (by omega) rfl (Nat.le_of_ble_eq_true rfl) ?_
  by_cases hB : B n l = true
  · rw [if_pos hB]
    refine z_astore3 (pc := 14) dX5_results_14 (by first | rfl | exact z_isr_rf _) ?_
    refine z_aload_n (pc := 15) dX5_results_15 rfl (by first | rfl | exact z_isr_rf _) ?_
    refine z_ifnonnull (pc := 16) (tgt := 23) dX5_results_16 (by decide) (by first | rfl | exact z_isr_rf _) (fun _ _ => ?_) (fun hn => by cases hn)
    refine z_aload_n (pc := 23) dX5_results_23 rfl (by first | rfl | exact z_isr_rf _) ?_
    refine gfX5_181 (pc := 24) rfl dX5_results_24 (hC.k12 hB) rfl ?_
    refine z_iret (pc := 27) dX5_results_27 rfl (⟨rfl, l, n, h1, h6, hl, rfl, rfl, by rw [if_pos hB]⟩)
  · rw [if_neg hB]
    refine z_astore3 (pc := 14) dX5_results_14 (by first | rfl | exact z_isr_rf _) ?_
    refine z_aload_n (pc := 15) dX5_results_15 rfl (by first | rfl | exact z_isr_rf _) ?_
    refine z_ifnonnull (pc := 16) (tgt := 23) dX5_results_16 (by decide) (by first | rfl | exact z_isr_rf _) (fun _ hn => by cases hn) (fun _ => ?_)
    refine z_iconst_0 (pc := 19) dX5_results_19 ?_
    refine z_goto (pc := 20) (tgt := 27) dX5_results_20 (by decide) ?_
    refine z_iret (pc := 27) dX5_results_27 rfl (⟨rfl, l, n, h1, h6, hl, rfl, rfl, by rw [if_neg hB]⟩)
theorem mX5_points (hC : z_C G F A I N O B w) (hS : z_S N O B) (x y : Int32) : z_M G zX5_points 7 [.ref (A 0 0 0), .int x, .int y] w 1 6 (fun v w' => w = w' ∧ ∃ l n : Nat, 1 ≤ n ∧ n ≤ 6 ∧ l < 4 ^ n ∧ x = nI l ∧ y = nI n ∧ v = some (.int (if B n l then I 12 n l else 0))) (z_cx IAE (z_ln x y) w) := by
  refine z_M.of (by decide +kernel) rfl (by intro v hv; simp only [List.mem_cons, List.not_mem_nil, or_false] at hv; rcases hv with rfl | rfl | rfl <;> first | rfl | exact z_isr_cat (z_isr_rf _)) (Nat.le_of_ble_eq_true rfl) ?_
  show z_E _ zX5_points _ _ 0 [some (.ref (A 0 0 0)), some (.int x), some (.int y), none] [] _ _ _
  refine z_iload_n (pc := 0) dX5_points_0 rfl ?_
  refine z_iload_n (pc := 1) dX5_points_1 rfl ?_
  refine z_callS (pc := 2) (mX5_checkLine G w x y) dX5_points_2 cwX5_173 okX5_checkLine rfl (by omega) rfl (Nat.le_of_ble_eq_true rfl) (by omega) (by omega) (fun E wN hN => z_Xout rfl (hN)) (fun v wN hN => ?_)
  obtain ⟨rfl, rfl, l, n, h1, h6, hl, rfl, rfl⟩ := hN
  refine z_aload_n (pc := 5) dX5_points_5 rfl (by first | rfl | exact z_isr_rf _) ?_
  refine gfX5_30 (pc := 6) rfl dX5_points_6 (hC.k0) rfl ?_
  refine z_iload_n (pc := 9) dX5_points_9 rfl ?_
  refine z_iload_n (pc := 10) dX5_points_10 rfl ?_
  refine z_callVp (pc := 11) (mX0_find hC hS hl (Nat.lt_trans hl (z_p4 n (by omega))) h6) dX5_points_11 cwX5_177 okX0_find rfl (hC.k4) rfl rfl (by omega) rfl (Nat.le_of_ble_eq_true rfl) ?_
  by_cases hB : B n l = true
  · rw [if_pos hB]
    refine z_astore3 (pc := 14) dX5_points_14 (by first | rfl | exact z_isr_rf _) ?_
    refine z_aload_n (pc := 15) dX5_points_15 rfl (by first | rfl | exact z_isr_rf _) ?_
    refine z_ifnonnull (pc := 16) (tgt := 23) dX5_points_16 (by decide) (by first | rfl | exact z_isr_rf _) (fun _ _ => ?_) (fun hn => by cases hn)
    refine z_aload_n (pc := 23) dX5_points_23 rfl (by first | rfl | exact z_isr_rf _) ?_
    refine gfX5_186 (pc := 24) rfl dX5_points_24 (hC.k12 hB) rfl ?_
    refine z_iret (pc := 27) dX5_points_27 rfl (⟨rfl, l, n, h1, h6, hl, rfl, rfl, by rw [if_pos hB]⟩)
  · rw [if_neg hB]
    refine z_astore3 (pc := 14) dX5_points_14 (by first | rfl | exact z_isr_rf _) ?_
    refine z_aload_n (pc := 15) dX5_points_15 rfl (by first | rfl | exact z_isr_rf _) ?_
    refine z_ifnonnull (pc := 16) (tgt := 23) dX5_points_16 (by decide) (by first | rfl | exact z_isr_rf _) (fun _ hn => by cases hn) (fun _ => ?_)
    refine z_iconst_0 (pc := 19) dX5_points_19 ?_
    refine z_goto (pc := 20) (tgt := 27) dX5_points_20 (by decide) ?_
    refine z_iret (pc := 27) dX5_points_27 rfl (⟨rfl, l, n, h1, h6, hl, rfl, rfl, by rw [if_neg hB]⟩)
theorem mX5_isDropped (hC : z_C G F A I N O B w) (hS : z_S N O B) (x y : Int32) : z_M G zX5_isDropped 7 [.ref (A 0 0 0), .int x, .int y] w 1 6 (fun v w' => w = w' ∧ ∃ l n : Nat, 1 ≤ n ∧ n ≤ 6 ∧ l < 4 ^ n ∧ x = nI l ∧ y = nI n ∧ v = some (.int (if z_hd I B l n then 1 else 0))) (z_cx IAE (z_ln x y) w) := by
  refine z_M.of (by decide +kernel) rfl (by intro v hv; simp only [List.mem_cons, List.not_mem_nil, or_false] at hv; rcases hv with rfl | rfl | rfl <;> first | rfl | exact z_isr_cat (z_isr_rf _)) (Nat.le_of_ble_eq_true rfl) ?_
  show z_E _ zX5_isDropped _ _ 0 [some (.ref (A 0 0 0)), some (.int x), some (.int y)] [] _ _ _
  refine z_iload_n (pc := 0) dX5_isDropped_0 rfl ?_
  refine z_iload_n (pc := 1) dX5_isDropped_1 rfl ?_
  refine z_callS (pc := 2) (mX5_checkLine G w x y) dX5_isDropped_2 cwX5_173 okX5_checkLine rfl (by omega) rfl (Nat.le_of_ble_eq_true rfl) (by omega) (by omega) (fun E wN hN => z_Xout rfl (hN)) (fun v wN hN => ?_)
  obtain ⟨rfl, rfl, l, n, h1, h6, hl, rfl, rfl⟩ := hN
  refine z_aload_n (pc := 5) dX5_isDropped_5 rfl (by first | rfl | exact z_isr_rf _) ?_
  refine gfX5_30 (pc := 6) rfl dX5_isDropped_6 (hC.k0) rfl ?_
  refine z_iload_n (pc := 9) dX5_isDropped_9 rfl ?_
  refine z_iload_n (pc := 10) dX5_isDropped_10 rfl ?_
  refine z_callVp (pc := 11) (mX0_holdsDropped hC hS (l := l) (Nat.lt_trans hl (z_p4 n (by omega))) h6) dX5_isDropped_11 cwX5_189 okX0_holdsDropped rfl (hC.k4) rfl rfl (by omega) rfl (Nat.le_of_ble_eq_true rfl) ?_
  refine z_zret (pc := 14) dX5_isDropped_14 rfl (z_10 _ ) ( ⟨rfl, l, n, h1, h6, hl, rfl, rfl, rfl⟩)
theorem mX5_mean (hC : z_C G F A I N O B w) (hS : z_S N O B) (x y : Int32) (hfl : ∀ n l, B n l = true → I 11 n l ≠ 0 → vf_n32 (FP.fdiv (FP.i2f (I 12 n l)) (FP.i2f (I 11 n l)))) : z_M G zX5_mean 7 [.ref (A 0 0 0), .int x, .int y] w 1 6 (fun v w' => w = w' ∧ ∃ l n : Nat, 1 ≤ n ∧ n ≤ 6 ∧ l < 4 ^ n ∧ x = nI l ∧ y = nI n ∧ v = some (.float (if B n l = true ∧ I 11 n l ≠ 0 then FP.fdiv (FP.i2f (I 12 n l)) (FP.i2f (I 11 n l)) else FP.fconst0))) (z_cx IAE (z_ln x y) w) := by
  refine z_M.of (by decide +kernel) rfl (by intro v hv; simp only [List.mem_cons, List.not_mem_nil, or_false] at hv; rcases hv with rfl | rfl | rfl <;> first | rfl | exact z_isr_cat (z_isr_rf _)) (Nat.le_of_ble_eq_true rfl) ?_
  show z_E _ zX5_mean _ _ 0 [some (.ref (A 0 0 0)), some (.int x), some (.int y), none] [] _ _ _
  refine z_iload_n (pc := 0) dX5_mean_0 rfl ?_
  refine z_iload_n (pc := 1) dX5_mean_1 rfl ?_
  refine z_callS (pc := 2) (mX5_checkLine G w x y) dX5_mean_2 cwX5_173 okX5_checkLine rfl (by omega) rfl (Nat.le_of_ble_eq_true rfl) (by omega) (by omega) (fun E wN hN => z_Xout rfl (hN)) (fun v wN hN => ?_)
  obtain ⟨rfl, rfl, l, n, h1, h6, hl, rfl, rfl⟩ := hN
  refine z_aload_n (pc := 5) dX5_mean_5 rfl (by first | rfl | exact z_isr_rf _) ?_
  refine gfX5_30 (pc := 6) rfl dX5_mean_6 (hC.k0) rfl ?_
  refine z_iload_n (pc := 9) dX5_mean_9 rfl ?_
  refine z_iload_n (pc := 10) dX5_mean_10 rfl ?_
  refine z_callVp (pc := 11) (mX0_find hC hS hl (Nat.lt_trans hl (z_p4 n (by omega))) h6) dX5_mean_11 cwX5_177 okX0_find rfl (hC.k4) rfl rfl (by omega) rfl (Nat.le_of_ble_eq_true rfl) ?_
  by_cases hB : B n l = true
  · rw [if_pos hB]
    refine z_astore3 (pc := 14) dX5_mean_14 (by first | rfl | exact z_isr_rf _) ?_
    refine z_aload_n (pc := 15) dX5_mean_15 rfl (by first | rfl | exact z_isr_rf _) ?_
    refine z_ifnull (pc := 16) (tgt := 26) dX5_mean_16 (by decide) (by first | rfl | exact z_isr_rf _) (fun hn => by cases hn) (fun _ _ => ?_)
    refine z_aload_n (pc := 19) dX5_mean_19 rfl (by first | rfl | exact z_isr_rf _) ?_
    refine gfX5_181 (pc := 20) rfl dX5_mean_20 (hC.k12 hB) rfl ?_
    refine z_if_ne (pc := 23) (tgt := 28) dX5_mean_23 (by decide) (fun hc => ?_) (fun hc => ?_)
    · refine z_aload_n (pc := 28) dX5_mean_28 rfl (by first | rfl | exact z_isr_rf _) ?_
      refine gfX5_186 (pc := 29) rfl dX5_mean_29 (hC.k12 hB) rfl ?_
      refine z_i2f (pc := 32) dX5_mean_32 ?_
      refine z_aload_n (pc := 33) dX5_mean_33 rfl (by first | rfl | exact z_isr_rf _) ?_
      refine gfX5_181 (pc := 34) rfl dX5_mean_34 (hC.k12 hB) rfl ?_
      refine z_i2f (pc := 37) dX5_mean_37 ?_
      refine z_fdiv (pc := 38) dX5_mean_38 (hfl n l hB hc) ?_
      refine z_fret (pc := 39) dX5_mean_39 rfl (⟨rfl, l, n, h1, h6, hl, rfl, rfl, by rw [if_pos ⟨hB, hc⟩]⟩)
    · refine z_fconst0 (pc := 26) dX5_mean_26 ?_
      refine z_fret (pc := 27) dX5_mean_27 rfl (⟨rfl, l, n, h1, h6, hl, rfl, rfl, by rw [if_neg (fun q => q.2 hc)]⟩)
  · rw [if_neg hB]
    refine z_astore3 (pc := 14) dX5_mean_14 (by first | rfl | exact z_isr_rf _) ?_
    refine z_aload_n (pc := 15) dX5_mean_15 rfl (by first | rfl | exact z_isr_rf _) ?_
    refine z_ifnull (pc := 16) (tgt := 26) dX5_mean_16 (by decide) (by first | rfl | exact z_isr_rf _) (fun _ => ?_) (fun _ hn => by cases hn)
    refine z_fconst0 (pc := 26) dX5_mean_26 ?_
    refine z_fret (pc := 27) dX5_mean_27 rfl (⟨rfl, l, n, h1, h6, hl, rfl, rfl, by rw [if_neg (fun q => hB q.1)]⟩)
end ASK

