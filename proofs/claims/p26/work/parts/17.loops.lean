/-! loops over puzzles and games -/
section LP
variable {G : z_G} {F : Nat → Prop} {A : Nat → Nat → Nat → Nat} {I : z_TI} {N : z_TN} {O : z_TO} {B : z_TB} {w : z_W}
theorem iX5_hasPuzzleFor {QX} (hC : z_C G F A I N O B w) {x : Int32} [Decidable (∃ z, z < N 8 0 ∧ I 9 z 0 = x)] (h40 : N 8 0 ≤ 40) : ∀ m i : Nat, 40 - i = m → i ≤ 40 → (∀ z, z < i → z < N 8 0 → I 9 z 0 ≠ x) → ∀ x5, z_E G zX5_hasPuzzleFor 0 (z_mq G (z_rp (.int (if ∃ z, z < N 8 0 ∧ I 9 z 0 = x then 1 else 0)) w) QX) 11 [some (.ref (A 0 0 0)), some (.int x), some (.ref (A 3 0 0)), some (.int (nI 40)), some (.int (nI i)), x5] [] w 0 0 := by
  intro m
  induction m with
  | zero =>
    intro i hm hi hh x5
    have : i = 40 := by omega
    subst this
    refine z_iload (pc := 11) dX5_hasPuzzleFor_11 rfl ?_
    refine z_iload_n (pc := 13) dX5_hasPuzzleFor_13 rfl ?_
    refine z_icmp_ge (pc := 14) (tgt := 45) dX5_hasPuzzleFor_14 (by decide) (fun _ => ?_) (fun hn => absurd (nI_le (Nat.le_refl _) (by omega)) hn)
    refine z_iconst_0 (pc := 45) dX5_hasPuzzleFor_45 ?_
    refine z_zret (pc := 46) dX5_hasPuzzleFor_46 rfl (Or.inl rfl ) ( ⟨by rw [if_neg]; rintro ⟨z, h1, h2⟩; exact hh z (by omega) h1 h2, rfl⟩)
  | succ m ih =>
    intro i hm hi hh x5
    have hin : i < 40 := by omega
    have hi3 : i < 2 ^ 31 := by omega
    refine z_iload (pc := 11) dX5_hasPuzzleFor_11 rfl ?_
    refine z_iload_n (pc := 13) dX5_hasPuzzleFor_13 rfl ?_
    refine z_icmp_ge (pc := 14) (tgt := 45) dX5_hasPuzzleFor_14 (by decide) (fun hn => absurd hn (nI_ge hin (by omega))) (fun _ => ?_)
    refine z_aload_n (pc := 17) dX5_hasPuzzleFor_17 rfl (by first | rfl | exact z_isr_rf _) ?_
    refine z_iload (pc := 18) dX5_hasPuzzleFor_18 rfl ?_
    refine z_aaldZ (pc := 20) dX5_hasPuzzleFor_20 (hC.k3) (vp_in_nI hin (by omega)) ?_
    rw [nI_clamp hi3]
    by_cases hz : i < N 8 0
    · rw [if_pos hz]
      refine z_astore5 (pc := 21) dX5_hasPuzzleFor_21 (by first | rfl | exact z_isr_rf _) ?_
      refine z_aload (pc := 23) dX5_hasPuzzleFor_23 rfl (by first | rfl | exact z_isr_rf _) ?_
      refine z_ifnull (pc := 25) (tgt := 39) dX5_hasPuzzleFor_25 (by decide) (by first | rfl | exact z_isr_rf _) (fun hn => by cases hn) (fun _ _ => ?_)
      refine z_aload (pc := 28) dX5_hasPuzzleFor_28 rfl (by first | rfl | exact z_isr_rf _) ?_
      refine gfX5_143 (pc := 30) rfl dX5_hasPuzzleFor_30 (hC.k11 hz) rfl ?_
      refine z_iload_n (pc := 33) dX5_hasPuzzleFor_33 rfl ?_
      refine z_icmp_ne (pc := 34) (tgt := 39) dX5_hasPuzzleFor_34 (by decide) (fun hc => ?_) (fun hc => ?_)
      · refine z_iinc4 (pc := 39) dX5_hasPuzzleFor_39 ?_
        refine z_goto (pc := 42) (tgt := 11) dX5_hasPuzzleFor_42 (by decide) ?_
        rw [nI_1]
        exact ih (i + 1) (by omega) (by omega) (fun z h1 h2 => by
          rcases Nat.lt_succ_iff_lt_or_eq.mp h1 with q | q
          · exact hh z q h2
          · rw [q]; exact hc) _
      · refine z_iconst_1 (pc := 37) dX5_hasPuzzleFor_37 ?_
        refine z_zret (pc := 38) dX5_hasPuzzleFor_38 rfl (Or.inr rfl ) ( ⟨by rw [if_pos ⟨i, hz, hc⟩], rfl⟩)
    · rw [if_neg hz]
      refine z_astore5 (pc := 21) dX5_hasPuzzleFor_21 (by first | rfl | exact z_isr_rf _) ?_
      refine z_aload (pc := 23) dX5_hasPuzzleFor_23 rfl (by first | rfl | exact z_isr_rf _) ?_
      refine z_ifnull (pc := 25) (tgt := 39) dX5_hasPuzzleFor_25 (by decide) (by first | rfl | exact z_isr_rf _) (fun _ => ?_) (fun _ hn => by cases hn)
      refine z_iinc4 (pc := 39) dX5_hasPuzzleFor_39 ?_
      refine z_goto (pc := 42) (tgt := 11) dX5_hasPuzzleFor_42 (by decide) ?_
      rw [nI_1]
      exact ih (i + 1) (by omega) (by omega) (fun z h1 h2 => by
        rcases Nat.lt_succ_iff_lt_or_eq.mp h1 with q | q
        · exact hh z q h2
        · rw [q] at h2; exact absurd h2 hz) _
theorem mX5_hasPuzzleFor (hC : z_C G F A I N O B w) {x : Int32} [Decidable (∃ z, z < N 8 0 ∧ I 9 z 0 = x)] (h40 : N 8 0 ≤ 40) : z_M G zX5_hasPuzzleFor 0 [.ref (A 0 0 0), .int x] w 0 0 (z_rp (.int (if ∃ z, z < N 8 0 ∧ I 9 z 0 = x then 1 else 0)) w) z_nx := by
  refine z_M.of (by decide +kernel) rfl (by intro v hv; simp only [List.mem_cons, List.not_mem_nil, or_false] at hv; rcases hv with rfl | rfl <;> first | rfl | exact z_isr_cat (z_isr_rf _)) (Nat.le_of_ble_eq_true rfl) ?_
  show z_E _ zX5_hasPuzzleFor _ _ 0 [some (.ref (A 0 0 0)), some (.int x), none, none, none, none] [] _ _ _
  refine z_aload_n (pc := 0) dX5_hasPuzzleFor_0 rfl (by first | rfl | exact z_isr_rf _) ?_
  refine gfX5_23 (pc := 1) rfl dX5_hasPuzzleFor_1 (hC.k0) rfl ?_
  refine z_astore2 (pc := 4) dX5_hasPuzzleFor_4 (by first | rfl | exact z_isr_rf _) ?_
  refine z_aload_n (pc := 5) dX5_hasPuzzleFor_5 rfl (by first | rfl | exact z_isr_rf _) ?_
  refine z_alen (pc := 6) dX5_hasPuzzleFor_6 (hC.k3) rfl rfl ?_
  refine z_istore3 (pc := 7) dX5_hasPuzzleFor_7 ?_
  refine z_iconst_0 (pc := 8) dX5_hasPuzzleFor_8 ?_
  refine z_istore4 (pc := 9) dX5_hasPuzzleFor_9 ?_
  exact iX5_hasPuzzleFor hC h40 _ 0 rfl (by omega) (fun _ h => absurd h (Nat.not_lt_zero _)) _
/-- the theme of a puzzle -/
def z_th (I : z_TI) (z : Nat) : Nat := (I 9 z 0).toNatClampNeg % 5
/-- the puzzle offered among the first k -/
def z_of (I : z_TI) (p nz : Nat) : Nat → Option Nat
  | 0 => none
  | k + 1 => if k < nz ∧ I 4 p k = 0 ∧ (∀ f, z_of I p nz k = some f → I 3 p (z_th I k) < I 3 p (z_th I f) ∨ (I 3 p (z_th I k) = I 3 p (z_th I f) ∧ z_th I k < z_th I f)) then some k else z_of I p nz k
theorem z_of_lt {p nz : Nat} : ∀ {k f : Nat}, z_of I p nz k = some f → f < k ∧ f < nz
  | 0, f, h => by simp [z_of] at h
  | k + 1, f, h => by
    unfold z_of at h
    split at h
    · rename_i q
      cases h
      exact ⟨Nat.lt_succ_self _, q.1⟩
    · have := z_of_lt h
      omega
def z_fi (o : Option Nat) : Int32 := match o with | none => -1 | some f => nI f
def z_ft (I : z_TI) (o : Option Nat) : Int32 := match o with | none => 0 | some f => nI (z_th I f)
theorem iX5_offered {QX} (hC : z_C G F A I N O B w) (hT : ∀ z, z < N 8 0 → I 9 z 0 - I 9 z 0 / 5 * 5 = nI (z_th I z)) {p : Nat} (hp : p < N 6 0) (h40 : N 8 0 ≤ 40) {x1 : Value} : ∀ m i : Nat, 40 - i = m → i ≤ 40 → ∀ x6, z_E G zX5_offered 7 (z_mq G (fun v w' => w = w' ∧ ∃ q, q < N 6 0 ∧ nI p = nI q ∧ v = some (.int (z_fi (z_of I q (N 8 0) 40)))) QX) 14 [some (.ref (A 0 0 0)), some x1, some (.ref (A 5 p 0)), some (.int (z_fi (z_of I p (N 8 0) i))), some (.int (z_ft I (z_of I p (N 8 0) i))), some (.int (nI i)), x6] [] w 0 0 := by
  intro m
  induction m with
  | zero =>
    intro i hm hi x6
    have : i = 40 := by omega
    subst this
    refine z_iload (pc := 14) dX5_offered_14 rfl ?_
    refine z_aload_n (pc := 16) dX5_offered_16 rfl (by first | rfl | exact z_isr_rf _) ?_
    refine gfX5_23 (pc := 17) rfl dX5_offered_17 (hC.k0) rfl ?_
    refine z_alen (pc := 20) dX5_offered_20 (hC.k3) rfl rfl ?_
    refine z_icmp_ge (pc := 21) (tgt := 84) dX5_offered_21 (by decide) (fun _ => ?_) (fun hn => absurd (nI_le (Nat.le_refl _) (by omega)) hn)
    refine z_iload_n (pc := 84) dX5_offered_84 rfl ?_
    refine z_iret (pc := 85) dX5_offered_85 rfl (⟨rfl, p, hp, rfl, rfl⟩)
  | succ m ih =>
    intro i hm hi x6
    have hin : i < 40 := by omega
    have hi3 : i < 2 ^ 31 := by omega
    have ih := ih (i + 1) (by omega) (by omega)
    refine z_iload (pc := 14) dX5_offered_14 rfl ?_
    refine z_aload_n (pc := 16) dX5_offered_16 rfl (by first | rfl | exact z_isr_rf _) ?_
    refine gfX5_23 (pc := 17) rfl dX5_offered_17 (hC.k0) rfl ?_
    refine z_alen (pc := 20) dX5_offered_20 (hC.k3) rfl rfl ?_
    refine z_icmp_ge (pc := 21) (tgt := 84) dX5_offered_21 (by decide) (fun hn => absurd hn (nI_ge hin (by omega))) (fun _ => ?_)
    refine z_aload_n (pc := 24) dX5_offered_24 rfl (by first | rfl | exact z_isr_rf _) ?_
    refine gfX5_23 (pc := 25) rfl dX5_offered_25 (hC.k0) rfl ?_
    refine z_iload (pc := 28) dX5_offered_28 rfl ?_
    refine z_aaldZ (pc := 30) dX5_offered_30 (hC.k3) (vp_in_nI hin (by omega)) ?_
    rw [nI_clamp hi3]
    by_cases hz : i < N 8 0
    · rw [if_pos hz]
      refine z_astore6 (pc := 31) dX5_offered_31 (by first | rfl | exact z_isr_rf _) ?_
      refine z_aload (pc := 33) dX5_offered_33 rfl (by first | rfl | exact z_isr_rf _) ?_
      refine z_ifnull (pc := 35) (tgt := 78) dX5_offered_35 (by decide) (by first | rfl | exact z_isr_rf _) (fun hn => by cases hn) (fun _ _ => ?_)
      refine z_aload_n (pc := 38) dX5_offered_38 rfl (by first | rfl | exact z_isr_rf _) ?_
      refine z_iload (pc := 39) dX5_offered_39 rfl ?_
      refine z_callVp (pc := 41) (mX3_hasTried hC hp (show i < 40 by omega)) dX5_offered_41 cwX5_149 okX3_hasTried rfl (hC.k5 hp) rfl rfl (by omega) rfl (Nat.le_of_ble_eq_true rfl) ?_
      by_cases ht : I 4 p i = 0
      · rw [if_pos ht]
        refine z_if_eq (pc := 44) (tgt := 50) dX5_offered_44 (by decide) (fun _ => ?_) (fun hn => absurd (rfl) hn)
        have hput : z_of I p (N 8 0) (i + 1) = some i → z_E G zX5_offered 7 (z_mq G (fun v w' => w = w' ∧ ∃ q, q < N 6 0 ∧ nI p = nI q ∧ v = some (.int (z_fi (z_of I q (N 8 0) 40)))) QX) 68 [some (.ref (A 0 0 0)), some x1, some (.ref (A 5 p 0)), some (.int (z_fi (z_of I p (N 8 0) i))), some (.int (z_ft I (z_of I p (N 8 0) i))), some (.int (nI i)), some (.ref (A 11 i 0))] [] w 0 0 := by
          intro he
          rw [he] at ih
          refine z_iload (pc := 68) dX5_offered_68 rfl ?_
          refine z_istore3 (pc := 70) dX5_offered_70 ?_
          refine z_aload (pc := 71) dX5_offered_71 rfl (by first | rfl | exact z_isr_rf _) ?_
          refine gfX5_158 (pc := 73) rfl dX5_offered_73 (hC.k11 hz) rfl ?_
          rw [hT i hz]
          refine z_istore4 (pc := 76) dX5_offered_76 ?_
          refine z_iinc5 (pc := 78) dX5_offered_78 ?_
          refine z_goto (pc := 81) (tgt := 14) dX5_offered_81 (by decide) ?_
          rw [nI_1]
          exact ih _
        cases hf : z_of I p (N 8 0) i with
        | none =>
          rw [hf] at hput
          have he : z_of I p (N 8 0) (i + 1) = some i := by unfold z_of; rw [if_pos ⟨hz, ht, fun f q => by rw [hf] at q; cases q⟩]
          refine z_iload_n (pc := 50) dX5_offered_50 rfl ?_
          refine z_if_lt (pc := 51) (tgt := 68) dX5_offered_51 (by decide) (fun _ => ?_) (fun hn => absurd ((by decide : (-1 : Int32) < 0)) hn)
          exact hput he
        | some f =>
          have hfl := z_of_lt hf
          rw [hf] at hput
          refine z_iload_n (pc := 50) dX5_offered_50 rfl ?_
          refine z_if_lt (pc := 51) (tgt := 68) dX5_offered_51 (by decide) (fun hn => absurd hn (nI_pos (show f < 2 ^ 31 by omega))) (fun _ => ?_)
          refine z_aload_n (pc := 54) dX5_offered_54 rfl (by first | rfl | exact z_isr_rf _) ?_
          refine z_aload (pc := 55) dX5_offered_55 rfl (by first | rfl | exact z_isr_rf _) ?_
          refine gfX5_158 (pc := 57) rfl dX5_offered_57 (hC.k11 hz) rfl ?_
          rw [hT i hz]
          haveI : Decidable (nm I p (z_th I i) (z_th I f)) := inferInstanceAs (Decidable (_ ∨ _))
          refine z_iload (pc := 60) dX5_offered_60 rfl ?_
          refine z_callVp (pc := 62) (mX3_needsMore hC hp (t := z_th I i) (u := z_th I f) (Nat.mod_lt _ (by omega)) (Nat.mod_lt _ (by omega))) dX5_offered_62 cwX5_165 okX3_needsMore rfl (hC.k5 hp) rfl rfl (by omega) rfl (Nat.le_of_ble_eq_true rfl) ?_
          by_cases hm2 : nm I p (z_th I i) (z_th I f)
          · rw [if_pos hm2]
            refine z_if_eq (pc := 65) (tgt := 78) dX5_offered_65 (by decide) (fun hn => absurd hn ((by decide : ¬ (1 : Int32) = 0))) (fun _ => ?_)
            exact hput (by unfold z_of; rw [if_pos ⟨hz, ht, fun f2 q => by rw [hf] at q; cases q; exact hm2⟩])
          · rw [if_neg hm2]
            refine z_if_eq (pc := 65) (tgt := 78) dX5_offered_65 (by decide) (fun _ => ?_) (fun hn => absurd (rfl) hn)
            have he : z_of I p (N 8 0) (i + 1) = some f := by unfold z_of; rw [if_neg (fun q => hm2 (q.2.2 f hf)), hf]
            rw [he] at ih
            refine z_iinc5 (pc := 78) dX5_offered_78 ?_
            refine z_goto (pc := 81) (tgt := 14) dX5_offered_81 (by decide) ?_
            rw [nI_1]
            exact ih _
      · rw [if_neg ht]
        refine z_if_eq (pc := 44) (tgt := 50) dX5_offered_44 (by decide) (fun hn => absurd hn ((by decide : ¬ (1 : Int32) = 0))) (fun _ => ?_)
        have he : z_of I p (N 8 0) (i + 1) = z_of I p (N 8 0) i := by rw [z_of, if_neg (fun q => ht q.2.1)]
        rw [he] at ih
        refine z_goto (pc := 47) (tgt := 78) dX5_offered_47 (by decide) ?_
        refine z_iinc5 (pc := 78) dX5_offered_78 ?_
        refine z_goto (pc := 81) (tgt := 14) dX5_offered_81 (by decide) ?_
        rw [nI_1]
        exact ih _
    · rw [if_neg hz]
      refine z_astore6 (pc := 31) dX5_offered_31 (by first | rfl | exact z_isr_rf _) ?_
      refine z_aload (pc := 33) dX5_offered_33 rfl (by first | rfl | exact z_isr_rf _) ?_
      refine z_ifnull (pc := 35) (tgt := 78) dX5_offered_35 (by decide) (by first | rfl | exact z_isr_rf _) (fun _ => ?_) (fun _ hn => by cases hn)
      have he : z_of I p (N 8 0) (i + 1) = z_of I p (N 8 0) i := by rw [z_of, if_neg (fun q => hz q.1)]
      rw [he] at ih
      refine z_iinc5 (pc := 78) dX5_offered_78 ?_
      refine z_goto (pc := 81) (tgt := 14) dX5_offered_81 (by decide) ?_
      rw [nI_1]
      exact ih _
theorem mX5_offered (hC : z_C G F A I N O B w) (hS : z_S N O B) (hT : ∀ z, z < N 8 0 → I 9 z 0 - I 9 z 0 / 5 * 5 = nI (z_th I z)) (x : Int32) : z_M G zX5_offered 7 [.ref (A 0 0 0), .int x] w 1 6 (fun v w' => w = w' ∧ ∃ p, p < N 6 0 ∧ x = nI p ∧ v = some (.int (z_fi (z_of I p (N 8 0) 40)))) (z_cx IOE (z_rg x (N 6 0)) w) := by
  refine z_M.of (by decide +kernel) rfl (by intro v hv; simp only [List.mem_cons, List.not_mem_nil, or_false] at hv; rcases hv with rfl | rfl <;> first | rfl | exact z_isr_cat (z_isr_rf _)) (Nat.le_of_ble_eq_true rfl) ?_
  show z_E _ zX5_offered _ _ 0 [some (.ref (A 0 0 0)), some (.int x), none, none, none, none, none] [] _ _ _
  refine z_aload_n (pc := 0) dX5_offered_0 rfl (by first | rfl | exact z_isr_rf _) ?_
  refine z_iload_n (pc := 1) dX5_offered_1 rfl ?_
  refine z_callV (pc := 2) (mX5_knownPlayer hC hS x) dX5_offered_2 cwX5_65 okX5_knownPlayer rfl (hC.k0) rfl rfl (by omega) rfl (Nat.le_of_ble_eq_true rfl) (by omega) (by omega) (fun E wN hN => z_Xout rfl (hN)) (fun v wN hN => ?_)
  obtain ⟨rfl, p, hp, rfl, rfl⟩ := hN
  refine z_astore2 (pc := 5) dX5_offered_5 (by first | rfl | exact z_isr_rf _) ?_
  refine z_iconst_m1 (pc := 6) dX5_offered_6 ?_
  refine z_istore3 (pc := 7) dX5_offered_7 ?_
  refine z_iconst_0 (pc := 8) dX5_offered_8 ?_
  refine z_istore4 (pc := 9) dX5_offered_9 ?_
  refine z_iconst_0 (pc := 11) dX5_offered_11 ?_
  refine z_istore5 (pc := 12) dX5_offered_12 ?_
  exact iX5_offered hC hT hp (by rw [hS.2.2.1]; exact hS.2.2.2.2.2.1) _ 0 rfl (by omega) _
/-- the results of the ended games among the first k that begin with a line -/
def z_bw (I : z_TI) (N : z_TN) (g l n : Nat) : Prop := n ≤ N 5 g ∧ ∀ i, i < n → I 8 g i = nI (l / 4 ^ i % 4)
def z_pg (I : z_TI) (N : z_TN) (O : z_TO) (l n : Nat) : Nat → Int32
  | 0 => 0
  | g + 1 => if g < N 7 0 ∧ O 0 0 ≠ some g ∧ (n ≤ N 5 g ∧ ∀ i, i < n → I 8 g i = nI (l / 4 ^ i % 4)) then z_pg I N O l n g + I 7 g 0 else z_pg I N O l n g
theorem iX5_pointsOfGames {QX} (hC : z_C G F A I N O B w) (hS : z_S N O B) {l n : Nat} (h1 : 1 ≤ n) (h6 : n ≤ 6) (hl : l < 4 ^ n) : ∀ m i : Nat, 60 - i = m → i ≤ 60 → ∀ x7, z_E G zX5_pointsOfGames 7 (z_mq G (fun v w' => w = w' ∧ ∃ l' n' : Nat, 1 ≤ n' ∧ n' ≤ 6 ∧ l' < 4 ^ n' ∧ nI l = nI l' ∧ nI n = nI n' ∧ v = some (.int (z_pg I N O l' n' 60))) QX) 21 [some (.ref (A 0 0 0)), some (.int (nI l)), some (.int (nI n)), some (.int (z_pg I N O l n i)), some (.ref (A 2 0 0)), some (.int (nI 60)), some (.int (nI i)), x7] [] w 0 0 := by
  have h60 : N 7 0 ≤ 60 := by rw [hS.2.1]; exact hS.2.2.2.2.1
  intro m
  induction m with
  | zero =>
    intro i hm hi x7
    have : i = 60 := by omega
    subst this
    refine z_iload (pc := 21) dX5_pointsOfGames_21 rfl ?_
    refine z_iload (pc := 23) dX5_pointsOfGames_23 rfl ?_
    refine z_icmp_ge (pc := 25) (tgt := 73) dX5_pointsOfGames_25 (by decide) (fun _ => ?_) (fun hn => absurd (nI_le (Nat.le_refl _) (by omega)) hn)
    refine z_iload_n (pc := 73) dX5_pointsOfGames_73 rfl ?_
    refine z_iret (pc := 74) dX5_pointsOfGames_74 rfl (⟨rfl, l, n, h1, h6, hl, rfl, rfl, rfl⟩)
  | succ m ih =>
    intro i hm hi x7
    have hin : i < 60 := by omega
    have hi3 : i < 2 ^ 31 := by omega
    have ih := ih (i + 1) (by omega) (by omega)
    refine z_iload (pc := 21) dX5_pointsOfGames_21 rfl ?_
    refine z_iload (pc := 23) dX5_pointsOfGames_23 rfl ?_
    refine z_icmp_ge (pc := 25) (tgt := 73) dX5_pointsOfGames_25 (by decide) (fun hn => absurd hn (nI_ge hin (by omega))) (fun _ => ?_)
    refine z_aload (pc := 28) dX5_pointsOfGames_28 rfl (by first | rfl | exact z_isr_rf _) ?_
    refine z_iload (pc := 30) dX5_pointsOfGames_30 rfl ?_
    refine z_aaldG (pc := 32) dX5_pointsOfGames_32 (hC.k2) (vp_in_nI hin (by omega)) ?_
    rw [nI_clamp hi3]
    by_cases hz : i < N 7 0
    · rw [if_pos hz]
      refine z_astore7 (pc := 33) dX5_pointsOfGames_33 (by first | rfl | exact z_isr_rf _) ?_
      refine z_aload (pc := 35) dX5_pointsOfGames_35 rfl (by first | rfl | exact z_isr_rf _) ?_
      refine z_ifnull (pc := 37) (tgt := 67) dX5_pointsOfGames_37 (by decide) (by first | rfl | exact z_isr_rf _) (fun hn => by cases hn) (fun _ _ => ?_)
      refine z_aload (pc := 40) dX5_pointsOfGames_40 rfl (by first | rfl | exact z_isr_rf _) ?_
      refine z_aload_n (pc := 42) dX5_pointsOfGames_42 rfl (by first | rfl | exact z_isr_rf _) ?_
      refine gfX5_74 (pc := 43) rfl dX5_pointsOfGames_43 (hC.k0) rfl ?_
      refine z_acmp_eq (pc := 46) (tgt := 67) dX5_pointsOfGames_46 (by decide) (by first | rfl | exact z_isr_rf _) (by first | rfl | exact z_isr_rf _) (fun hc => ?_) (fun hc => ?_)
      · have hO : O 0 0 = some i := by
          cases hq : O 0 0 with
          | none => rw [hq] at hc; cases hc
          | some g =>
            rw [hq] at hc
            have hg : g < N 7 0 := by have := hS.2.2.2.2.2.2.2.1 g hq; have := hS.2.1; omega
            have := hC.2.1 9 i 0 9 g 0 ⟨hz, rfl⟩ ⟨hg, rfl⟩ (by injection hc)
            rw [this.2.1]
        have he : z_pg I N O l n (i + 1) = z_pg I N O l n i := by rw [z_pg, if_neg (fun q => q.2.1 hO)]
        rw [he] at ih
        refine z_iinc6 (pc := 67) dX5_pointsOfGames_67 ?_
        refine z_goto (pc := 70) (tgt := 21) dX5_pointsOfGames_70 (by decide) ?_
        rw [nI_1]
        exact ih _
      · have hO : O 0 0 ≠ some i := fun hq => hc (by rw [hq]; rfl)
        have h12 : N 5 i ≤ 12 := (hS.2.2.2.2.2.2.1 i (by rw [← hS.2.1]; exact hz)).2.2
        refine z_aload (pc := 49) dX5_pointsOfGames_49 rfl (by first | rfl | exact z_isr_rf _) ?_
        refine z_iload_n (pc := 51) dX5_pointsOfGames_51 rfl ?_
        refine z_iload_n (pc := 52) dX5_pointsOfGames_52 rfl ?_
        refine z_callVp (pc := 53) (mX1_beginsWith hC hz (l := l) (n := n) (Nat.lt_trans hl (z_p4 n (by omega))) h12 h6) dX5_pointsOfGames_53 cwX5_192 okX1_beginsWith rfl (hC.k9 hz) rfl rfl (by omega) rfl (Nat.le_of_ble_eq_true rfl) ?_
        by_cases hb : n ≤ N 5 i ∧ ∀ j, j < n → I 8 i j = nI (l / 4 ^ j % 4)
        · rw [if_pos hb]
          refine z_if_eq (pc := 56) (tgt := 67) dX5_pointsOfGames_56 (by decide) (fun hn => absurd hn ((by decide : ¬ (1 : Int32) = 0))) (fun _ => ?_)
          have he : z_pg I N O l n (i + 1) = z_pg I N O l n i + I 7 i 0 := by rw [z_pg, if_pos ⟨hz, hO, hb⟩]
          rw [he] at ih
          refine z_iload_n (pc := 59) dX5_pointsOfGames_59 rfl ?_
          refine z_aload (pc := 60) dX5_pointsOfGames_60 rfl (by first | rfl | exact z_isr_rf _) ?_
          refine gfX5_108 (pc := 62) rfl dX5_pointsOfGames_62 (hC.k9 hz) rfl ?_
          refine z_iadd (pc := 65) dX5_pointsOfGames_65 ?_
          refine z_istore3 (pc := 66) dX5_pointsOfGames_66 ?_
          refine z_iinc6 (pc := 67) dX5_pointsOfGames_67 ?_
          refine z_goto (pc := 70) (tgt := 21) dX5_pointsOfGames_70 (by decide) ?_
          rw [nI_1]
          exact ih _
        · rw [if_neg hb]
          refine z_if_eq (pc := 56) (tgt := 67) dX5_pointsOfGames_56 (by decide) (fun _ => ?_) (fun hn => absurd (rfl) hn)
          have he : z_pg I N O l n (i + 1) = z_pg I N O l n i := by rw [z_pg, if_neg (fun q => hb q.2.2)]
          rw [he] at ih
          refine z_iinc6 (pc := 67) dX5_pointsOfGames_67 ?_
          refine z_goto (pc := 70) (tgt := 21) dX5_pointsOfGames_70 (by decide) ?_
          rw [nI_1]
          exact ih _
    · rw [if_neg hz]
      refine z_astore7 (pc := 33) dX5_pointsOfGames_33 (by first | rfl | exact z_isr_rf _) ?_
      refine z_aload (pc := 35) dX5_pointsOfGames_35 rfl (by first | rfl | exact z_isr_rf _) ?_
      refine z_ifnull (pc := 37) (tgt := 67) dX5_pointsOfGames_37 (by decide) (by first | rfl | exact z_isr_rf _) (fun _ => ?_) (fun _ hn => by cases hn)
      have he : z_pg I N O l n (i + 1) = z_pg I N O l n i := by rw [z_pg, if_neg (fun q => hz q.1)]
      rw [he] at ih
      refine z_iinc6 (pc := 67) dX5_pointsOfGames_67 ?_
      refine z_goto (pc := 70) (tgt := 21) dX5_pointsOfGames_70 (by decide) ?_
      rw [nI_1]
      exact ih _
theorem mX5_pointsOfGames (hC : z_C G F A I N O B w) (hS : z_S N O B) (x y : Int32) : z_M G zX5_pointsOfGames 7 [.ref (A 0 0 0), .int x, .int y] w 1 6 (fun v w' => w = w' ∧ ∃ l n : Nat, 1 ≤ n ∧ n ≤ 6 ∧ l < 4 ^ n ∧ x = nI l ∧ y = nI n ∧ v = some (.int (z_pg I N O l n 60))) (z_cx IAE (z_ln x y) w) := by
  refine z_M.of (by decide +kernel) rfl (by intro v hv; simp only [List.mem_cons, List.not_mem_nil, or_false] at hv; rcases hv with rfl | rfl | rfl <;> first | rfl | exact z_isr_cat (z_isr_rf _)) (Nat.le_of_ble_eq_true rfl) ?_
  show z_E _ zX5_pointsOfGames _ _ 0 [some (.ref (A 0 0 0)), some (.int x), some (.int y), none, none, none, none, none] [] _ _ _
  refine z_iload_n (pc := 0) dX5_pointsOfGames_0 rfl ?_
  refine z_iload_n (pc := 1) dX5_pointsOfGames_1 rfl ?_
  refine z_callS (pc := 2) (mX5_checkLine G w x y) dX5_pointsOfGames_2 cwX5_173 okX5_checkLine rfl (by omega) rfl (Nat.le_of_ble_eq_true rfl) (by omega) (by omega) (fun E wN hN => z_Xout rfl (hN)) (fun v wN hN => ?_)
  obtain ⟨rfl, rfl, l, n, h1, h6, hl, rfl, rfl⟩ := hN
  refine z_iconst_0 (pc := 5) dX5_pointsOfGames_5 ?_
  refine z_istore3 (pc := 6) dX5_pointsOfGames_6 ?_
  refine z_aload_n (pc := 7) dX5_pointsOfGames_7 rfl (by first | rfl | exact z_isr_rf _) ?_
  refine gfX5_17 (pc := 8) rfl dX5_pointsOfGames_8 (hC.k0) rfl ?_
  refine z_astore4 (pc := 11) dX5_pointsOfGames_11 (by first | rfl | exact z_isr_rf _) ?_
  refine z_aload (pc := 13) dX5_pointsOfGames_13 rfl (by first | rfl | exact z_isr_rf _) ?_
  refine z_alen (pc := 15) dX5_pointsOfGames_15 (hC.k2) rfl rfl ?_
  refine z_istore5 (pc := 16) dX5_pointsOfGames_16 ?_
  refine z_iconst_0 (pc := 18) dX5_pointsOfGames_18 ?_
  refine z_istore6 (pc := 19) dX5_pointsOfGames_19 ?_
  exact iX5_pointsOfGames hC hS h1 h6 hl _ 0 rfl (by omega) _
end LP

