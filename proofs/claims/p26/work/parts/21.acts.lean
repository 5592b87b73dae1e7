/-! entering, beginning, moving, solving -/
def z_NP (N : z_TN) : z_TN := z_sN (z_sN N 6 0 (N 0 0 + 1)) 0 0 (N 0 0 + 1)
theorem z_kp.old {q : Nat} {w w' : z_W} {e : va_E} (hq : w q = none) (h : z_kp q (z_up w q e) w') : ∀ a, w a ≠ none → w' a = w a := fun a ha => by
  have hn : a ≠ q := fun z => ha (by rw [z]; exact hq)
  rw [h a hn (by rw [z_upN _ _ hn]; exact ha), z_upN _ _ hn]
theorem z_none {q r : Nat} {w : z_W} {e : va_E} (h : z_up w q e r = none) : w r = none ∧ q ≠ r := by
  have hn : r ≠ q := fun z => by rw [z, z_upS] at h; cases h
  rw [z_upN _ _ hn] at h
  exact ⟨h, hn.symm⟩
theorem z_fill {n n' q : Nat} {f : Nat → Option Nat} (hn : n' = n + 1) (hf : f n = some q) : (fun p => if p < n' then f p else none) = va_up (fun p => if p < n then f p else none) n (some q) := by
  funext p
  unfold va_up
  by_cases h : p = n
  · rw [if_pos h, if_pos (by omega), h, hf]
  · rw [if_neg h]
    dsimp only
    by_cases h2 : p < n
    · rw [if_pos h2, if_pos (by omega)]
    · rw [if_neg h2, if_neg (by omega)]
section ACT
variable {G : z_G} {F : Nat → Prop} {A : z_TA} {I : z_TI} {N : z_TN} {O : z_TO} {B : z_TB} {w : z_W}
theorem mX5_enter (hC : z_C G F A I N O B w) (hS : z_S N O B) : z_M G zX5_enter 7 [.ref (A 0 0 0)] w 4 61 (fun v w' => v = some (.int (nI (N 0 0))) ∧ N 0 0 < 8 ∧ z_fr F w w' ∧ ∃ A', A' 0 0 0 = A 0 0 0 ∧ z_C G F A' (z_IP I (N 0 0)) (z_NP N) (z_sO O 1 (N 0 0) none) B w') (z_cx ISE (N 0 0 < 8) w) := by
  have h6 : N 6 0 = N 0 0 := hS.1
  have h8 : N 0 0 ≤ 8 := hS.2.2.2.1
  have hp3 : N 0 0 < 2 ^ 31 := by omega
  refine z_M.of (by decide +kernel) rfl (by intro v hv; simp only [List.mem_cons, List.not_mem_nil, or_false] at hv; rcases hv with rfl <;> first | rfl | exact z_isr_cat (z_isr_rf _)) (Nat.le_of_ble_eq_true rfl) ?_
  show z_E _ zX5_enter _ _ 0 [some (.ref (A 0 0 0)), none] [] _ _ _
  refine z_aload_n (pc := 0) dX5_enter_0 rfl (by first | rfl | exact z_isr_rf _) ?_
  refine gfX5_52 (pc := 1) rfl dX5_enter_1 (hC.k0) rfl ?_
  refine z_istore1 (pc := 4) dX5_enter_4 ?_
  refine z_iload_n (pc := 5) dX5_enter_5 rfl ?_
  refine z_if_lt (pc := 6) (tgt := 18) dX5_enter_6 (by decide) (fun hn => absurd hn (nI_pos hp3)) (fun _ => ?_)
  refine z_iload_n (pc := 9) dX5_enter_9 rfl ?_
  refine z_aload_n (pc := 10) dX5_enter_10 rfl (by first | rfl | exact z_isr_rf _) ?_
  refine gfX5_11 (pc := 11) rfl dX5_enter_11 (hC.k0) rfl ?_
  refine z_alen (pc := 14) dX5_enter_14 (hC.k1) rfl rfl ?_
  refine z_icmp_lt (pc := 15) (tgt := 28) dX5_enter_15 (by decide) (fun hc => ?_) (fun hc => ?_)
  · rw [nI_ltI hp3 (by omega)] at hc
    refine z_aload_n (pc := 28) dX5_enter_28 rfl (by first | rfl | exact z_isr_rf _) ?_
    refine gfX5_11 (pc := 29) rfl dX5_enter_29 (hC.k0) rfl ?_
    refine z_iload_n (pc := 32) dX5_enter_32 rfl ?_
    refine nwX5_9 (pc := 33) rfl dX5_enter_33 (by omega) (by omega) (fun q hq => ?_)
    refine z_dup (pc := 36) dX5_enter_36 (by first | rfl | exact z_isr_cat (z_isr_rf _)) ?_
    refine z_iload_n (pc := 37) dX5_enter_37 rfl ?_
    refine z_callI (pc := 38) (mX3_init (z_upS w q _)) dX5_enter_38 cwX5_63 okX3_init rfl (by omega) rfl (Nat.le_of_ble_eq_true rfl) (by omega) (by omega) (fun _ _ h => h.elim) (fun v wN hN => ?_)
    obtain ⟨rfl, r, t, m, hr, ht, hm, n4, n5, n6, wq, wr, wt, wm, hk⟩ := hN
    obtain ⟨hr, n1⟩ := z_none hr
    obtain ⟨ht, n2⟩ := z_none ht
    obtain ⟨hm, n3⟩ := z_none hm
    obtain ⟨hT, hf⟩ := hC.growP hS h6.symm hq hr ht hm n1 n2 n3 n4 n5 n6 wq wr wt wm (hk.old hq)
    refine z_aastP (pc := 41) dX5_enter_41 (hT.at (k := 1) (i := 0) (j := 0) (Or.inl ⟨rfl, rfl⟩)) (wq) (vp_in_nI (by omega) (by omega)) ?_
    rw [nI_clamp hp3]
    have hC2 : z_C G F (z_AP A (N 0 0) q r t m) (z_IP I (N 0 0)) (z_sN N 6 0 (N 0 0 + 1)) (z_sO O 1 (N 0 0) none) B (z_up wN (A 1 0 0) (.inl (G.2.1 4, 8, z_rs (va_up (fun p => if p < N 6 0 then some (z_AP A (N 0 0) q r t m 5 p 0) else none) (N 0 0) (some q))))) ∧ z_fr F wN (z_up wN (A 1 0 0) (.inl (G.2.1 4, 8, z_rs (va_up (fun p => if p < N 6 0 then some (z_AP A (N 0 0) q r t m 5 p 0) else none) (N 0 0) (some q))))) := by
      obtain ⟨h1, h2⟩ := z_tw.put (ct' := z_ct G (z_AP A (N 0 0) q r t m) (z_IP I (N 0 0)) (z_sN N 6 0 (N 0 0 + 1)) (z_sO O 1 (N 0 0) none) B) hT (k := 1) (i := 0) (j := 0) (e := .inl (G.2.1 4, 8, z_rs (va_up (fun p => if p < N 6 0 then some (z_AP A (N 0 0) q r t m 5 p 0) else none) (N 0 0) (some q)))) (Or.inl ⟨rfl, rfl⟩) (by
        show (Sum.inl (G.2.1 4, 8, z_rs (fun p => if p < z_sN N 6 0 (N 0 0 + 1) 6 0 then some (z_AP A (N 0 0) q r t m 5 p 0) else none)) : va_E) = _
        rw [z_fill (n := N 6 0) (by rw [z_sN_s, h6]) (show (fun p => some (z_AP A (N 0 0) q r t m 5 p 0)) (N 6 0) = some q by rw [h6]; simp [z_AP, z_sA]), h6]) (by
        intro k' i' j' hl hn
        unfold z_ct
        split <;> first
          | rfl
          | (rcases hl with hl | ⟨h1, -⟩
             · exact absurd ⟨rfl, hl.1, hl.2⟩ hn
             · omega))
      refine ⟨z_tw.re h1 ?_ (fun _ _ _ _ => rfl), h2⟩
      intro k i j hl
      unfold z_lv at hl ⊢
      have e6 : z_sN N 6 0 (N 0 0 + 1) 6 0 = N 0 0 + 1 := z_sN_s _ _ _ _
      split at hl <;> first
        | exact Or.inl hl
        | (rw [e6] at hl
           by_cases h : i = N 0 0
           · exact Or.inr ⟨by simp, h, hl.2⟩
           · exact Or.inl ⟨by omega, hl.2⟩)
    refine z_genC (hC2) (fun w2 hC2 hf2 => ?_)
    refine z_aload_n (pc := 42) dX5_enter_42 rfl (by first | rfl | exact z_isr_rf _) ?_
    refine z_iload_n (pc := 43) dX5_enter_43 rfl ?_
    refine z_iconst_1 (pc := 44) dX5_enter_44 ?_
    refine z_iadd (pc := 45) dX5_enter_45 ?_
    refine pfX5_52 (pc := 46) rfl dX5_enter_46 (hC2.k0) (Nat.le_of_ble_eq_true rfl) ?_
    rw [nI_1]
    refine z_genC (hC2.pN0 (N 0 0 + 1)) (fun w3 hC3 hf3 => ?_)
    refine z_iload_n (pc := 49) dX5_enter_49 rfl ?_
    refine z_iret (pc := 50) dX5_enter_50 rfl (⟨rfl, hc, hf.tr (hf2.tr hf3), z_AP A (N 0 0) q r t m, rfl, hC3⟩)
  · rw [nI_ltI hp3 (by omega)] at hc
    refine z_throw (pc := 18) rfl rfl th56 sr58 (by omega) (Nat.le_of_ble_eq_true rfl) (by omega) (by omega) dX5_enter_18 dX5_enter_21 dX5_enter_22 dX5_enter_24 dX5_enter_27 (⟨rfl, rfl, hc⟩)
def z_cx3 (E1 : String) (P1 : Prop) (E2 : String) (P2 : Prop) (E3 : String) (P3 : Prop) (w : z_W) : String → z_W → Prop := fun E' w' => w = w' ∧ ((E' = E1 ∧ ¬ P1) ∨ (E' = E2 ∧ P1 ∧ ¬ P2) ∨ (E' = E3 ∧ P1 ∧ P2 ∧ ¬ P3))
def z_NB (N : z_TN) (p1 p2 : Nat) : z_TN := z_sN (z_sN (z_NG N (N 1 0) p1 p2) 7 0 (N 1 0 + 1)) 1 0 (N 1 0 + 1)
theorem mX5_begin (hC : z_C G F A I N O B w) (hS : z_S N O B) (x y : Int32) : z_M G zX5_begin 7 [.ref (A 0 0 0), .int x, .int y] w 4 30 (fun v w' => v = some (.int (nI (N 1 0))) ∧ O 0 0 = none ∧ N 1 0 < 60 ∧ z_fr F w w' ∧ ∃ p1 p2 A', p1 < N 6 0 ∧ p2 < N 6 0 ∧ x = nI p1 ∧ y = nI p2 ∧ x ≠ y ∧ A' 0 0 0 = A 0 0 0 ∧ z_C G F A' (z_IG I (N 1 0)) (z_NB N p1 p2) (z_sO O 0 0 (some (N 1 0))) B w') (z_cx3 IOE (z_rg x (N 6 0) ∧ z_rg y (N 6 0)) IAE (x ≠ y) ISE (O 0 0 = none ∧ N 1 0 < 60) w) := by
  have h7 : N 7 0 = N 1 0 := hS.2.1
  have h60 : N 1 0 ≤ 60 := hS.2.2.2.2.1
  have hg3 : N 1 0 < 2 ^ 31 := by omega
  refine z_M.of (by decide +kernel) rfl (by intro v hv; simp only [List.mem_cons, List.not_mem_nil, or_false] at hv; rcases hv with rfl | rfl | rfl <;> first | rfl | exact z_isr_cat (z_isr_rf _)) (Nat.le_of_ble_eq_true rfl) ?_
  show z_E _ zX5_begin _ _ 0 [some (.ref (A 0 0 0)), some (.int x), some (.int y), none, none, none] [] _ _ _
  refine z_aload_n (pc := 0) dX5_begin_0 rfl (by first | rfl | exact z_isr_rf _) ?_
  refine z_iload_n (pc := 1) dX5_begin_1 rfl ?_
  refine z_callV (pc := 2) (mX5_knownPlayer hC hS x) dX5_begin_2 cwX5_65 okX5_knownPlayer rfl (hC.k0) rfl rfl (by omega) rfl (Nat.le_of_ble_eq_true rfl) (by omega) (by omega) (fun E wN hN => z_Xout rfl (⟨hN.2.1, Or.inl ⟨hN.1, fun h => hN.2.2 h.1⟩⟩)) (fun v wN hN => ?_)
  obtain ⟨rfl, p1, hp1, hx, rfl⟩ := hN
  refine z_astore3 (pc := 5) dX5_begin_5 (by first | rfl | exact z_isr_rf _) ?_
  refine z_aload_n (pc := 6) dX5_begin_6 rfl (by first | rfl | exact z_isr_rf _) ?_
  refine z_iload_n (pc := 7) dX5_begin_7 rfl ?_
  refine z_callV (pc := 8) (mX5_knownPlayer hC hS y) dX5_begin_8 cwX5_65 okX5_knownPlayer rfl (hC.k0) rfl rfl (by omega) rfl (Nat.le_of_ble_eq_true rfl) (by omega) (by omega) (fun E wN hN => z_Xout rfl (⟨hN.2.1, Or.inl ⟨hN.1, fun h => hN.2.2 h.2⟩⟩)) (fun v wN hN => ?_)
  obtain ⟨rfl, p2, hp2, hy, rfl⟩ := hN
  have hP1 : z_rg x (N 6 0) ∧ z_rg y (N 6 0) := ⟨⟨p1, hp1, hx⟩, ⟨p2, hp2, hy⟩⟩
  refine z_astore4 (pc := 11) dX5_begin_11 (by first | rfl | exact z_isr_rf _) ?_
  refine z_iload_n (pc := 13) dX5_begin_13 rfl ?_
  refine z_iload_n (pc := 14) dX5_begin_14 rfl ?_
  refine z_icmp_ne (pc := 15) (tgt := 28) dX5_begin_15 (by decide) (fun hc => ?_) (fun hc => ?_)
  · have k0 := hC.k0
    cases hO : O 0 0 with
    | some g0 =>
      rw [hO] at k0
      refine z_aload_n (pc := 28) dX5_begin_28 rfl (by first | rfl | exact z_isr_rf _) ?_
      refine gfX5_74 (pc := 29) rfl dX5_begin_29 (k0) rfl ?_
      refine z_ifnull (pc := 32) (tgt := 45) dX5_begin_32 (by decide) (by first | rfl | exact z_isr_rf _) (fun hn => by cases hn) (fun _ _ => ?_)
      refine z_throw (pc := 35) rfl rfl th56 sr78 (by omega) (Nat.le_of_ble_eq_true rfl) (by omega) (by omega) dX5_begin_35 dX5_begin_38 dX5_begin_39 dX5_begin_41 dX5_begin_44 (⟨rfl, Or.inr (Or.inr ⟨rfl, hP1, hc, fun q => by cases q.1⟩)⟩)
    | none =>
      rw [hO] at k0
      refine z_aload_n (pc := 28) dX5_begin_28 rfl (by first | rfl | exact z_isr_rf _) ?_
      refine gfX5_74 (pc := 29) rfl dX5_begin_29 (k0) rfl ?_
      refine z_ifnull (pc := 32) (tgt := 45) dX5_begin_32 (by decide) (by first | rfl | exact z_isr_rf _) (fun _ => ?_) (fun _ hn => by cases hn)
      refine z_aload_n (pc := 45) dX5_begin_45 rfl (by first | rfl | exact z_isr_rf _) ?_
      refine gfX5_80 (pc := 46) rfl dX5_begin_46 (k0) rfl ?_
      refine z_istore5 (pc := 49) dX5_begin_49 ?_
      refine z_iload (pc := 51) dX5_begin_51 rfl ?_
      refine z_if_lt (pc := 53) (tgt := 66) dX5_begin_53 (by decide) (fun hn => absurd hn (nI_pos hg3)) (fun _ => ?_)
      refine z_iload (pc := 56) dX5_begin_56 rfl ?_
      refine z_aload_n (pc := 58) dX5_begin_58 rfl (by first | rfl | exact z_isr_rf _) ?_
      refine gfX5_17 (pc := 59) rfl dX5_begin_59 (k0) rfl ?_
      refine z_alen (pc := 62) dX5_begin_62 (hC.k2) rfl rfl ?_
      refine z_icmp_lt (pc := 63) (tgt := 76) dX5_begin_63 (by decide) (fun hd => ?_) (fun hd => ?_)
      · rw [nI_ltI hg3 (by omega)] at hd
        refine z_aload_n (pc := 76) dX5_begin_76 rfl (by first | rfl | exact z_isr_rf _) ?_
        refine nwX5_15 (pc := 77) rfl dX5_begin_77 (by omega) (by omega) (fun q hq => ?_)
        refine z_dup (pc := 80) dX5_begin_80 (by first | rfl | exact z_isr_cat (z_isr_rf _)) ?_
        refine z_aload_n (pc := 81) dX5_begin_81 rfl (by first | rfl | exact z_isr_rf _) ?_
        refine z_aload (pc := 82) dX5_begin_82 rfl (by first | rfl | exact z_isr_rf _) ?_
        refine z_callI (pc := 84) (mX1_init (p1 := A 5 p1 0) (p2 := A 5 p2 0) (z_upS w q _)) dX5_begin_84 cwX5_85 okX1_init rfl (by omega) rfl (Nat.le_of_ble_eq_true rfl) (by omega) (by omega) (fun _ _ h => h.elim) (fun v wN hN => ?_)
        obtain ⟨rfl, r, hr, wq, wr, hk⟩ := hN
        obtain ⟨hr, n1⟩ := z_none hr
        obtain ⟨hT, hf⟩ := hC.growG hS h7.symm hO hp1 hp2 hq hr n1 wq wr (hk.old hq)
        refine pfX5_74 (pc := 87) rfl dX5_begin_87 (by first | rfl | exact z_isr_rf _) (hT.at (k := 0) (i := 0) (j := 0) (Or.inl ⟨rfl, rfl⟩)) (Nat.le_of_ble_eq_true rfl) ?_
        have e9 : z_AG A (N 1 0) q r 9 (N 1 0) 0 = q := by simp [z_AG, z_sA]
        obtain ⟨hT2, hf2⟩ := z_tw.put (ct' := z_ct G (z_AG A (N 1 0) q r) (z_IG I (N 1 0)) (z_NG N (N 1 0) p1 p2) (z_sO O 0 0 (some (N 1 0))) B) hT (k := 0) (i := 0) (j := 0) (e := .inr (5, [.ref (A 1 0 0), .int (nI (N 0 0)), .ref (A 2 0 0), .int (nI (N 1 0)), .ref q, .ref (A 3 0 0), .int (nI (N 2 0)), .ref (A 4 0 0)])) (Or.inl ⟨rfl, rfl⟩) (by
          show (Sum.inr (5, [_, _, _, _, va_rf (((z_sO O 0 0 (some (N 1 0))) 0 0).map (fun g => z_AG A (N 1 0) q r 9 g 0)), _, _, _]) : va_E) = _
          rw [z_sO_s, Option.map_some, e9]
          rfl) (by
          intro k' i' j' hl hn
          unfold z_ct
          split <;> first
            | rfl
            | (rcases hl with hl | ⟨h1, -⟩
               · exact absurd ⟨rfl, hl.1, hl.2⟩ hn
               · omega))
        refine z_genW _ (fun w2 => z_tw _ _ _ _ w2 ∧ z_fr F wN w2) ⟨hT2, hf2⟩ (fun w2 h2 => ?_)
        obtain ⟨hT2, hf2⟩ := h2
        have o2 := hT2.at (k := 0) (i := 0) (j := 0) (Or.inl ⟨rfl, rfl⟩)
        have o2' : w2 (A 0 0 0) = some (.inr (5, [.ref (A 1 0 0), .int (nI (N 0 0)), .ref (A 2 0 0), .int (nI (N 1 0)), .ref q, .ref (A 3 0 0), .int (nI (N 2 0)), .ref (A 4 0 0)])) := by
          refine o2.trans ?_
          show some (Sum.inr (5, [_, _, _, _, va_rf (((z_sO O 0 0 (some (N 1 0))) 0 0).map (fun g => z_AG A (N 1 0) q r 9 g 0)), _, _, _]) : va_E) = _
          rw [z_sO_s, Option.map_some, e9]
          rfl
        have g2 := hT2.at (k := 9) (i := N 1 0) (j := 0) (Or.inr ⟨Or.inl rfl, rfl, rfl⟩)
        rw [e9] at g2
        refine z_aload_n (pc := 90) dX5_begin_90 rfl (by first | rfl | exact z_isr_rf _) ?_
        refine gfX5_17 (pc := 91) rfl dX5_begin_91 (o2') rfl ?_
        refine z_iload (pc := 94) dX5_begin_94 rfl ?_
        refine z_aload_n (pc := 96) dX5_begin_96 rfl (by first | rfl | exact z_isr_rf _) ?_
        refine gfX5_74 (pc := 97) rfl dX5_begin_97 (o2') rfl ?_
        refine z_aastG (pc := 100) dX5_begin_100 (hT2.at (k := 2) (i := 0) (j := 0) (Or.inl ⟨rfl, rfl⟩)) (g2) (vp_in_nI (by omega) (by omega)) ?_
        rw [nI_clamp hg3]
        have hC2 : z_C G F (z_AG A (N 1 0) q r) (z_IG I (N 1 0)) (z_sN (z_NG N (N 1 0) p1 p2) 7 0 (N 1 0 + 1)) (z_sO O 0 0 (some (N 1 0))) B (z_up w2 (A 2 0 0) (.inl (G.2.1 5, 60, z_rs (va_up (fun g => if g < N 7 0 then some (z_AG A (N 1 0) q r 9 g 0) else none) (N 1 0) (some q))))) ∧ z_fr F w2 (z_up w2 (A 2 0 0) (.inl (G.2.1 5, 60, z_rs (va_up (fun g => if g < N 7 0 then some (z_AG A (N 1 0) q r 9 g 0) else none) (N 1 0) (some q))))) := by
          obtain ⟨h1, h2⟩ := z_tw.put (ct' := z_ct G (z_AG A (N 1 0) q r) (z_IG I (N 1 0)) (z_sN (z_NG N (N 1 0) p1 p2) 7 0 (N 1 0 + 1)) (z_sO O 0 0 (some (N 1 0))) B) hT2 (k := 2) (i := 0) (j := 0) (e := .inl (G.2.1 5, 60, z_rs (va_up (fun g => if g < N 7 0 then some (z_AG A (N 1 0) q r 9 g 0) else none) (N 1 0) (some q)))) (Or.inl ⟨rfl, rfl⟩) (by
            show (Sum.inl (G.2.1 5, 60, z_rs (fun g => if g < (z_sN (z_NG N (N 1 0) p1 p2) 7 0 (N 1 0 + 1)) 7 0 then some (z_AG A (N 1 0) q r 9 g 0) else none)) : va_E) = _
            rw [z_fill (n := N 7 0) (by rw [z_sN_s, h7]) (show (fun g => some (z_AG A (N 1 0) q r 9 g 0)) (N 7 0) = some q by rw [h7]; exact congrArg some e9), h7]) (by
            intro k' i' j' hl hn
            unfold z_ct
            split <;> first
              | rfl
              | (rcases hl with hl | ⟨h1, -⟩
                 · exact absurd ⟨rfl, hl.1, hl.2⟩ hn
                 · omega))
          refine ⟨z_tw.re h1 ?_ (fun _ _ _ _ => rfl), h2⟩
          intro k i j hl
          unfold z_lv at hl ⊢
          have e7 : z_sN (z_NG N (N 1 0) p1 p2) 7 0 (N 1 0 + 1) 7 0 = N 1 0 + 1 := z_sN_s _ _ _ _
          split at hl <;> first
            | exact Or.inl hl
            | (rw [e7] at hl
               by_cases h : i = N 1 0
               · exact Or.inr ⟨by simp, h, hl.2⟩
               · exact Or.inl ⟨by omega, hl.2⟩)
        refine z_genC (hC2) (fun w3 hC3 hf3 => ?_)
        refine z_aload_n (pc := 101) dX5_begin_101 rfl (by first | rfl | exact z_isr_rf _) ?_
        refine z_iload (pc := 102) dX5_begin_102 rfl ?_
        refine z_iconst_1 (pc := 104) dX5_begin_104 ?_
        refine z_iadd (pc := 105) dX5_begin_105 ?_
        refine pfX5_80 (pc := 106) rfl dX5_begin_106 (hC3.k0) (Nat.le_of_ble_eq_true rfl) ?_
        rw [nI_1]
        refine z_genC (hC3.pN1 (N 1 0 + 1)) (fun w4 hC4 hf4 => ?_)
        refine z_iload (pc := 109) dX5_begin_109 rfl ?_
        refine z_iret (pc := 111) dX5_begin_111 rfl (⟨rfl, rfl, hd, hf.tr (hf2.tr (hf3.tr hf4)), p1, p2, z_AG A (N 1 0) q r, hp1, hp2, hx, hy, hc, rfl, hC4⟩)
      · rw [nI_ltI hg3 (by omega)] at hd
        refine z_throw (pc := 66) rfl rfl th56 sr83 (by omega) (Nat.le_of_ble_eq_true rfl) (by omega) (by omega) dX5_begin_66 dX5_begin_69 dX5_begin_70 dX5_begin_72 dX5_begin_75 (⟨rfl, Or.inr (Or.inr ⟨rfl, hP1, hc, fun q => hd q.2⟩)⟩)
  · refine z_throw (pc := 18) rfl rfl th69 sr71 (by omega) (Nat.le_of_ble_eq_true rfl) (by omega) (by omega) dX5_begin_18 dX5_begin_21 dX5_begin_22 dX5_begin_24 dX5_begin_27 (⟨rfl, Or.inr (Or.inl ⟨rfl, hP1, fun q => q hc⟩)⟩)
theorem mX5_move (hC : z_C G F A I N O B w) (hS : z_S N O B) (x : Int32) : z_M G zX5_move 7 [.ref (A 0 0 0), .int x] w 2 12 (fun v w' => ∃ g, O 0 0 = some g ∧ N 5 g < 12 ∧ z_rg x 4 ∧ v = some (.int (blC (I 6 g 0) x)) ∧ z_fr F w w' ∧ z_C G F A (z_sI (z_sI I 8 g (N 5 g) x) 6 g 0 (nx (I 6 g 0) x)) (z_sN N 5 g (N 5 g + 1)) O B w') (z_cx2 IAE (z_rg x 4) ISE (∃ g, O 0 0 = some g ∧ N 5 g < 12) w) := by
  refine z_M.of (by decide +kernel) rfl (by intro v hv; simp only [List.mem_cons, List.not_mem_nil, or_false] at hv; rcases hv with rfl | rfl <;> first | rfl | exact z_isr_cat (z_isr_rf _)) (Nat.le_of_ble_eq_true rfl) ?_
  show z_E _ zX5_move _ _ 0 [some (.ref (A 0 0 0)), some (.int x), none, none] [] _ _ _
  refine z_iload_n (pc := 0) dX5_move_0 rfl ?_
  refine z_callS (pc := 1) (mX5_checkMove G w x) dX5_move_1 cwX5_38 okX5_checkMove rfl (by omega) rfl (Nat.le_of_ble_eq_true rfl) (by omega) (by omega) (fun E wN hN => z_Xout rfl (⟨hN.2.1, Or.inl ⟨hN.1, hN.2.2⟩⟩)) (fun v wN hN => ?_)
  obtain ⟨rfl, rfl, hx⟩ := hN
  have k0 := hC.k0
  cases hO : O 0 0 with
  | none =>
    rw [hO] at k0
    refine z_aload_n (pc := 4) dX5_move_4 rfl (by first | rfl | exact z_isr_rf _) ?_
    refine gfX5_74 (pc := 5) rfl dX5_move_5 (k0) rfl ?_
    refine z_astore2 (pc := 8) dX5_move_8 (by first | rfl | exact z_isr_rf _) ?_
    refine z_aload_n (pc := 9) dX5_move_9 rfl (by first | rfl | exact z_isr_rf _) ?_
    refine z_ifnonnull (pc := 10) (tgt := 23) dX5_move_10 (by decide) (by first | rfl | exact z_isr_rf _) (fun _ hn => by cases hn) (fun _ => ?_)
    refine z_throw (pc := 13) rfl rfl th56 sr88 (by omega) (Nat.le_of_ble_eq_true rfl) (by omega) (by omega) dX5_move_13 dX5_move_16 dX5_move_17 dX5_move_19 dX5_move_22 (⟨rfl, Or.inr ⟨rfl, hx, fun ⟨g, q, _⟩ => by cases q⟩⟩)
  | some g =>
    rw [hO] at k0
    have hg1 : g < N 1 0 := by have := hS.2.2.2.2.2.2.2.1 g hO; omega
    have hg : g < N 7 0 := by have := hS.2.1; omega
    have h12 := (hS.2.2.2.2.2.2.1 g hg1).2.2
    refine z_aload_n (pc := 4) dX5_move_4 rfl (by first | rfl | exact z_isr_rf _) ?_
    refine gfX5_74 (pc := 5) rfl dX5_move_5 (k0) rfl ?_
    refine z_astore2 (pc := 8) dX5_move_8 (by first | rfl | exact z_isr_rf _) ?_
    refine z_aload_n (pc := 9) dX5_move_9 rfl (by first | rfl | exact z_isr_rf _) ?_
    refine z_ifnonnull (pc := 10) (tgt := 23) dX5_move_10 (by decide) (by first | rfl | exact z_isr_rf _) (fun _ _ => ?_) (fun hn => by cases hn)
    refine z_aload_n (pc := 23) dX5_move_23 rfl (by first | rfl | exact z_isr_rf _) ?_
    refine z_callVp (pc := 24) (mX1_isFull hC hg h12) dX5_move_24 cwX5_90 okX1_isFull rfl (hC.k9 hg) rfl rfl (by omega) rfl (Nat.le_of_ble_eq_true rfl) ?_
    by_cases hm : N 5 g < 12
    · rw [if_pos hm]
      refine z_if_eq (pc := 27) (tgt := 40) dX5_move_27 (by decide) (fun _ => ?_) (fun hn => absurd (rfl) hn)
      refine z_aload_n (pc := 40) dX5_move_40 rfl (by first | rfl | exact z_isr_rf _) ?_
      refine gfX5_96 (pc := 41) rfl dX5_move_41 (hC.k9 hg) rfl ?_
      refine z_iload_n (pc := 44) dX5_move_44 rfl ?_
      refine z_callSp (pc := 45) (mX5_isBlunder G w (I 6 g 0) x) dX5_move_45 cwX5_99 okX5_isBlunder rfl (by omega) rfl (Nat.le_of_ble_eq_true rfl) ?_
      refine z_istore3 (pc := 48) dX5_move_48 ?_
      refine z_aload_n (pc := 49) dX5_move_49 rfl (by first | rfl | exact z_isr_rf _) ?_
      refine z_iload_n (pc := 50) dX5_move_50 rfl ?_
      refine z_callV (pc := 51) (mX1_addMove hC hg hm (m := x)) dX5_move_51 cwX5_103 okX1_addMove rfl (hC.k9 hg) rfl rfl (by omega) rfl (Nat.le_of_ble_eq_true rfl) (by omega) (by omega) (fun _ _ h => h.elim) (fun v wN hN => ?_)
      obtain ⟨rfl, hC2, hf2⟩ := hN
      refine z_iload_n (pc := 54) dX5_move_54 rfl ?_
      refine z_zret (pc := 55) dX5_move_55 rfl (z_01 _ ) ( ⟨g, rfl, hm, hx, rfl, hf2, hC2⟩)
    · rw [if_neg hm]
      refine z_if_eq (pc := 27) (tgt := 40) dX5_move_27 (by decide) (fun hn => absurd hn ((by decide : ¬ (1 : Int32) = 0))) (fun _ => ?_)
      refine z_throw (pc := 30) rfl rfl th56 sr94 (by omega) (Nat.le_of_ble_eq_true rfl) (by omega) (by omega) dX5_move_30 dX5_move_33 dX5_move_34 dX5_move_36 dX5_move_39 (⟨rfl, Or.inr ⟨rfl, hx, fun ⟨g', q, h⟩ => by cases q; exact hm h⟩⟩)
theorem mX5_solve (hC : z_C G F A I N O B w) (hS : z_S N O B) (hT : ∀ z, z < N 8 0 → I 9 z 0 - I 9 z 0 / 5 * 5 = nI (z_th I z)) (x y m : Int32) : z_M G zX5_solve 7 [.ref (A 0 0 0), .int x, .int y, .int m] w 4 24 (fun v w' => ∃ p z, p < N 6 0 ∧ z < N 8 0 ∧ x = nI p ∧ y = nI z ∧ z_rg m 4 ∧ I 4 p z = 0 ∧ v = some (.int (if m = bst (I 9 z 0) then 1 else 0)) ∧ z_fr F w w' ∧ z_C G F A (z_sI (z_sI I 4 p z 1) 3 p (z_th I z) (rb (I 3 p (z_th I z)) (if m = bst (I 9 z 0) then 1 else 0))) N O B w') (z_cx3 IOE (z_rg x (N 6 0) ∧ z_rg y (N 8 0)) IAE (z_rg m 4) ISE (∀ p z, x = nI p → y = nI z → p < N 6 0 → z < N 8 0 → I 4 p z = 0) w) := by
  have h40 : N 8 0 ≤ 40 := by rw [hS.2.2.1]; exact hS.2.2.2.2.2.1
  refine z_M.of (by decide +kernel) rfl (by intro v hv; simp only [List.mem_cons, List.not_mem_nil, or_false] at hv; rcases hv with rfl | rfl | rfl | rfl <;> first | rfl | exact z_isr_cat (z_isr_rf _)) (Nat.le_of_ble_eq_true rfl) ?_
  show z_E _ zX5_solve _ _ 0 [some (.ref (A 0 0 0)), some (.int x), some (.int y), some (.int m), none, none, none] [] _ _ _
  refine z_aload_n (pc := 0) dX5_solve_0 rfl (by first | rfl | exact z_isr_rf _) ?_
  refine z_iload_n (pc := 1) dX5_solve_1 rfl ?_
  refine z_callV (pc := 2) (mX5_knownPlayer hC hS x) dX5_solve_2 cwX5_65 okX5_knownPlayer rfl (hC.k0) rfl rfl (by omega) rfl (Nat.le_of_ble_eq_true rfl) (by omega) (by omega) (fun E wN hN => z_Xout rfl (⟨hN.2.1, Or.inl ⟨hN.1, fun h => hN.2.2 h.1⟩⟩)) (fun v wN hN => ?_)
  obtain ⟨rfl, p, hp, rfl, rfl⟩ := hN
  refine z_astore4 (pc := 5) dX5_solve_5 (by first | rfl | exact z_isr_rf _) ?_
  refine z_aload_n (pc := 7) dX5_solve_7 rfl (by first | rfl | exact z_isr_rf _) ?_
  refine z_iload_n (pc := 8) dX5_solve_8 rfl ?_
  refine z_callV (pc := 9) (mX5_knownPuzzle hC hS y) dX5_solve_9 cwX5_139 okX5_knownPuzzle rfl (hC.k0) rfl rfl (by omega) rfl (Nat.le_of_ble_eq_true rfl) (by omega) (by omega) (fun E wN hN => z_Xout rfl (⟨hN.2.1, Or.inl ⟨hN.1, fun h => hN.2.2 h.2⟩⟩)) (fun v wN hN => ?_)
  obtain ⟨rfl, z, hz, rfl, rfl⟩ := hN
  have hP1 : z_rg (nI p) (N 6 0) ∧ z_rg (nI z) (N 8 0) := ⟨⟨p, hp, rfl⟩, ⟨z, hz, rfl⟩⟩
  have h8 : N 6 0 ≤ 8 := by rw [hS.1]; exact hS.2.2.2.1
  refine z_astore5 (pc := 12) dX5_solve_12 (by first | rfl | exact z_isr_rf _) ?_
  refine z_iload_n (pc := 14) dX5_solve_14 rfl ?_
  refine z_callS (pc := 15) (mX5_checkMove G w m) dX5_solve_15 cwX5_38 okX5_checkMove rfl (by omega) rfl (Nat.le_of_ble_eq_true rfl) (by omega) (by omega) (fun E wN hN => z_Xout rfl (⟨hN.2.1, Or.inr (Or.inl ⟨hN.1, hP1, hN.2.2⟩)⟩)) (fun v wN hN => ?_)
  obtain ⟨rfl, rfl, hm⟩ := hN
  refine z_aload (pc := 18) dX5_solve_18 rfl (by first | rfl | exact z_isr_rf _) ?_
  refine z_iload_n (pc := 20) dX5_solve_20 rfl ?_
  refine z_callVp (pc := 21) (mX3_hasTried hC hp (show z < 40 by omega)) dX5_solve_21 cwX5_149 okX3_hasTried rfl (hC.k5 hp) rfl rfl (by omega) rfl (Nat.le_of_ble_eq_true rfl) ?_
  by_cases ht : I 4 p z = 0
  · rw [if_pos ht]
    refine z_if_eq (pc := 24) (tgt := 37) dX5_solve_24 (by decide) (fun _ => ?_) (fun hn => absurd (rfl) hn)
    refine z_iload_n (pc := 37) dX5_solve_37 rfl ?_
    refine z_aload (pc := 38) dX5_solve_38 rfl (by first | rfl | exact z_isr_rf _) ?_
    refine gfX5_143 (pc := 40) rfl dX5_solve_40 (hC.k11 hz) rfl ?_
    refine z_callSp (pc := 43) (mX5_bestMove G w (I 9 z 0)) dX5_solve_43 cwX5_49 okX5_bestMove rfl (by omega) rfl (Nat.le_of_ble_eq_true rfl) ?_
    have e : ∀ {Z : z_Gq} (s : Int32), s = (if m = bst (I 9 z 0) then 1 else 0) → (Z = z_mq G (fun v w' => ∃ p' z', p' < N 6 0 ∧ z' < N 8 0 ∧ nI p = nI p' ∧ nI z = nI z' ∧ z_rg m 4 ∧ I 4 p' z' = 0 ∧ v = some (.int (if m = bst (I 9 z' 0) then 1 else 0)) ∧ z_fr F w w' ∧ z_C G F A (z_sI (z_sI I 4 p' z' 1) 3 p' (z_th I z') (rb (I 3 p' (z_th I z')) (if m = bst (I 9 z' 0) then 1 else 0))) N O B w') (z_cx3 IOE (z_rg (nI p) (N 6 0) ∧ z_rg (nI z) (N 8 0)) IAE (z_rg m 4) ISE (∀ p' z', nI p = nI p' → nI z = nI z' → p' < N 6 0 → z' < N 8 0 → I 4 p' z' = 0) w)) → z_E G zX5_solve 7 Z 54 [some (.ref (A 0 0 0)), some (.int (nI p)), some (.int (nI z)), some (.int m), some (.ref (A 5 p 0)), some (.ref (A 11 z 0)), none] [.int s] w 1 6 := by
      intro Z s hs hZ
      subst hZ
      have hs1 : s = 0 ∨ s = 1 := by rw [hs]; exact z_10 _
      refine z_istore6 (pc := 54) dX5_solve_54 ?_
      refine z_aload (pc := 56) dX5_solve_56 rfl (by first | rfl | exact z_isr_rf _) ?_
      refine z_iload_n (pc := 58) dX5_solve_58 rfl ?_
      refine z_callV (pc := 59) (mX3_markTried hC hp (show z < 40 by omega)) dX5_solve_59 cwX5_155 okX3_markTried rfl (hC.k5 hp) rfl rfl (by omega) rfl (Nat.le_of_ble_eq_true rfl) (by omega) (by omega) (fun _ _ h => h.elim) (fun v wN hN => ?_)
      obtain ⟨rfl, hC2, hf2⟩ := hN
      refine z_aload (pc := 62) dX5_solve_62 rfl (by first | rfl | exact z_isr_rf _) ?_
      refine z_aload (pc := 64) dX5_solve_64 rfl (by first | rfl | exact z_isr_rf _) ?_
      refine gfX5_158 (pc := 66) rfl dX5_solve_66 (hC2.k11 hz) rfl ?_
      have e9 : z_sI I 4 p z 1 9 z 0 = I 9 z 0 := rfl
      rw [e9, hT z hz]
      refine z_iload (pc := 69) dX5_solve_69 rfl ?_
      refine z_callV (pc := 71) (mX3_changeRating hC2 hp (t := z_th I z) (s := s) (Nat.mod_lt _ (by omega))) dX5_solve_71 cwX5_161 okX3_changeRating rfl (hC2.k5 hp) rfl rfl (by omega) rfl (Nat.le_of_ble_eq_true rfl) (by omega) (by omega) (fun _ _ h => h.elim) (fun v wN hN => ?_)
      obtain ⟨rfl, hC3, hf3⟩ := hN
      refine z_iload (pc := 74) dX5_solve_74 rfl ?_
      subst hs
      refine z_zret (pc := 76) dX5_solve_76 rfl (hs1 ) ( ⟨p, z, hp, hz, rfl, rfl, hm, ht, rfl, hf2.tr hf3, hC3⟩)
    refine z_icmp_ne (pc := 46) (tgt := 53) dX5_solve_46 (by decide) (fun hc => ?_) (fun hc => ?_)
    · refine z_iconst_0 (pc := 53) dX5_solve_53 ?_
      exact e 0 (by rw [if_neg hc]) rfl
    · refine z_iconst_1 (pc := 49) dX5_solve_49 ?_
      refine z_goto (pc := 50) (tgt := 54) dX5_solve_50 (by decide) ?_
      exact e 1 (by rw [if_pos hc]) rfl
  · rw [if_neg ht]
    refine z_if_eq (pc := 24) (tgt := 37) dX5_solve_24 (by decide) (fun hn => absurd hn ((by decide : ¬ (1 : Int32) = 0))) (fun _ => ?_)
    refine z_throw (pc := 27) rfl rfl th56 sr153 (by omega) (Nat.le_of_ble_eq_true rfl) (by omega) (by omega) dX5_solve_27 dX5_solve_30 dX5_solve_31 dX5_solve_33 dX5_solve_36 (⟨rfl, Or.inr (Or.inr ⟨rfl, hP1, hm, fun q => ht (q p z rfl rfl hp hz)⟩)⟩)
end ACT

