/-! the calls that pair; a new object -/
/-- the partners told -/
noncomputable def z_pt (I : z_TI) (N : z_TN) (O : z_TO) : z_TO := z_pr I N 4 (z_oc O 8)
theorem z_pr_f {I : z_TI} {N : z_TN} {f : Nat} (hf : f ≠ 1) : ∀ (m : Nat) (O : z_TO), z_pr I N m O f = O f
  | 0, _ => rfl
  | m + 1, O => by
    rw [z_pr]
    cases hfu : z_fu I N O 8 with
    | none => rfl
    | some a =>
      dsimp only
      cases hpf : z_pf I N O a with
      | none => rfl
      | some b =>
        dsimp only
        rw [z_pr_f hf m, z_sO_f _ _ _ hf, z_sO_f _ _ _ hf]
/-- who has white -/
def z_hw (I : z_TI) (p q : Nat) : Prop := I 0 p 0 - I 1 p 0 < I 0 q 0 - I 1 q 0 ∨ (I 0 p 0 - I 1 p 0 = I 0 q 0 - I 1 q 0 ∧ p < q)
theorem z_fr.oe {F : Nat → Prop} {w w' : z_W} (h : w = w') : z_fr F w w' := h ▸ z_fr.rf
section FC
variable {G : z_G} {F : Nat → Prop} {A : z_TA} {I : z_TI} {N : z_TN} {O : z_TO} {B : z_TB} {w : z_W}
theorem z_pt_lt (hS : z_S N O B) {p q : Nat} (h : z_pt I N O 1 p = some q) (hp : p < N 6 0) : q < N 6 0 := by
  have h8 : N 6 0 ≤ 8 := by rw [hS.1]; exact hS.2.2.2.1
  have e : z_pt I N O = z_pr I N 4 (z_oc O 8) := rfl
  rw [e] at h
  have h2 : ∀ (m : Nat) (O' : z_TO), (∀ p q, p < N 6 0 → O' 1 p = some q → q < N 6 0) → z_pr I N m O' 1 p = some q → q < N 6 0 := by
    intro m
    induction m with
    | zero => intro O' hO h; exact hO p q hp h
    | succ m ih =>
      intro O' hO h
      rw [z_pr] at h
      cases hfu : z_fu I N O' 8 with
      | none => rw [hfu] at h; exact hO p q hp h
      | some a =>
        rw [hfu] at h
        dsimp only at h
        cases hpf : z_pf I N O' a with
        | none => rw [hpf] at h; exact hO p q hp h
        | some b =>
          rw [hpf] at h
          refine ih _ (fun p q hp h2 => ?_) h
          unfold z_sO at h2
          rw [if_pos rfl] at h2
          by_cases e1 : p = b
          · rw [if_pos e1] at h2
            cases h2
            exact (z_fu_lt hfu).1
          · rw [if_neg e1, if_pos rfl] at h2
            by_cases e2 : p = a
            · rw [if_pos e2] at h2
              cases h2
              exact (z_pf_lt hpf).1
            · rw [if_neg e2] at h2
              exact hO p q hp h2
  refine h2 4 _ (fun p q hp h3 => ?_) h
  have h4 : z_oc O 8 1 p = none := by
    show (if 1 = 1 then (fun i => if i < 8 then none else O 1 i) else O 1) p = none
    rw [if_pos rfl]
    exact if_pos (by omega)
  rw [h4] at h3
  cases h3
theorem mX5_opponent (hC : z_C G F A I N O B w) (hS : z_S N O B) (x : Int32) : z_M G zX5_opponent 7 [.ref (A 0 0 0), .int x] w 1 6 (fun v w' => ∃ p, p < N 6 0 ∧ x = nI p ∧ v = some (.int (z_fi (z_pt I N O 1 p))) ∧ z_fr F w w' ∧ z_C G F A I N (z_pt I N O) B w') (z_cx IOE (z_rg x (N 6 0)) w) := by
  have h8 : N 6 0 ≤ 8 := by rw [hS.1]; exact hS.2.2.2.1
  refine z_M.of (by decide +kernel) rfl (by intro v hv; simp only [List.mem_cons, List.not_mem_nil, or_false] at hv; rcases hv with rfl | rfl <;> first | rfl | exact z_isr_cat (z_isr_rf _)) (Nat.le_of_ble_eq_true rfl) ?_
  show z_E _ zX5_opponent _ _ 0 [some (.ref (A 0 0 0)), some (.int x), none, none] [] _ _ _
  refine z_aload_n (pc := 0) dX5_opponent_0 rfl (by first | rfl | exact z_isr_rf _) ?_
  refine z_iload_n (pc := 1) dX5_opponent_1 rfl ?_
  refine z_callV (pc := 2) (mX5_knownPlayer hC hS x) dX5_opponent_2 cwX5_65 okX5_knownPlayer rfl (hC.k0) rfl rfl (by omega) rfl (Nat.le_of_ble_eq_true rfl) (by omega) (by omega) (fun E wN hN => z_Xout rfl (hN)) (fun v wN hN => ?_)
  obtain ⟨rfl, p, hp, rfl, rfl⟩ := hN
  refine z_astore2 (pc := 5) dX5_opponent_5 (by first | rfl | exact z_isr_rf _) ?_
  refine z_aload_n (pc := 6) dX5_opponent_6 rfl (by first | rfl | exact z_isr_rf _) ?_
  refine z_callV (pc := 7) (mX5_pairPlayers hC h8) dX5_opponent_7 cwX5_195 okX5_pairPlayers rfl (hC.k0) rfl rfl (by omega) rfl (Nat.le_of_ble_eq_true rfl) (by omega) (by omega) (fun _ _ h => h.elim) (fun v wN hN => ?_)
  obtain ⟨rfl, hC2, hf2⟩ := hN
  have hC2 : z_C G F A I N (z_pt I N O) B wN := hC2
  have k5 := hC2.k5 hp
  cases hq : z_pt I N O 1 p with
  | none =>
    rw [hq] at k5
    refine z_aload_n (pc := 10) dX5_opponent_10 rfl (by first | rfl | exact z_isr_rf _) ?_
    refine gfX5_198 (pc := 11) rfl dX5_opponent_11 (k5) rfl ?_
    refine z_astore3 (pc := 14) dX5_opponent_14 (by first | rfl | exact z_isr_rf _) ?_
    refine z_aload_n (pc := 15) dX5_opponent_15 rfl (by first | rfl | exact z_isr_rf _) ?_
    refine z_ifnonnull (pc := 16) (tgt := 23) dX5_opponent_16 (by decide) (by first | rfl | exact z_isr_rf _) (fun _ hn => by cases hn) (fun _ => ?_)
    refine z_iconst_m1 (pc := 19) dX5_opponent_19 ?_
    refine z_goto (pc := 20) (tgt := 27) dX5_opponent_20 (by decide) ?_
    refine z_iret (pc := 27) dX5_opponent_27 rfl (⟨p, hp, rfl, by rw [hq]; rfl, hf2, hC2⟩)
  | some q =>
    have hq6 := z_pt_lt hS hq hp
    rw [hq] at k5
    refine z_aload_n (pc := 10) dX5_opponent_10 rfl (by first | rfl | exact z_isr_rf _) ?_
    refine gfX5_198 (pc := 11) rfl dX5_opponent_11 (k5) rfl ?_
    refine z_astore3 (pc := 14) dX5_opponent_14 (by first | rfl | exact z_isr_rf _) ?_
    refine z_aload_n (pc := 15) dX5_opponent_15 rfl (by first | rfl | exact z_isr_rf _) ?_
    refine z_ifnonnull (pc := 16) (tgt := 23) dX5_opponent_16 (by decide) (by first | rfl | exact z_isr_rf _) (fun _ _ => ?_) (fun hn => by cases hn)
    refine z_aload_n (pc := 23) dX5_opponent_23 rfl (by first | rfl | exact z_isr_rf _) ?_
    refine gfX5_201 (pc := 24) rfl dX5_opponent_24 (hC2.k5 hq6) rfl ?_
    refine z_iret (pc := 27) dX5_opponent_27 rfl (⟨p, hp, rfl, by rw [hq]; rfl, hf2, hC2⟩)
theorem mX5_hasWhite (hC : z_C G F A I N O B w) (hS : z_S N O B) (x : Int32) : z_M G zX5_hasWhite 7 [.ref (A 0 0 0), .int x] w 2 12 (fun v w' => ∃ p q, p < N 6 0 ∧ x = nI p ∧ z_pt I N O 1 p = some q ∧ v = some (.int (@ite _ (z_hw I p q) (Classical.propDecidable _) 1 0)) ∧ z_fr F w w' ∧ z_C G F A I N (z_pt I N O) B w') (fun E w' => z_fr F w w' ∧ ((E = IOE ∧ w = w' ∧ ¬ z_rg x (N 6 0)) ∨ (E = ISE ∧ z_C G F A I N (z_pt I N O) B w' ∧ ∃ p, p < N 6 0 ∧ x = nI p ∧ z_pt I N O 1 p = none))) := by
  have h8 : N 6 0 ≤ 8 := by rw [hS.1]; exact hS.2.2.2.1
  refine z_M.of (by decide +kernel) rfl (by intro v hv; simp only [List.mem_cons, List.not_mem_nil, or_false] at hv; rcases hv with rfl | rfl <;> first | rfl | exact z_isr_cat (z_isr_rf _)) (Nat.le_of_ble_eq_true rfl) ?_
  show z_E _ zX5_hasWhite _ _ 0 [some (.ref (A 0 0 0)), some (.int x), none, none] [] _ _ _
  refine z_aload_n (pc := 0) dX5_hasWhite_0 rfl (by first | rfl | exact z_isr_rf _) ?_
  refine z_iload_n (pc := 1) dX5_hasWhite_1 rfl ?_
  refine z_callV (pc := 2) (mX5_knownPlayer hC hS x) dX5_hasWhite_2 cwX5_65 okX5_knownPlayer rfl (hC.k0) rfl rfl (by omega) rfl (Nat.le_of_ble_eq_true rfl) (by omega) (by omega) (fun E wN hN => z_Xout rfl (⟨z_fr.oe hN.2.1, Or.inl hN⟩)) (fun v wN hN => ?_)
  obtain ⟨rfl, p, hp, rfl, rfl⟩ := hN
  refine z_astore2 (pc := 5) dX5_hasWhite_5 (by first | rfl | exact z_isr_rf _) ?_
  refine z_aload_n (pc := 6) dX5_hasWhite_6 rfl (by first | rfl | exact z_isr_rf _) ?_
  refine z_callV (pc := 7) (mX5_pairPlayers hC h8) dX5_hasWhite_7 cwX5_195 okX5_pairPlayers rfl (hC.k0) rfl rfl (by omega) rfl (Nat.le_of_ble_eq_true rfl) (by omega) (by omega) (fun _ _ h => h.elim) (fun v wN hN => ?_)
  obtain ⟨rfl, hC2, hf2⟩ := hN
  have hC2 : z_C G F A I N (z_pt I N O) B wN := hC2
  have k5 := hC2.k5 hp
  cases hq : z_pt I N O 1 p with
  | none =>
    rw [hq] at k5
    refine z_aload_n (pc := 10) dX5_hasWhite_10 rfl (by first | rfl | exact z_isr_rf _) ?_
    refine gfX5_198 (pc := 11) rfl dX5_hasWhite_11 (k5) rfl ?_
    refine z_astore3 (pc := 14) dX5_hasWhite_14 (by first | rfl | exact z_isr_rf _) ?_
    refine z_aload_n (pc := 15) dX5_hasWhite_15 rfl (by first | rfl | exact z_isr_rf _) ?_
    refine z_ifnonnull (pc := 16) (tgt := 29) dX5_hasWhite_16 (by decide) (by first | rfl | exact z_isr_rf _) (fun _ hn => by cases hn) (fun _ => ?_)
    refine z_throw (pc := 19) rfl rfl th56 sr204 (by omega) (Nat.le_of_ble_eq_true rfl) (by omega) (by omega) dX5_hasWhite_19 dX5_hasWhite_22 dX5_hasWhite_23 dX5_hasWhite_25 dX5_hasWhite_28 (⟨hf2, Or.inr ⟨rfl, hC2, p, hp, rfl, hq⟩⟩)
  | some q =>
    have hq6 := z_pt_lt hS hq hp
    rw [hq] at k5
    refine z_aload_n (pc := 10) dX5_hasWhite_10 rfl (by first | rfl | exact z_isr_rf _) ?_
    refine gfX5_198 (pc := 11) rfl dX5_hasWhite_11 (k5) rfl ?_
    refine z_astore3 (pc := 14) dX5_hasWhite_14 (by first | rfl | exact z_isr_rf _) ?_
    refine z_aload_n (pc := 15) dX5_hasWhite_15 rfl (by first | rfl | exact z_isr_rf _) ?_
    refine z_ifnonnull (pc := 16) (tgt := 29) dX5_hasWhite_16 (by decide) (by first | rfl | exact z_isr_rf _) (fun _ _ => ?_) (fun hn => by cases hn)
    refine z_aload_n (pc := 29) dX5_hasWhite_29 rfl (by first | rfl | exact z_isr_rf _) ?_
    refine z_callVp (pc := 30) (mX3_colourBalance hC2 hp) dX5_hasWhite_30 cwX5_206 okX3_colourBalance rfl (hC2.k5 hp) rfl rfl (by omega) rfl (Nat.le_of_ble_eq_true rfl) ?_
    refine z_aload_n (pc := 33) dX5_hasWhite_33 rfl (by first | rfl | exact z_isr_rf _) ?_
    refine z_callVp (pc := 34) (mX3_colourBalance hC2 hq6) dX5_hasWhite_34 cwX5_206 okX3_colourBalance rfl (hC2.k5 hq6) rfl rfl (by omega) rfl (Nat.le_of_ble_eq_true rfl) ?_
    refine z_icmp_eq (pc := 37) (tgt := 57) dX5_hasWhite_37 (by decide) (fun hc => ?_) (fun hc => ?_)
    · refine z_aload_n (pc := 57) dX5_hasWhite_57 rfl (by first | rfl | exact z_isr_rf _) ?_
      refine gfX5_201 (pc := 58) rfl dX5_hasWhite_58 (hC2.k5 hp) rfl ?_
      refine z_aload_n (pc := 61) dX5_hasWhite_61 rfl (by first | rfl | exact z_isr_rf _) ?_
      refine gfX5_201 (pc := 62) rfl dX5_hasWhite_62 (hC2.k5 hq6) rfl ?_
      refine z_icmp_ge (pc := 65) (tgt := 72) dX5_hasWhite_65 (by decide) (fun hd => ?_) (fun hd => ?_)
      · rw [nI_leI (by omega) (by omega)] at hd
        refine z_iconst_0 (pc := 72) dX5_hasWhite_72 ?_
        refine z_zret (pc := 73) dX5_hasWhite_73 rfl (Or.inl rfl ) ( ⟨p, q, hp, rfl, hq, by rw [if_neg]; rintro (h | h); exact absurd h (hc ▸ Int32.lt_irrefl); omega, hf2, hC2⟩)
      · rw [nI_leI (by omega) (by omega)] at hd
        refine z_iconst_1 (pc := 68) dX5_hasWhite_68 ?_
        refine z_goto (pc := 69) (tgt := 73) dX5_hasWhite_69 (by decide) ?_
        refine z_zret (pc := 73) dX5_hasWhite_73 rfl (Or.inr rfl ) ( ⟨p, q, hp, rfl, hq, by rw [if_pos]; exact Or.inr ⟨hc, by omega⟩, hf2, hC2⟩)
    · refine z_aload_n (pc := 40) dX5_hasWhite_40 rfl (by first | rfl | exact z_isr_rf _) ?_
      refine z_callVp (pc := 41) (mX3_colourBalance hC2 hp) dX5_hasWhite_41 cwX5_206 okX3_colourBalance rfl (hC2.k5 hp) rfl rfl (by omega) rfl (Nat.le_of_ble_eq_true rfl) ?_
      refine z_aload_n (pc := 44) dX5_hasWhite_44 rfl (by first | rfl | exact z_isr_rf _) ?_
      refine z_callVp (pc := 45) (mX3_colourBalance hC2 hq6) dX5_hasWhite_45 cwX5_206 okX3_colourBalance rfl (hC2.k5 hq6) rfl rfl (by omega) rfl (Nat.le_of_ble_eq_true rfl) ?_
      refine z_icmp_ge (pc := 48) (tgt := 55) dX5_hasWhite_48 (by decide) (fun hd => ?_) (fun hd => ?_)
      · refine z_iconst_0 (pc := 55) dX5_hasWhite_55 ?_
        refine z_zret (pc := 56) dX5_hasWhite_56 rfl (Or.inl rfl ) ( ⟨p, q, hp, rfl, hq, by rw [if_neg]; rintro (h | h); exact Int32.not_lt.mpr hd h; exact hc h.1, hf2, hC2⟩)
      · refine z_iconst_1 (pc := 51) dX5_hasWhite_51 ?_
        refine z_goto (pc := 52) (tgt := 56) dX5_hasWhite_52 (by decide) ?_
        refine z_zret (pc := 56) dX5_hasWhite_56 rfl (Or.inr rfl ) ( ⟨p, q, hp, rfl, hq, by rw [if_pos]; exact Or.inl (Int32.not_le.mp hd), hf2, hC2⟩)
end FC

