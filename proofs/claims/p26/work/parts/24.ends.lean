/-! a game ends -/
def z_mv (I : z_TI) (g : Nat) : Nat → Nat := fun i => (I 8 g i).toNatClampNeg
def z_kn (N : z_TN) (g : Nat) : Nat := if N 5 g < 6 then N 5 g else 6
def z_k1 (I : z_TI) (N : z_TN) (B : z_TB) (g : Nat) : z_TI × z_TB := z_ar (z_mv I g) (I 7 g 0) (z_kn N g) I B 0
noncomputable def z_kI (I : z_TI) (N : z_TN) (B : z_TB) (g : Nat) : z_TI := z_db (z_mv I g) (z_kn N g) (z_k1 I N B g).1 (z_k1 I N B g).2 0
theorem z_ar_f {mv : Nat → Nat} {r : Int32} {f : Nat} (h1 : f ≠ 11) (h2 : f ≠ 12) : ∀ (m : Nat) (I : z_TI) (B : z_TB) (i : Nat), (z_ar mv r m I B i).1 f = I f
  | 0, _, _, _ => rfl
  | m + 1, I, B, i => by
    unfold z_ar
    split
    · rw [z_ar_f h1 h2 m, z_sI_f _ _ _ _ h2, z_sI_f _ _ _ _ h1]
    · rfl
theorem z_db_f {mv : Nat → Nat} {f : Nat} (h1 : f ≠ 13) : ∀ (m : Nat) (I : z_TI) (B : z_TB) (i : Nat), z_db mv m I B i f = I f
  | 0, _, _, _ => rfl
  | m + 1, I, B, i => by
    unfold z_db
    split
    · by_cases hb : bad (I 11 (i + 1) (z_px mv (i + 1))) (I 12 (i + 1) (z_px mv (i + 1))) (if i % 2 = 0 then 1 else 0)
      · rw [if_pos hb, z_sI_f _ _ _ _ h1]
      · rw [if_neg hb]
        exact z_db_f h1 m I B (i + 1)
    · rfl
theorem z_rg_mv {I : z_TI} {g i : Nat} (h : z_rg (I 8 g i) 4) : I 8 g i = nI (z_mv I g i) ∧ z_mv I g i < 4 := by
  obtain ⟨j, hj, e⟩ := h
  unfold z_mv
  rw [e, nI_clamp (by omega)]
  exact ⟨rfl, hj⟩
/-- the ints behind the two players' books of a game that ends with x -/
def z_e1 (I : z_TI) (N : z_TN) (g : Nat) (x : Int32) : z_TI :=
  let I1 := z_sI I 7 g 0 x
  eg (z_sI I1 0 (N 3 g) 0 (I1 0 (N 3 g) 0 + 1)) (N 3 g) (N 4 g) x
def z_e2 (I : z_TI) (N : z_TN) (g : Nat) (x : Int32) : z_TI :=
  eg (z_sI (z_e1 I N g x) 1 (N 4 g) 0 (z_e1 I N g x 1 (N 4 g) 0 + 1)) (N 4 g) (N 3 g) (2 - x)
theorem z_S.setO {N : z_TN} {O : z_TO} {B : z_TB} (hS : z_S N O B) : z_S N (z_sO O 0 0 none) B := by
  obtain ⟨h1, h2, h3, h4, h5, h6, h7, h8, h9, h10, h11, h12⟩ := hS
  refine ⟨h1, h2, h3, h4, h5, h6, h7, fun g q => ?_, fun p q hp h => h9 p q hp ?_, h10, h11, h12⟩
  · rw [z_sO_s] at q; cases q
  · rw [z_sO_f _ _ _ (by decide)] at h; exact h
section EN
variable {G : z_G} {F : Nat → Prop} {A : z_TA} {I : z_TI} {N : z_TN} {O : z_TO} {B : z_TB} {w : z_W}
theorem mX0_keepResult (hC : z_C G F A I N O B w) (hS : z_S N O B) (hZ : z_Z I B) {g : Nat} (hg : g < N 7 0) (hmv : ∀ i, i < N 5 g → z_rg (I 8 g i) 4) : z_M G zX0_keepResult 4 [.ref (A 4 0 0), .ref (A 9 g 0)] w 12 48 (fun v w' => v = none ∧ z_fr F w w' ∧ z_S N O (z_k1 I N B g).2 ∧ ∃ A', (∀ k, k < 12 → A' k = A k) ∧ z_C G F A' (z_kI I N B g) N O (z_k1 I N B g).2 w') z_nx := by
  have h12 := (hS.2.2.2.2.2.2.1 g (by rw [← hS.2.1]; exact hg)).2.2
  have hn6 : z_kn N g ≤ 6 := by unfold z_kn; split <;> omega
  have hnn : z_kn N g ≤ N 5 g := by unfold z_kn; split <;> omega
  have hlt : ∀ i, i < z_kn N g → z_mv I g i < 4 := fun i hi => (z_rg_mv (hmv i (by omega))).2
  have heq : ∀ i, i < z_kn N g → I 8 g i = nI (z_mv I g i) := fun i hi => (z_rg_mv (hmv i (by omega))).1
  refine z_M.of (by decide +kernel) rfl (by intro v hv; simp only [List.mem_cons, List.not_mem_nil, or_false] at hv; rcases hv with rfl | rfl <;> first | rfl | exact z_isr_cat (z_isr_rf _)) (Nat.le_of_ble_eq_true rfl) ?_
  show z_E _ zX0_keepResult _ _ 0 [some (.ref (A 4 0 0)), some (.ref (A 9 g 0)), none] [] _ _ _
  refine z_aload_n (pc := 0) dX0_keepResult_0 rfl (by first | rfl | exact z_isr_rf _) ?_
  refine gfX0_18 (pc := 1) rfl dX0_keepResult_1 (hC.k9 hg) rfl ?_
  refine z_bipush_6 (pc := 4) dX0_keepResult_4 ?_
  refine mmX0_24 (pc := 6) rfl dX0_keepResult_6 (by omega) (Nat.le_of_ble_eq_true rfl) ?_
  have e : (if (6 : Int32) < nI (N 5 g) then (6 : Int32) else nI (N 5 g)) = nI (z_kn N g) := by
    unfold z_kn
    by_cases h : N 5 g < 6
    · rw [if_pos h]
      exact if_neg (nI_nlt (a := 6) (by omega) (by omega))
    · rw [if_neg h]
      by_cases h2 : N 5 g = 6
      · rw [h2]; exact ite_self _
      · exact if_pos (nI_lt (a := 6) (by omega) (by omega))
  rw [e]
  refine z_istore2 (pc := 9) dX0_keepResult_9 ?_
  refine z_aload_n (pc := 10) dX0_keepResult_10 rfl (by first | rfl | exact z_isr_rf _) ?_
  refine z_aload_n (pc := 11) dX0_keepResult_11 rfl (by first | rfl | exact z_isr_rf _) ?_
  refine z_iload_n (pc := 12) dX0_keepResult_12 rfl ?_
  refine z_callV (pc := 13) (mX0_addResult hC hS hZ hn6 hlt hg heq) dX0_keepResult_13 cwX0_30 okX0_addResult rfl (hC.k4) rfl rfl (by omega) rfl (Nat.le_of_ble_eq_true rfl) (by omega) (by omega) (fun _ _ h => h.elim) (fun v wN hN => ?_)
  obtain ⟨rfl, hf, hS2, hZ2, A2, hA2, hC2⟩ := hN
  have e4 : A 4 0 0 = A2 4 0 0 := by rw [hA2 4 (by omega)]
  have e9 : A 9 g 0 = A2 9 g 0 := by rw [hA2 9 (by omega)]
  rw [e4, e9]
  refine z_aload_n (pc := 16) dX0_keepResult_16 rfl (by first | rfl | exact z_isr_rf _) ?_
  refine z_aload_n (pc := 17) dX0_keepResult_17 rfl (by first | rfl | exact z_isr_rf _) ?_
  refine z_iload_n (pc := 18) dX0_keepResult_18 rfl ?_
  have heq2 : ∀ i, i < z_kn N g → (z_ar (z_mv I g) (I 7 g 0) (z_kn N g) I B 0).1 8 g i = nI (z_mv I g i) := fun i hi => by
    rw [z_ar_f (by decide) (by decide)]
    exact heq i hi
  refine z_callV (pc := 19) (mX0_dropBadLine (mv := z_mv I g) hC2 hS2 hn6 hlt hg heq2) dX0_keepResult_19 cwX0_34 okX0_dropBadLine rfl (hC2.k4) rfl rfl (by omega) rfl (Nat.le_of_ble_eq_true rfl) (by omega) (by omega) (fun _ _ h => h.elim) (fun v wN hN => ?_)
  obtain ⟨rfl, hf3, hC3⟩ := hN
  refine z_vret (pc := 22) dX0_keepResult_22 rfl (⟨rfl, hf.tr hf3, hS2, A2, hA2, hC3⟩)
theorem mX5_end (hC : z_C G F A I N O B w) (hS : z_S N O B) (hZ : z_Z I B) (hmv : ∀ g i, g < N 1 0 → i < N 5 g → z_rg (I 8 g i) 4) (x : Int32) : z_M G zX5_end 7 [.ref (A 0 0 0), .int x] w 24 84 (fun v w' => ∃ g, O 0 0 = some g ∧ z_rg x 3 ∧ z_fr F w w' ∧ v = some (.int (z_mk (nI (N 1 0) - 1) (I 8 g) (N 5 g) (z_kI (z_e2 I N g x) N B g) N 0 1 0).2.2) ∧ ∃ A', A' 0 0 0 = A 0 0 0 ∧ z_C G F A' (z_mk (nI (N 1 0) - 1) (I 8 g) (N 5 g) (z_kI (z_e2 I N g x) N B g) N 0 1 0).1 (z_mk (nI (N 1 0) - 1) (I 8 g) (N 5 g) (z_kI (z_e2 I N g x) N B g) N 0 1 0).2.1 (z_sO O 0 0 none) (z_k1 (z_e2 I N g x) N B g).2 w') (z_cx2 IAE (z_rg x 3) ISE (∃ g, O 0 0 = some g) w) := by
  refine z_M.of (by decide +kernel) rfl (by intro v hv; simp only [List.mem_cons, List.not_mem_nil, or_false] at hv; rcases hv with rfl | rfl <;> first | rfl | exact z_isr_cat (z_isr_rf _)) (Nat.le_of_ble_eq_true rfl) ?_
  show z_E _ zX5_end _ _ 0 [some (.ref (A 0 0 0)), some (.int x), none] [] _ _ _
  refine z_iload_n (pc := 0) dX5_end_0 rfl ?_
  refine z_if_lt (pc := 1) (tgt := 9) dX5_end_1 (by decide) (fun hc => ?_) (fun hc => ?_)
  · refine z_throw (pc := 9) rfl rfl th69 sr106 (by omega) (Nat.le_of_ble_eq_true rfl) (by omega) (by omega) dX5_end_9 dX5_end_12 dX5_end_13 dX5_end_15 dX5_end_18 (⟨rfl, Or.inl ⟨rfl, z_rg_lt (by decide) hc⟩⟩)
  · refine z_iload_n (pc := 4) dX5_end_4 rfl ?_
    refine z_iconst_2 (pc := 5) dX5_end_5 ?_
    refine z_icmp_le (pc := 6) (tgt := 19) dX5_end_6 (by decide) (fun hd => ?_) (fun hd => ?_)
    · have hx : z_rg x 3 := z_rg_in (by decide) hc (fun h => by
        have h1 : (3 : Int32) ≤ x := h
        exact absurd (Int32.le_trans h1 hd) (by decide))
      have k0 := hC.k0
      cases hO : O 0 0 with
      | none =>
        rw [hO] at k0
        refine z_aload_n (pc := 19) dX5_end_19 rfl (by first | rfl | exact z_isr_rf _) ?_
        refine gfX5_74 (pc := 20) rfl dX5_end_20 (k0) rfl ?_
        refine z_astore2 (pc := 23) dX5_end_23 (by first | rfl | exact z_isr_rf _) ?_
        refine z_aload_n (pc := 24) dX5_end_24 rfl (by first | rfl | exact z_isr_rf _) ?_
        refine z_ifnonnull (pc := 25) (tgt := 38) dX5_end_25 (by decide) (by first | rfl | exact z_isr_rf _) (fun _ hn => by cases hn) (fun _ => ?_)
        refine z_throw (pc := 28) rfl rfl th56 sr88 (by omega) (Nat.le_of_ble_eq_true rfl) (by omega) (by omega) dX5_end_28 dX5_end_31 dX5_end_32 dX5_end_34 dX5_end_37 (⟨rfl, Or.inr ⟨rfl, hx, fun ⟨g, q⟩ => by cases q⟩⟩)
      | some g =>
        rw [hO] at k0
        have hg1 : g < N 1 0 := by have := hS.2.2.2.2.2.2.2.1 g hO; omega
        have hg : g < N 7 0 := by have := hS.2.1; omega
        obtain ⟨hp, hq, h12⟩ := hS.2.2.2.2.2.2.1 g hg1
        rw [← hS.1] at hp hq
        have h8 : N 6 0 ≤ 8 := by rw [hS.1]; exact hS.2.2.2.1
        refine z_aload_n (pc := 19) dX5_end_19 rfl (by first | rfl | exact z_isr_rf _) ?_
        refine gfX5_74 (pc := 20) rfl dX5_end_20 (k0) rfl ?_
        refine z_astore2 (pc := 23) dX5_end_23 (by first | rfl | exact z_isr_rf _) ?_
        refine z_aload_n (pc := 24) dX5_end_24 rfl (by first | rfl | exact z_isr_rf _) ?_
        refine z_ifnonnull (pc := 25) (tgt := 38) dX5_end_25 (by decide) (by first | rfl | exact z_isr_rf _) (fun _ _ => ?_) (fun hn => by cases hn)
        refine z_aload_n (pc := 38) dX5_end_38 rfl (by first | rfl | exact z_isr_rf _) ?_
        refine z_iload_n (pc := 39) dX5_end_39 rfl ?_
        refine pfX5_108 (pc := 40) rfl dX5_end_40 (hC.k9 hg) (Nat.le_of_ble_eq_true rfl) ?_
        refine z_genC (hC.p7 hg x) (fun w2 hC2 hf2 => ?_)
        have k02 := hC2.k0
        refine z_aload_n (pc := 43) dX5_end_43 rfl (by first | rfl | exact z_isr_rf _) ?_
        refine z_null (pc := 44) dX5_end_44 ?_
        refine pfX5_74 (pc := 45) rfl dX5_end_45 (by first | rfl | exact z_isr_rf _) (k02) (Nat.le_of_ble_eq_true rfl) ?_
        refine z_genC (hC2.pO0 none) (fun w3 hC3 hf3 => ?_)
        refine z_aload_n (pc := 48) dX5_end_48 rfl (by first | rfl | exact z_isr_rf _) ?_
        refine gfX5_111 (pc := 49) rfl dX5_end_49 (hC3.k9 hg) rfl ?_
        refine z_aload_n (pc := 52) dX5_end_52 rfl (by first | rfl | exact z_isr_rf _) ?_
        refine gfX5_115 (pc := 53) rfl dX5_end_53 (hC3.k9 hg) rfl ?_
        refine z_iload_n (pc := 56) dX5_end_56 rfl ?_
        refine z_callV (pc := 57) (mX3_endGameAsWhite hC3 hp hq h8 (v := x)) dX5_end_57 cwX5_118 okX3_endGameAsWhite rfl (hC3.k5 hp) rfl rfl (by omega) rfl (Nat.le_of_ble_eq_true rfl) (by omega) (by omega) (fun _ _ h => h.elim) (fun v wN hN => ?_)
        obtain ⟨rfl, hC4, hf4⟩ := hN
        refine z_aload_n (pc := 60) dX5_end_60 rfl (by first | rfl | exact z_isr_rf _) ?_
        refine gfX5_115 (pc := 61) rfl dX5_end_61 (hC4.k9 hg) rfl ?_
        refine z_aload_n (pc := 64) dX5_end_64 rfl (by first | rfl | exact z_isr_rf _) ?_
        refine gfX5_111 (pc := 65) rfl dX5_end_65 (hC4.k9 hg) rfl ?_
        refine z_iconst_2 (pc := 68) dX5_end_68 ?_
        refine z_iload_n (pc := 69) dX5_end_69 rfl ?_
        refine z_isub (pc := 70) dX5_end_70 ?_
        refine z_callV (pc := 71) (mX3_endGameAsBlack hC4 hq hp h8 (v := 2 - x)) dX5_end_71 cwX5_122 okX3_endGameAsBlack rfl (hC4.k5 hq) rfl rfl (by omega) rfl (Nat.le_of_ble_eq_true rfl) (by omega) (by omega) (fun _ _ h => h.elim) (fun v wN hN => ?_)
        obtain ⟨rfl, hC5, hf5⟩ := hN
        have hC5 : z_C G F A (z_e2 I N g x) N (z_sO O 0 0 none) B _ := hC5
        refine z_aload_n (pc := 74) dX5_end_74 rfl (by first | rfl | exact z_isr_rf _) ?_
        refine gfX5_30 (pc := 75) rfl dX5_end_75 (hC5.k0) rfl ?_
        refine z_aload_n (pc := 78) dX5_end_78 rfl (by first | rfl | exact z_isr_rf _) ?_
        have hZ5 : z_Z (z_e2 I N g x) B := fun i j h => hZ i j h
        refine z_callV (pc := 79) (mX0_keepResult hC5 hS.setO hZ5 hg (fun i hi => hmv g i hg1 hi)) dX5_end_79 cwX5_125 okX0_keepResult rfl (hC5.k4) rfl rfl (by omega) rfl (Nat.le_of_ble_eq_true rfl) (by omega) (by omega) (fun _ _ h => h.elim) (fun v wN hN => ?_)
        obtain ⟨rfl, hf6, hS6, A6, hA6, hC6⟩ := hN
        have e0 : A 0 0 0 = A6 0 0 0 := by rw [hA6 0 (by omega)]
        have e9 : A 9 g 0 = A6 9 g 0 := by rw [hA6 9 (by omega)]
        show z_E G zX5_end 7 _ _ [some (.ref (A 0 0 0)), some (.int x), some (.ref (A 9 g 0))] _ wN _ _
        rw [e0, e9]
        refine z_aload_n (pc := 82) dX5_end_82 rfl (by first | rfl | exact z_isr_rf _) ?_
        refine z_aload_n (pc := 83) dX5_end_83 rfl (by first | rfl | exact z_isr_rf _) ?_
        refine z_aload_n (pc := 84) dX5_end_84 rfl (by first | rfl | exact z_isr_rf _) ?_
        refine gfX5_80 (pc := 85) rfl dX5_end_85 (hC6.k0) rfl ?_
        refine z_iconst_1 (pc := 88) dX5_end_88 ?_
        refine z_isub (pc := 89) dX5_end_89 ?_
        refine z_callV (pc := 90) (mX5_makePuzzles hC6 hS6 (nI (N 1 0) - 1) hg) dX5_end_90 cwX5_129 okX5_makePuzzles rfl (hC6.k0) rfl rfl (by omega) rfl (Nat.le_of_ble_eq_true rfl) (by omega) (by omega) (fun _ _ h => h.elim) (fun v wN hN => ?_)
        obtain ⟨rfl, hf7, A7, hA7, hC7⟩ := hN
        have e8 : z_kI (z_e2 I N g x) N B g 8 g = I 8 g := by
          unfold z_kI z_k1
          rw [z_db_f (by decide), z_ar_f (by decide) (by decide)]
          rfl
        rw [e8] at hC7 ⊢
        refine z_iret (pc := 93) dX5_end_93 rfl (⟨g, rfl, hx, (hf2.tr hf3).tr ((hf4.tr hf5).tr (hf6.tr hf7)), rfl, A7, by rw [hA7 0 (by decide)], hC7⟩)
    · refine z_throw (pc := 9) rfl rfl th69 sr106 (by omega) (Nat.le_of_ble_eq_true rfl) (by omega) (by omega) dX5_end_9 dX5_end_12 dX5_end_13 dX5_end_15 dX5_end_18 (⟨rfl, Or.inl ⟨rfl, fun ⟨j, h1, h2⟩ => hd (by rw [h2]; exact nI_le (a := j) (b := 2) (by omega) (by decide))⟩⟩)
end EN

