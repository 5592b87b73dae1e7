/-! the player's methods -/
def rb (r s : Int32) : Int32 :=
  let e := if (0 : Int32) < r - 1000 then r - 1000 else 0
  let c := if s = 0 then (-16) else 32 - e / 50
  let m := if (100 : Int32) < r + c then r + c else 100
  if m < 3000 then m else 3000
section PL
variable {G : z_G} {F : Nat → Prop} {A : Nat → Nat → Nat → Nat} {I : z_TI} {N : z_TN} {O : z_TO} {B : z_TB} {w : z_W}
theorem mX3_colourBalance (hC : z_C G F A I N O B w) {p : Nat} (hp : p < N 6 0) : z_M G zX3_colourBalance 0 [.ref (A 5 p 0)] w 0 0 (z_rp (.int (I 0 p 0 - I 1 p 0)) w) z_nx := by
  refine z_M.of (by decide +kernel) rfl (by intro v hv; simp only [List.mem_cons, List.not_mem_nil, or_false] at hv; rcases hv with rfl <;> first | rfl | exact z_isr_cat (z_isr_rf _)) (Nat.le_of_ble_eq_true rfl) ?_
  show z_E _ zX3_colourBalance _ _ 0 [some (.ref (A 5 p 0))] [] _ _ _
  refine z_aload_n (pc := 0) dX3_colourBalance_0 rfl (by first | rfl | exact z_isr_rf _) ?_
  refine gfX3_26 (pc := 1) rfl dX3_colourBalance_1 (hC.k5 hp) rfl ?_
  refine z_aload_n (pc := 4) dX3_colourBalance_4 rfl (by first | rfl | exact z_isr_rf _) ?_
  refine gfX3_33 (pc := 5) rfl dX3_colourBalance_5 (hC.k5 hp) rfl ?_
  refine z_isub (pc := 8) dX3_colourBalance_8 ?_
  refine z_iret (pc := 9) dX3_colourBalance_9 rfl (⟨rfl, rfl⟩)
theorem mX3_hasMet (hC : z_C G F A I N O B w) {p q : Nat} (hp : p < N 6 0) (hq : q < N 6 0) (h8 : N 6 0 ≤ 8) : z_M G zX3_hasMet 0 [.ref (A 5 p 0), .ref (A 5 q 0)] w 0 0 (z_rp (.int (if I 5 p q = 0 then 0 else 1)) w) z_nx := by
  refine z_M.of (by decide +kernel) rfl (by intro v hv; simp only [List.mem_cons, List.not_mem_nil, or_false] at hv; rcases hv with rfl | rfl <;> first | rfl | exact z_isr_cat (z_isr_rf _)) (Nat.le_of_ble_eq_true rfl) ?_
  show z_E _ zX3_hasMet _ _ 0 [some (.ref (A 5 p 0)), some (.ref (A 5 q 0))] [] _ _ _
  have hq3 : q < 2 ^ 31 := by omega
  refine z_aload_n (pc := 0) dX3_hasMet_0 rfl (by first | rfl | exact z_isr_rf _) ?_
  refine gfX3_22 (pc := 1) rfl dX3_hasMet_1 (hC.k5 hq) rfl ?_
  refine z_if_lt (pc := 4) (tgt := 35) dX3_hasMet_4 (by decide) (fun hn => absurd hn (nI_pos hq3)) (fun _ => ?_)
  refine z_aload_n (pc := 7) dX3_hasMet_7 rfl (by first | rfl | exact z_isr_rf _) ?_
  refine gfX3_22 (pc := 8) rfl dX3_hasMet_8 (hC.k5 hq) rfl ?_
  refine z_aload_n (pc := 11) dX3_hasMet_11 rfl (by first | rfl | exact z_isr_rf _) ?_
  refine gfX3_19 (pc := 12) rfl dX3_hasMet_12 (hC.k5 hp) rfl ?_
  refine z_alen (pc := 15) dX3_hasMet_15 (hC.k8 hp) rfl rfl ?_
  refine z_icmp_ge (pc := 16) (tgt := 35) dX3_hasMet_16 (by decide) (fun hn => absurd hn (nI_ge (by omega) (by omega))) (fun _ => ?_)
  refine z_aload_n (pc := 19) dX3_hasMet_19 rfl (by first | rfl | exact z_isr_rf _) ?_
  refine gfX3_19 (pc := 20) rfl dX3_hasMet_20 (hC.k5 hp) rfl ?_
  refine z_aload_n (pc := 23) dX3_hasMet_23 rfl (by first | rfl | exact z_isr_rf _) ?_
  refine gfX3_22 (pc := 24) rfl dX3_hasMet_24 (hC.k5 hq) rfl ?_
  refine z_zald (pc := 27) dX3_hasMet_27 (hC.k8 hp) (vp_in_nI (by omega) (by omega)) ?_
  rw [nI_clamp hq3]
  refine z_if_eq (pc := 28) (tgt := 35) dX3_hasMet_28 (by decide) (fun hc => ?_) (fun hc => ?_)
  · refine z_iconst_0 (pc := 35) dX3_hasMet_35 ?_
    refine z_zret (pc := 36) dX3_hasMet_36 rfl (Or.inl rfl ) ( ⟨by rw [if_pos hc], rfl⟩)
  · refine z_iconst_1 (pc := 31) dX3_hasMet_31 ?_
    refine z_goto (pc := 32) (tgt := 36) dX3_hasMet_32 (by decide) ?_
    refine z_zret (pc := 36) dX3_hasMet_36 rfl (Or.inr rfl ) ( ⟨by rw [if_neg hc], rfl⟩)
/-- who stands ahead: a higher score, or the same and a lower number; everyone ahead of nobody -/
def ah (I : z_TI) (p : Nat) (q : Option Nat) : Prop := match q with
  | none => True
  | some q => I 2 q 0 < I 2 p 0 ∨ (I 2 p 0 = I 2 q 0 ∧ p < q)
theorem mX3_standsAheadOf (hC : z_C G F A I N O B w) {p : Nat} {q : Option Nat} (hp : p < N 6 0) (hq : ∀ q', q = some q' → q' < N 6 0) (h8 : N 6 0 ≤ 8) [Decidable (ah I p q)] : z_M G zX3_standsAheadOf 0 [.ref (A 5 p 0), va_rf (q.map (fun p => A 5 p 0))] w 0 0 (z_rp (.int (if ah I p q then 1 else 0)) w) z_nx := by
  cases q with
  | none =>
    rw [if_pos (show ah I p none from trivial)]
    show z_M G zX3_standsAheadOf 0 [.ref (A 5 p 0), .null] w 0 0 _ z_nx
    refine z_M.of (by decide +kernel) rfl (by intro v hv; simp only [List.mem_cons, List.not_mem_nil, or_false] at hv; rcases hv with rfl | rfl <;> first | rfl | exact z_isr_cat (z_isr_rf _)) (Nat.le_of_ble_eq_true rfl) ?_
    show z_E _ zX3_standsAheadOf _ _ 0 [some (.ref (A 5 p 0)), some (.null)] [] _ _ _
    refine z_aload_n (pc := 0) dX3_standsAheadOf_0 rfl (by first | rfl | exact z_isr_rf _) ?_
    refine z_ifnull (pc := 1) (tgt := 15) dX3_standsAheadOf_1 (by decide) (by first | rfl | exact z_isr_rf _) (fun _ => ?_) (fun _ hn => by cases hn)
    refine z_iconst_1 (pc := 15) dX3_standsAheadOf_15 ?_
    refine z_zret (pc := 16) dX3_standsAheadOf_16 rfl (Or.inr rfl ) ( ⟨rfl, rfl⟩)
  | some q =>
    have hq := hq q rfl
    show z_M G zX3_standsAheadOf 0 [.ref (A 5 p 0), .ref (A 5 q 0)] w 0 0 _ z_nx
    refine z_M.of (by decide +kernel) rfl (by intro v hv; simp only [List.mem_cons, List.not_mem_nil, or_false] at hv; rcases hv with rfl | rfl <;> first | rfl | exact z_isr_cat (z_isr_rf _)) (Nat.le_of_ble_eq_true rfl) ?_
    show z_E _ zX3_standsAheadOf _ _ 0 [some (.ref (A 5 p 0)), some (.ref (A 5 q 0))] [] _ _ _
    refine z_aload_n (pc := 0) dX3_standsAheadOf_0 rfl (by first | rfl | exact z_isr_rf _) ?_
    refine z_ifnull (pc := 1) (tgt := 15) dX3_standsAheadOf_1 (by decide) (by first | rfl | exact z_isr_rf _) (fun hn => by cases hn) (fun _ _ => ?_)
    refine z_aload_n (pc := 4) dX3_standsAheadOf_4 rfl (by first | rfl | exact z_isr_rf _) ?_
    refine gfX3_36 (pc := 5) rfl dX3_standsAheadOf_5 (hC.k5 hp) rfl ?_
    refine z_aload_n (pc := 8) dX3_standsAheadOf_8 rfl (by first | rfl | exact z_isr_rf _) ?_
    refine gfX3_36 (pc := 9) rfl dX3_standsAheadOf_9 (hC.k5 hq) rfl ?_
    refine z_icmp_le (pc := 12) (tgt := 17) dX3_standsAheadOf_12 (by decide) (fun hc => ?_) (fun hc => ?_)
    · refine z_aload_n (pc := 17) dX3_standsAheadOf_17 rfl (by first | rfl | exact z_isr_rf _) ?_
      refine gfX3_36 (pc := 18) rfl dX3_standsAheadOf_18 (hC.k5 hp) rfl ?_
      refine z_aload_n (pc := 21) dX3_standsAheadOf_21 rfl (by first | rfl | exact z_isr_rf _) ?_
      refine gfX3_36 (pc := 22) rfl dX3_standsAheadOf_22 (hC.k5 hq) rfl ?_
      refine z_icmp_ne (pc := 25) (tgt := 43) dX3_standsAheadOf_25 (by decide) (fun hd1 => ?_) (fun hd1 => ?_)
      · refine z_iconst_0 (pc := 43) dX3_standsAheadOf_43 ?_
        refine z_zret (pc := 44) dX3_standsAheadOf_44 rfl (Or.inl rfl ) ( ⟨by rw [if_neg]; rintro (h | h); exact Int32.not_lt.mpr hc h; exact hd1 h.1, rfl⟩)
      · refine z_aload_n (pc := 28) dX3_standsAheadOf_28 rfl (by first | rfl | exact z_isr_rf _) ?_
        refine gfX3_22 (pc := 29) rfl dX3_standsAheadOf_29 (hC.k5 hp) rfl ?_
        refine z_aload_n (pc := 32) dX3_standsAheadOf_32 rfl (by first | rfl | exact z_isr_rf _) ?_
        refine gfX3_22 (pc := 33) rfl dX3_standsAheadOf_33 (hC.k5 hq) rfl ?_
        refine z_icmp_ge (pc := 36) (tgt := 43) dX3_standsAheadOf_36 (by decide) (fun hd => ?_) (fun hd => ?_)
        · refine z_iconst_0 (pc := 43) dX3_standsAheadOf_43 ?_
          refine z_zret (pc := 44) dX3_standsAheadOf_44 rfl (Or.inl rfl ) ( ⟨by rw [if_neg]; rintro (h | h); exact Int32.not_lt.mpr hc h; exact Nat.not_lt.mpr ((nI_leI (by omega) (by omega)).mp hd) h.2, rfl⟩)
        · refine z_iconst_1 (pc := 39) dX3_standsAheadOf_39 ?_
          refine z_goto (pc := 40) (tgt := 44) dX3_standsAheadOf_40 (by decide) ?_
          refine z_zret (pc := 44) dX3_standsAheadOf_44 rfl (Or.inr rfl ) ( ⟨by rw [if_pos]; refine Or.inr ⟨hd1, ?_⟩; rw [nI_leI (by omega) (by omega)] at hd; omega, rfl⟩)
    · refine z_iconst_1 (pc := 15) dX3_standsAheadOf_15 ?_
      refine z_zret (pc := 16) dX3_standsAheadOf_16 rfl (Or.inr rfl ) ( ⟨by rw [if_pos]; exact Or.inl (Int32.not_le.mp hc), rfl⟩)
theorem mX3_hasTried (hC : z_C G F A I N O B w) {p z : Nat} (hp : p < N 6 0) (hz : z < 40) : z_M G zX3_hasTried 0 [.ref (A 5 p 0), .int (nI z)] w 0 0 (z_rp (.int (if I 4 p z = 0 then 0 else 1)) w) z_nx := by
  refine z_M.of (by decide +kernel) rfl (by intro v hv; simp only [List.mem_cons, List.not_mem_nil, or_false] at hv; rcases hv with rfl | rfl <;> first | rfl | exact z_isr_cat (z_isr_rf _)) (Nat.le_of_ble_eq_true rfl) ?_
  show z_E _ zX3_hasTried _ _ 0 [some (.ref (A 5 p 0)), some (.int (nI z))] [] _ _ _
  have hz3 : z < 2 ^ 31 := by omega
  refine z_iload_n (pc := 0) dX3_hasTried_0 rfl ?_
  refine z_if_lt (pc := 1) (tgt := 26) dX3_hasTried_1 (by decide) (fun hn => absurd hn (nI_pos hz3)) (fun _ => ?_)
  refine z_iload_n (pc := 4) dX3_hasTried_4 rfl ?_
  refine z_aload_n (pc := 5) dX3_hasTried_5 rfl (by first | rfl | exact z_isr_rf _) ?_
  refine gfX3_15 (pc := 6) rfl dX3_hasTried_6 (hC.k5 hp) rfl ?_
  refine z_alen (pc := 9) dX3_hasTried_9 (hC.k7 hp) rfl rfl ?_
  refine z_icmp_ge (pc := 10) (tgt := 26) dX3_hasTried_10 (by decide) (fun hn => absurd hn (nI_ge hz (by omega))) (fun _ => ?_)
  refine z_aload_n (pc := 13) dX3_hasTried_13 rfl (by first | rfl | exact z_isr_rf _) ?_
  refine gfX3_15 (pc := 14) rfl dX3_hasTried_14 (hC.k5 hp) rfl ?_
  refine z_iload_n (pc := 17) dX3_hasTried_17 rfl ?_
  refine z_zald (pc := 18) dX3_hasTried_18 (hC.k7 hp) (vp_in_nI hz (by omega)) ?_
  rw [nI_clamp hz3]
  refine z_if_eq (pc := 19) (tgt := 26) dX3_hasTried_19 (by decide) (fun hc => ?_) (fun hc => ?_)
  · refine z_iconst_0 (pc := 26) dX3_hasTried_26 ?_
    refine z_zret (pc := 27) dX3_hasTried_27 rfl (Or.inl rfl ) ( ⟨by rw [if_pos hc], rfl⟩)
  · refine z_iconst_1 (pc := 22) dX3_hasTried_22 ?_
    refine z_goto (pc := 23) (tgt := 27) dX3_hasTried_23 (by decide) ?_
    refine z_zret (pc := 27) dX3_hasTried_27 rfl (Or.inr rfl ) ( ⟨by rw [if_neg hc], rfl⟩)
theorem mX3_markTried (hC : z_C G F A I N O B w) {p z : Nat} (hp : p < N 6 0) (hz : z < 40) : z_M G zX3_markTried 0 [.ref (A 5 p 0), .int (nI z)] w 0 0 (z_st G F A (z_sI I 4 p z 1) N O B w none) z_nx := by
  refine z_M.of (by decide +kernel) rfl (by intro v hv; simp only [List.mem_cons, List.not_mem_nil, or_false] at hv; rcases hv with rfl | rfl <;> first | rfl | exact z_isr_cat (z_isr_rf _)) (Nat.le_of_ble_eq_true rfl) ?_
  show z_E _ zX3_markTried _ _ 0 [some (.ref (A 5 p 0)), some (.int (nI z))] [] _ _ _
  have hz3 : z < 2 ^ 31 := by omega
  refine z_iload_n (pc := 0) dX3_markTried_0 rfl ?_
  refine z_if_lt (pc := 1) (tgt := 20) dX3_markTried_1 (by decide) (fun hn => absurd hn (nI_pos hz3)) (fun _ => ?_)
  refine z_iload_n (pc := 4) dX3_markTried_4 rfl ?_
  refine z_aload_n (pc := 5) dX3_markTried_5 rfl (by first | rfl | exact z_isr_rf _) ?_
  refine gfX3_15 (pc := 6) rfl dX3_markTried_6 (hC.k5 hp) rfl ?_
  refine z_alen (pc := 9) dX3_markTried_9 (hC.k7 hp) rfl rfl ?_
  refine z_icmp_ge (pc := 10) (tgt := 20) dX3_markTried_10 (by decide) (fun hn => absurd hn (nI_ge hz (by omega))) (fun _ => ?_)
  refine z_aload_n (pc := 13) dX3_markTried_13 rfl (by first | rfl | exact z_isr_rf _) ?_
  refine gfX3_15 (pc := 14) rfl dX3_markTried_14 (hC.k5 hp) rfl ?_
  refine z_iload_n (pc := 17) dX3_markTried_17 rfl ?_
  refine z_iconst_1 (pc := 18) dX3_markTried_18 ?_
  refine z_zast (pc := 19) dX3_markTried_19 (hC.k7 hp) (vp_in_nI hz (by omega)) ?_
  rw [nI_clamp hz3]
  refine z_genC (hC.p4 hp z 1) (fun w2 hC2 hf2 => ?_)
  refine z_vret (pc := 20) dX3_markTried_20 rfl (⟨rfl, hC2, hf2⟩)
theorem mX3_ratingIn (hC : z_C G F A I N O B w) {p t : Nat} (hp : p < N 6 0) (ht : t < 5) : z_M G zX3_ratingIn 0 [.ref (A 5 p 0), .int (nI t)] w 0 0 (z_rp (.int (I 3 p t)) w) z_nx := by
  refine z_M.of (by decide +kernel) rfl (by intro v hv; simp only [List.mem_cons, List.not_mem_nil, or_false] at hv; rcases hv with rfl | rfl <;> first | rfl | exact z_isr_cat (z_isr_rf _)) (Nat.le_of_ble_eq_true rfl) ?_
  show z_E _ zX3_ratingIn _ _ 0 [some (.ref (A 5 p 0)), some (.int (nI t))] [] _ _ _
  have ht3 : t < 2 ^ 31 := by omega
  refine z_iload_n (pc := 0) dX3_ratingIn_0 rfl ?_
  refine z_if_lt (pc := 1) (tgt := 22) dX3_ratingIn_1 (by decide) (fun hn => absurd hn (nI_pos ht3)) (fun _ => ?_)
  refine z_iload_n (pc := 4) dX3_ratingIn_4 rfl ?_
  refine z_aload_n (pc := 5) dX3_ratingIn_5 rfl (by first | rfl | exact z_isr_rf _) ?_
  refine gfX3_9 (pc := 6) rfl dX3_ratingIn_6 (hC.k5 hp) rfl ?_
  refine z_alen (pc := 9) dX3_ratingIn_9 (hC.k6 hp) rfl rfl ?_
  refine z_icmp_ge (pc := 10) (tgt := 22) dX3_ratingIn_10 (by decide) (fun hn => absurd hn (nI_ge ht (by omega))) (fun _ => ?_)
  refine z_aload_n (pc := 13) dX3_ratingIn_13 rfl (by first | rfl | exact z_isr_rf _) ?_
  refine gfX3_9 (pc := 14) rfl dX3_ratingIn_14 (hC.k5 hp) rfl ?_
  refine z_iload_n (pc := 17) dX3_ratingIn_17 rfl ?_
  refine z_iald (pc := 18) dX3_ratingIn_18 (hC.k6 hp) (vp_in_nI ht (by omega)) ?_
  refine z_goto (pc := 19) (tgt := 25) dX3_ratingIn_19 (by decide) ?_
  refine z_iret (pc := 25) dX3_ratingIn_25 rfl (⟨by rw [nI_clamp ht3], rfl⟩)
def nm (I : z_TI) (p t u : Nat) : Prop := I 3 p t < I 3 p u ∨ (I 3 p t = I 3 p u ∧ t < u)
theorem mX3_needsMore (hC : z_C G F A I N O B w) {p t u : Nat} (hp : p < N 6 0) (ht : t < 5) (hu : u < 5) [Decidable (nm I p t u)] : z_M G zX3_needsMore 1 [.ref (A 5 p 0), .int (nI t), .int (nI u)] w 0 0 (z_rp (.int (if nm I p t u then 1 else 0)) w) z_nx := by
  refine z_M.of (by decide +kernel) rfl (by intro v hv; simp only [List.mem_cons, List.not_mem_nil, or_false] at hv; rcases hv with rfl | rfl | rfl <;> first | rfl | exact z_isr_cat (z_isr_rf _)) (Nat.le_of_ble_eq_true rfl) ?_
  show z_E _ zX3_needsMore _ _ 0 [some (.ref (A 5 p 0)), some (.int (nI t)), some (.int (nI u)), none, none] [] _ _ _
  refine z_aload_n (pc := 0) dX3_needsMore_0 rfl (by first | rfl | exact z_isr_rf _) ?_
  refine z_iload_n (pc := 1) dX3_needsMore_1 rfl ?_
  refine z_callVp (pc := 2) (mX3_ratingIn hC hp ht) dX3_needsMore_2 cwX3_39 okX3_ratingIn rfl (hC.k5 hp) rfl rfl (by omega) rfl (Nat.le_of_ble_eq_true rfl) ?_
  refine z_istore3 (pc := 5) dX3_needsMore_5 ?_
  refine z_aload_n (pc := 6) dX3_needsMore_6 rfl (by first | rfl | exact z_isr_rf _) ?_
  refine z_iload_n (pc := 7) dX3_needsMore_7 rfl ?_
  refine z_callVp (pc := 8) (mX3_ratingIn hC hp hu) dX3_needsMore_8 cwX3_39 okX3_ratingIn rfl (hC.k5 hp) rfl rfl (by omega) rfl (Nat.le_of_ble_eq_true rfl) ?_
  refine z_istore4 (pc := 11) dX3_needsMore_11 ?_
  refine z_iload_n (pc := 13) dX3_needsMore_13 rfl ?_
  refine z_iload (pc := 14) dX3_needsMore_14 rfl ?_
  refine z_icmp_lt (pc := 16) (tgt := 30) dX3_needsMore_16 (by decide) (fun hc => ?_) (fun hc => ?_)
  · refine z_iconst_1 (pc := 30) dX3_needsMore_30 ?_
    refine z_goto (pc := 31) (tgt := 35) dX3_needsMore_31 (by decide) ?_
    refine z_zret (pc := 35) dX3_needsMore_35 rfl (Or.inr rfl ) ( ⟨by rw [if_pos]; exact Or.inl hc, rfl⟩)
  · refine z_iload_n (pc := 19) dX3_needsMore_19 rfl ?_
    refine z_iload (pc := 20) dX3_needsMore_20 rfl ?_
    refine z_icmp_ne (pc := 22) (tgt := 34) dX3_needsMore_22 (by decide) (fun hd => ?_) (fun hd => ?_)
    · refine z_iconst_0 (pc := 34) dX3_needsMore_34 ?_
      refine z_zret (pc := 35) dX3_needsMore_35 rfl (Or.inl rfl ) ( ⟨by rw [if_neg]; rintro (h | h); exact hc h; exact hd h.1, rfl⟩)
    · refine z_iload_n (pc := 25) dX3_needsMore_25 rfl ?_
      refine z_iload_n (pc := 26) dX3_needsMore_26 rfl ?_
      refine z_icmp_ge (pc := 27) (tgt := 34) dX3_needsMore_27 (by decide) (fun he => ?_) (fun he => ?_)
      · refine z_iconst_0 (pc := 34) dX3_needsMore_34 ?_
        refine z_zret (pc := 35) dX3_needsMore_35 rfl (Or.inl rfl ) ( ⟨by rw [if_neg]; rintro (h | h); exact hc h; exact Nat.not_lt.mpr ((nI_leI (by omega) (by omega)).mp he) h.2, rfl⟩)
      · refine z_iconst_1 (pc := 30) dX3_needsMore_30 ?_
        refine z_goto (pc := 31) (tgt := 35) dX3_needsMore_31 (by decide) ?_
        refine z_zret (pc := 35) dX3_needsMore_35 rfl (Or.inr rfl ) ( ⟨by rw [if_pos]; refine Or.inr ⟨hd, ?_⟩; rw [nI_leI (by omega) (by omega)] at he; omega, rfl⟩)
theorem mX3_ratingBehindTry (r s : Int32) : z_M G zX3_ratingBehindTry 1 [.int r, .int s] w 0 0 (z_rp (.int (rb r s)) w) z_nx := by
  refine z_M.of (by decide +kernel) rfl (by intro v hv; simp only [List.mem_cons, List.not_mem_nil, or_false] at hv; rcases hv with rfl | rfl <;> first | rfl | exact z_isr_cat (z_isr_rf _)) (Nat.le_of_ble_eq_true rfl) ?_
  show z_E _ zX3_ratingBehindTry _ _ 0 [some (.int r), some (.int s), none, none] [] _ _ _
  refine z_iconst_0 (pc := 0) dX3_ratingBehindTry_0 ?_
  refine z_iload_n (pc := 1) dX3_ratingBehindTry_1 rfl ?_
  refine z_sipush_1000 (pc := 2) dX3_ratingBehindTry_2 ?_
  refine z_isub (pc := 5) dX3_ratingBehindTry_5 ?_
  refine mmX3_47 (pc := 6) rfl dX3_ratingBehindTry_6 (by omega) (Nat.le_of_ble_eq_true rfl) ?_
  refine z_istore2 (pc := 9) dX3_ratingBehindTry_9 ?_
  refine z_iload_n (pc := 10) dX3_ratingBehindTry_10 rfl ?_
  refine z_if_eq (pc := 11) (tgt := 24) dX3_ratingBehindTry_11 (by decide) (fun hc => ?_) (fun hc => ?_)
  · refine z_bipush_m16 (pc := 24) dX3_ratingBehindTry_24 ?_
    refine z_istore3 (pc := 26) dX3_ratingBehindTry_26 ?_
    refine z_sipush_3000 (pc := 27) dX3_ratingBehindTry_27 ?_
    refine z_bipush_100 (pc := 30) dX3_ratingBehindTry_30 ?_
    refine z_iload_n (pc := 32) dX3_ratingBehindTry_32 rfl ?_
    refine z_iload_n (pc := 33) dX3_ratingBehindTry_33 rfl ?_
    refine z_iadd (pc := 34) dX3_ratingBehindTry_34 ?_
    refine mmX3_47 (pc := 35) rfl dX3_ratingBehindTry_35 (by omega) (Nat.le_of_ble_eq_true rfl) ?_
    refine mmX3_53 (pc := 38) rfl dX3_ratingBehindTry_38 (by omega) (Nat.le_of_ble_eq_true rfl) ?_
    refine z_iret (pc := 41) dX3_ratingBehindTry_41 rfl (⟨by simp only [rb, if_pos hc], rfl⟩)
  · refine z_bipush_32 (pc := 14) dX3_ratingBehindTry_14 ?_
    refine z_iload_n (pc := 16) dX3_ratingBehindTry_16 rfl ?_
    refine z_bipush_50 (pc := 17) dX3_ratingBehindTry_17 ?_
    refine z_idiv (pc := 19) dX3_ratingBehindTry_19 (by decide) ?_
    refine z_isub (pc := 20) dX3_ratingBehindTry_20 ?_
    refine z_goto (pc := 21) (tgt := 26) dX3_ratingBehindTry_21 (by decide) ?_
    refine z_istore3 (pc := 26) dX3_ratingBehindTry_26 ?_
    refine z_sipush_3000 (pc := 27) dX3_ratingBehindTry_27 ?_
    refine z_bipush_100 (pc := 30) dX3_ratingBehindTry_30 ?_
    refine z_iload_n (pc := 32) dX3_ratingBehindTry_32 rfl ?_
    refine z_iload_n (pc := 33) dX3_ratingBehindTry_33 rfl ?_
    refine z_iadd (pc := 34) dX3_ratingBehindTry_34 ?_
    refine mmX3_47 (pc := 35) rfl dX3_ratingBehindTry_35 (by omega) (Nat.le_of_ble_eq_true rfl) ?_
    refine mmX3_53 (pc := 38) rfl dX3_ratingBehindTry_38 (by omega) (Nat.le_of_ble_eq_true rfl) ?_
    refine z_iret (pc := 41) dX3_ratingBehindTry_41 rfl (⟨by simp only [rb, if_neg hc], rfl⟩)
theorem mX3_changeRating (hC : z_C G F A I N O B w) {p t : Nat} {s : Int32} (hp : p < N 6 0) (ht : t < 5) : z_M G zX3_changeRating 2 [.ref (A 5 p 0), .int (nI t), .int s] w 0 0 (z_st G F A (z_sI I 3 p t (rb (I 3 p t) s)) N O B w none) z_nx := by
  refine z_M.of (by decide +kernel) rfl (by intro v hv; simp only [List.mem_cons, List.not_mem_nil, or_false] at hv; rcases hv with rfl | rfl | rfl <;> first | rfl | exact z_isr_cat (z_isr_rf _)) (Nat.le_of_ble_eq_true rfl) ?_
  show z_E _ zX3_changeRating _ _ 0 [some (.ref (A 5 p 0)), some (.int (nI t)), some (.int s)] [] _ _ _
  have ht3 : t < 2 ^ 31 := by omega
  refine z_iload_n (pc := 0) dX3_changeRating_0 rfl ?_
  refine z_if_lt (pc := 1) (tgt := 29) dX3_changeRating_1 (by decide) (fun hn => absurd hn (nI_pos ht3)) (fun _ => ?_)
  refine z_iload_n (pc := 4) dX3_changeRating_4 rfl ?_
  refine z_aload_n (pc := 5) dX3_changeRating_5 rfl (by first | rfl | exact z_isr_rf _) ?_
  refine gfX3_9 (pc := 6) rfl dX3_changeRating_6 (hC.k5 hp) rfl ?_
  refine z_alen (pc := 9) dX3_changeRating_9 (hC.k6 hp) rfl rfl ?_
  refine z_icmp_ge (pc := 10) (tgt := 29) dX3_changeRating_10 (by decide) (fun hn => absurd hn (nI_ge ht (by omega))) (fun _ => ?_)
  refine z_aload_n (pc := 13) dX3_changeRating_13 rfl (by first | rfl | exact z_isr_rf _) ?_
  refine gfX3_9 (pc := 14) rfl dX3_changeRating_14 (hC.k5 hp) rfl ?_
  refine z_iload_n (pc := 17) dX3_changeRating_17 rfl ?_
  refine z_aload_n (pc := 18) dX3_changeRating_18 rfl (by first | rfl | exact z_isr_rf _) ?_
  refine gfX3_9 (pc := 19) rfl dX3_changeRating_19 (hC.k5 hp) rfl ?_
  refine z_iload_n (pc := 22) dX3_changeRating_22 rfl ?_
  refine z_iald (pc := 23) dX3_changeRating_23 (hC.k6 hp) (vp_in_nI ht (by omega)) ?_
  refine z_iload_n (pc := 24) dX3_changeRating_24 rfl ?_
  rw [nI_clamp ht3]
  refine z_callSp (pc := 25) (mX3_ratingBehindTry (I 3 p t) s) dX3_changeRating_25 cwX3_43 okX3_ratingBehindTry rfl (by omega) rfl (Nat.le_of_ble_eq_true rfl) ?_
  refine z_iast (pc := 28) dX3_changeRating_28 (hC.k6 hp) (vp_in_nI ht (by omega)) ?_
  rw [nI_clamp ht3]
  refine z_genC (hC.p3 hp t _) (fun w2 hC2 hf2 => ?_)
  refine z_vret (pc := 29) dX3_changeRating_29 rfl (⟨rfl, hC2, hf2⟩)
/-- a game's end for a player p against q -/
def eg (I : z_TI) (p q : Nat) (v : Int32) : z_TI := z_sI (z_sI I 2 p 0 (I 2 p 0 + v)) 5 p q 1
theorem mX3_endGame (hC : z_C G F A I N O B w) {p q : Nat} {v : Int32} (hp : p < N 6 0) (hq : q < N 6 0) (h8 : N 6 0 ≤ 8) : z_M G zX3_endGame 0 [.ref (A 5 p 0), .ref (A 5 q 0), .int v] w 0 0 (z_st G F A (eg I p q v) N O B w none) z_nx := by
  refine z_M.of (by decide +kernel) rfl (by intro v hv; simp only [List.mem_cons, List.not_mem_nil, or_false] at hv; rcases hv with rfl | rfl | rfl <;> first | rfl | exact z_isr_cat (z_isr_rf _)) (Nat.le_of_ble_eq_true rfl) ?_
  show z_E _ zX3_endGame _ _ 0 [some (.ref (A 5 p 0)), some (.ref (A 5 q 0)), some (.int v)] [] _ _ _
  have hq3 : q < 2 ^ 31 := by omega
  refine z_aload_n (pc := 0) dX3_endGame_0 rfl (by first | rfl | exact z_isr_rf _) ?_
  refine z_dup (pc := 1) dX3_endGame_1 (by first | rfl | exact z_isr_cat (z_isr_rf _)) ?_
  refine gfX3_36 (pc := 2) rfl dX3_endGame_2 (hC.k5 hp) rfl ?_
  refine z_iload_n (pc := 5) dX3_endGame_5 rfl ?_
  refine z_iadd (pc := 6) dX3_endGame_6 ?_
  refine pfX3_36 (pc := 7) rfl dX3_endGame_7 (hC.k5 hp) (Nat.le_of_ble_eq_true rfl) ?_
  refine z_genC (hC.p2 hp (I 2 p 0 + v)) (fun w2 hC2 hf2 => ?_)
  refine z_aload_n (pc := 10) dX3_endGame_10 rfl (by first | rfl | exact z_isr_rf _) ?_
  refine gfX3_22 (pc := 11) rfl dX3_endGame_11 (hC2.k5 hq) rfl ?_
  refine z_if_lt (pc := 14) (tgt := 39) dX3_endGame_14 (by decide) (fun hn => absurd hn (nI_pos hq3)) (fun _ => ?_)
  refine z_aload_n (pc := 17) dX3_endGame_17 rfl (by first | rfl | exact z_isr_rf _) ?_
  refine gfX3_22 (pc := 18) rfl dX3_endGame_18 (hC2.k5 hq) rfl ?_
  refine z_aload_n (pc := 21) dX3_endGame_21 rfl (by first | rfl | exact z_isr_rf _) ?_
  refine gfX3_19 (pc := 22) rfl dX3_endGame_22 (hC2.k5 hp) rfl ?_
  refine z_alen (pc := 25) dX3_endGame_25 (hC2.k8 hp) rfl rfl ?_
  refine z_icmp_ge (pc := 26) (tgt := 39) dX3_endGame_26 (by decide) (fun hn => absurd hn (nI_ge (by omega) (by omega))) (fun _ => ?_)
  refine z_aload_n (pc := 29) dX3_endGame_29 rfl (by first | rfl | exact z_isr_rf _) ?_
  refine gfX3_19 (pc := 30) rfl dX3_endGame_30 (hC2.k5 hp) rfl ?_
  refine z_aload_n (pc := 33) dX3_endGame_33 rfl (by first | rfl | exact z_isr_rf _) ?_
  refine gfX3_22 (pc := 34) rfl dX3_endGame_34 (hC2.k5 hq) rfl ?_
  refine z_iconst_1 (pc := 37) dX3_endGame_37 ?_
  refine z_zast (pc := 38) dX3_endGame_38 (hC2.k8 hp) (vp_in_nI (by omega) (by omega)) ?_
  rw [nI_clamp hq3]
  refine z_genC (hC2.p5 hp q 1) (fun w3 hC3 hf3 => ?_)
  refine z_vret (pc := 39) dX3_endGame_39 rfl (⟨rfl, hC3, hf2.tr hf3⟩)
theorem mX3_endGameAsWhite (hC : z_C G F A I N O B w) {p q : Nat} {v : Int32} (hp : p < N 6 0) (hq : q < N 6 0) (h8 : N 6 0 ≤ 8) : z_M G zX3_endGameAsWhite 1 [.ref (A 5 p 0), .ref (A 5 q 0), .int v] w 0 0 (z_st G F A (eg (z_sI I 0 p 0 (I 0 p 0 + 1)) p q v) N O B w none) z_nx := by
  refine z_M.of (by decide +kernel) rfl (by intro v hv; simp only [List.mem_cons, List.not_mem_nil, or_false] at hv; rcases hv with rfl | rfl | rfl <;> first | rfl | exact z_isr_cat (z_isr_rf _)) (Nat.le_of_ble_eq_true rfl) ?_
  show z_E _ zX3_endGameAsWhite _ _ 0 [some (.ref (A 5 p 0)), some (.ref (A 5 q 0)), some (.int v)] [] _ _ _
  refine z_aload_n (pc := 0) dX3_endGameAsWhite_0 rfl (by first | rfl | exact z_isr_rf _) ?_
  refine z_dup (pc := 1) dX3_endGameAsWhite_1 (by first | rfl | exact z_isr_cat (z_isr_rf _)) ?_
  refine gfX3_26 (pc := 2) rfl dX3_endGameAsWhite_2 (hC.k5 hp) rfl ?_
  refine z_iconst_1 (pc := 5) dX3_endGameAsWhite_5 ?_
  refine z_iadd (pc := 6) dX3_endGameAsWhite_6 ?_
  refine pfX3_26 (pc := 7) rfl dX3_endGameAsWhite_7 (hC.k5 hp) (Nat.le_of_ble_eq_true rfl) ?_
  refine z_genC (hC.p0 hp (I 0 p 0 + 1)) (fun w2 hC2 hf2 => ?_)
  refine z_aload_n (pc := 10) dX3_endGameAsWhite_10 rfl (by first | rfl | exact z_isr_rf _) ?_
  refine z_aload_n (pc := 11) dX3_endGameAsWhite_11 rfl (by first | rfl | exact z_isr_rf _) ?_
  refine z_iload_n (pc := 12) dX3_endGameAsWhite_12 rfl ?_
  refine z_callV (pc := 13) (mX3_endGame hC2 hp hq h8) dX3_endGameAsWhite_13 cwX3_29 okX3_endGame rfl (hC2.k5 hp) rfl rfl (by omega) rfl (Nat.le_of_ble_eq_true rfl) (by omega) (by omega) (fun _ _ h => h.elim) (fun v wN hN => ?_)
  obtain ⟨rfl, hC3, hf3⟩ := hN
  refine z_vret (pc := 16) dX3_endGameAsWhite_16 rfl (⟨rfl, hC3, hf2.tr hf3⟩)
theorem mX3_endGameAsBlack (hC : z_C G F A I N O B w) {p q : Nat} {v : Int32} (hp : p < N 6 0) (hq : q < N 6 0) (h8 : N 6 0 ≤ 8) : z_M G zX3_endGameAsBlack 1 [.ref (A 5 p 0), .ref (A 5 q 0), .int v] w 0 0 (z_st G F A (eg (z_sI I 1 p 0 (I 1 p 0 + 1)) p q v) N O B w none) z_nx := by
  refine z_M.of (by decide +kernel) rfl (by intro v hv; simp only [List.mem_cons, List.not_mem_nil, or_false] at hv; rcases hv with rfl | rfl | rfl <;> first | rfl | exact z_isr_cat (z_isr_rf _)) (Nat.le_of_ble_eq_true rfl) ?_
  show z_E _ zX3_endGameAsBlack _ _ 0 [some (.ref (A 5 p 0)), some (.ref (A 5 q 0)), some (.int v)] [] _ _ _
  refine z_aload_n (pc := 0) dX3_endGameAsBlack_0 rfl (by first | rfl | exact z_isr_rf _) ?_
  refine z_dup (pc := 1) dX3_endGameAsBlack_1 (by first | rfl | exact z_isr_cat (z_isr_rf _)) ?_
  refine gfX3_33 (pc := 2) rfl dX3_endGameAsBlack_2 (hC.k5 hp) rfl ?_
  refine z_iconst_1 (pc := 5) dX3_endGameAsBlack_5 ?_
  refine z_iadd (pc := 6) dX3_endGameAsBlack_6 ?_
  refine pfX3_33 (pc := 7) rfl dX3_endGameAsBlack_7 (hC.k5 hp) (Nat.le_of_ble_eq_true rfl) ?_
  refine z_genC (hC.p1 hp (I 1 p 0 + 1)) (fun w2 hC2 hf2 => ?_)
  refine z_aload_n (pc := 10) dX3_endGameAsBlack_10 rfl (by first | rfl | exact z_isr_rf _) ?_
  refine z_aload_n (pc := 11) dX3_endGameAsBlack_11 rfl (by first | rfl | exact z_isr_rf _) ?_
  refine z_iload_n (pc := 12) dX3_endGameAsBlack_12 rfl ?_
  refine z_callV (pc := 13) (mX3_endGame hC2 hp hq h8) dX3_endGameAsBlack_13 cwX3_29 okX3_endGame rfl (hC2.k5 hp) rfl rfl (by omega) rfl (Nat.le_of_ble_eq_true rfl) (by omega) (by omega) (fun _ _ h => h.elim) (fun v wN hN => ?_)
  obtain ⟨rfl, hC3, hf3⟩ := hN
  refine z_vret (pc := 16) dX3_endGameAsBlack_16 rfl (⟨rfl, hC3, hf2.tr hf3⟩)
end PL

