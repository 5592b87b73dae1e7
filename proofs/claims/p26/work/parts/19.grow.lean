/-! the state grows: a player, a game, a puzzle, a line -/
abbrev z_TA : Type := Nat → Nat → Nat → Nat
def z_sA (A : z_TA) (k i j v : Nat) : z_TA := fun k' => if k' = k then (fun i' => if i' = i then (fun j' => if j' = j then v else A k i j') else A k i') else A k'
theorem z_sA_s (A : z_TA) (k i j v : Nat) : z_sA A k i j v k i j = v := by simp [z_sA]
theorem z_sA_k (A : z_TA) {k k' : Nat} (i j v : Nat) (h : k' ≠ k) : z_sA A k i j v k' = A k' := by simp [z_sA, h]
theorem z_sA_ne (A : z_TA) {k i j v k' i' j' : Nat} (h : ¬ (k' = k ∧ i' = i ∧ j' = j)) : z_sA A k i j v k' i' j' = A k' i' j' := by
  unfold z_sA
  by_cases h1 : k' = k
  · subst h1
    rw [if_pos rfl]
    by_cases h2 : i' = i
    · subst h2
      rw [if_pos rfl]
      by_cases h3 : j' = j
      · exact absurd ⟨rfl, rfl, h3⟩ h
      · rw [if_neg h3]
    · rw [if_neg h2]
  · rw [if_neg h1]
def z_sF (I : z_TI) (f i : Nat) (g : Nat → Int32) : z_TI := fun f' => if f' = f then (fun i' => if i' = i then g else I f i') else I f'
theorem z_sF_s (I : z_TI) (f i : Nat) (g : Nat → Int32) : z_sF I f i g f i = g := by simp [z_sF]
theorem z_sF_f (I : z_TI) {f f' : Nat} (i : Nat) (g : Nat → Int32) (h : f' ≠ f) : z_sF I f i g f' = I f' := by simp [z_sF, h]
theorem z_sF_i (I : z_TI) (f : Nat) {i i' : Nat} (g : Nat → Int32) (h : i' ≠ i) : z_sF I f i g f i' = I f i' := by simp [z_sF, h]
theorem z_tw.reF {lv A ct F F2 w} (h : z_tw lv A ct F w) (h1 : ∀ k i j, lv k i j → ¬ F2 (A k i j)) (h2 : ∀ a, F2 a → w a ≠ none) : z_tw lv A ct F2 w :=
  ⟨fun k i j q => ⟨h.at q, h1 k i j q⟩, h.2.1, h2⟩
section GR
variable {G : z_G} {F : Nat → Prop} {A : z_TA} {I : z_TI} {N : z_TN} {O : z_TO} {B : z_TB} {w w' : z_W}
def z_AP (A : z_TA) (p q r t m : Nat) : z_TA := z_sA (z_sA (z_sA (z_sA A 5 p 0 q) 6 p 0 r) 7 p 0 t) 8 p 0 m
def z_IP (I : z_TI) (p : Nat) : z_TI := z_sF (z_sF (z_sF (z_sF (z_sF (z_sF I 0 p (fun _ => 0)) 1 p (fun _ => 0)) 2 p (fun _ => 0)) 3 p (z_r0 0 (fun _ => 0))) 4 p (fun _ => 0)) 5 p (fun _ => 0)
theorem z_AP_ne {p q r t m i : Nat} (h : i ≠ p) (k j : Nat) : z_AP A p q r t m k i j = A k i j := by
  unfold z_AP
  rw [z_sA_ne _ (fun z => h z.2.1), z_sA_ne _ (fun z => h z.2.1), z_sA_ne _ (fun z => h z.2.1), z_sA_ne _ (fun z => h z.2.1)]
theorem z_AP_k {p q r t m k : Nat} (h : k < 5 ∨ 8 < k) : z_AP A p q r t m k = A k := by
  unfold z_AP
  rw [z_sA_k _ _ _ _ (by omega), z_sA_k _ _ _ _ (by omega), z_sA_k _ _ _ _ (by omega), z_sA_k _ _ _ _ (by omega)]
theorem z_sF_ne (I : z_TI) {f i f' i' : Nat} (g : Nat → Int32) (h : i' ≠ i) : z_sF I f i g f' i' = I f' i' := by
  by_cases h1 : f' = f
  · rw [h1, z_sF_i _ _ _ h]
  · rw [z_sF_f _ _ _ h1]
theorem z_IP_i {p i : Nat} (h : i ≠ p) (f : Nat) : z_IP I p f i = I f i := by
  unfold z_IP
  rw [z_sF_ne _ _ h, z_sF_ne _ _ h, z_sF_ne _ _ h, z_sF_ne _ _ h, z_sF_ne _ _ h, z_sF_ne _ _ h]
theorem z_C.growP (hC : z_C G F A I N O B w) (hS : z_S N O B) {p q r t m : Nat} (hp : p = N 6 0) (hq : w q = none) (hr : w r = none) (ht : w t = none) (hm : w m = none) (n1 : q ≠ r) (n2 : q ≠ t) (n3 : q ≠ m) (n4 : r ≠ t) (n5 : r ≠ m) (n6 : t ≠ m)
    (wq : w' q = some (.inr (3, [.int (nI p), .ref r, .ref t, .ref m, .int 0, .int 0, .int 0, .null]))) (wr : w' r = some (.inl (G.2.1 0, 5, .inl (z_r0 0 (fun _ => 0))))) (wt : w' t = some (.inl (G.2.1 1, 40, .inl (fun _ => 0)))) (wm : w' m = some (.inl (G.2.1 1, 8, .inl (fun _ => 0)))) (hk : ∀ a, w a ≠ none → w' a = w a) :
    z_tw (fun k i j => z_lv N B k i j ∨ ((k = 5 ∨ k = 6 ∨ k = 7 ∨ k = 8) ∧ i = p ∧ j = 0)) (z_AP A p q r t m) (z_ct G (z_AP A p q r t m) (z_IP I p) N (z_sO O 1 p none) B) F w' ∧ z_fr F w w' := by
  have hN0 : N 6 0 = N 0 0 := hS.1
  refine z_tw.grow hC (fun k i j => (k = 5 ∨ k = 6 ∨ k = 7 ∨ k = 8) ∧ i = p ∧ j = 0) (fun k i j h => h) ?_ ?_ ?_ hk
  · rintro k i j ⟨rfl | rfl | rfl | rfl, rfl, rfl⟩
    · rw [show z_AP A i q r t m 5 i 0 = q by simp [z_AP, z_sA]]
      exact ⟨hq, by rw [wq]; simp [z_ct, z_AP, z_IP, z_sA, z_sF, z_sO, va_rf]⟩
    · rw [show z_AP A i q r t m 6 i 0 = r by simp [z_AP, z_sA]]
      exact ⟨hr, by rw [wr]; simp [z_ct, z_IP, z_sF]⟩
    · rw [show z_AP A i q r t m 7 i 0 = t by simp [z_AP, z_sA]]
      exact ⟨ht, by rw [wt]; simp [z_ct, z_IP, z_sF]⟩
    · rw [show z_AP A i q r t m 8 i 0 = m by simp [z_AP, z_sA]]
      exact ⟨hm, by rw [wm]; simp [z_ct, z_IP, z_sF]⟩
  · rintro k i j k' i' j' ⟨h1, rfl, rfl⟩ ⟨h2, rfl, rfl⟩ he
    have a5 : z_AP A i' q r t m 5 i' 0 = q := by simp [z_AP, z_sA]
    have a6 : z_AP A i' q r t m 6 i' 0 = r := by simp [z_AP, z_sA]
    have a7 : z_AP A i' q r t m 7 i' 0 = t := by simp [z_AP, z_sA]
    have a8 : z_AP A i' q r t m 8 i' 0 = m := by simp [z_AP, z_sA]
    refine ⟨?_, rfl, rfl⟩
    rcases h1 with rfl | rfl | rfl | rfl <;> rcases h2 with rfl | rfl | rfl | rfl <;> simp only [a5, a6, a7, a8] at he <;> first | rfl | exact absurd he (by assumption) | exact absurd he.symm (by assumption)
  · intro k i j hl
    have hi : 5 ≤ k → k ≤ 8 → i ≠ p := by
      intro h5 h8
      have : k = 5 ∨ k = 6 ∨ k = 7 ∨ k = 8 := by omega
      rcases this with rfl | rfl | rfl | rfl <;> (have := hl.1; omega)
    have hA : z_AP A p q r t m k i j = A k i j := by
      by_cases h : 5 ≤ k ∧ k ≤ 8
      · exact z_AP_ne (hi h.1 h.2) k j
      · rw [z_AP_k (by omega)]
    refine ⟨hA, ?_⟩
    unfold z_ct
    split
    · rw [z_AP_k (by omega), z_AP_k (by omega), z_AP_k (by omega), z_AP_k (by omega), z_AP_k (by omega)]; rfl
    · congr 5
      congr 1
      funext x
      by_cases hx : x < N 6 0
      · rw [if_pos hx, if_pos hx, z_AP_ne (by omega)]
      · rw [if_neg hx, if_neg hx]
    · rw [z_AP_k (by omega)]
    · rw [z_AP_k (by omega)]
    · rw [z_AP_k (by omega)]
    · have hip := hi (by omega) (by omega)
      rw [z_AP_ne hip, z_AP_ne hip, z_AP_ne hip, z_IP_i hip, z_IP_i hip, z_IP_i hip, z_sO_i _ _ _ hip]
      congr 6
      cases ho : O 1 i with
      | none => rfl
      | some x =>
        have hxp : x ≠ p := by have := hS.2.2.2.2.2.2.2.2.1 i x (by have := hl.1; omega) ho; omega
        have e : z_AP A p q r t m 5 x 0 = A 5 x 0 := z_AP_ne hxp 5 0
        simp only [Option.map_some, e]
    · rw [z_IP_i (hi (by omega) (by omega))]
    · rw [z_IP_i (hi (by omega) (by omega))]
    · rw [z_IP_i (hi (by omega) (by omega))]
    · have hg := hS.2.2.2.2.2.2.1 i (by have := hl.1; have := hS.2.1; omega)
      rw [z_AP_ne (by omega), z_AP_ne (by omega), z_AP_k (by omega)]; rfl
    · rfl
    · rfl
    · rw [z_AP_k (by omega)]; rfl
    · rw [z_AP_k (by omega)]
def z_AG (A : z_TA) (g q r : Nat) : z_TA := z_sA (z_sA A 9 g 0 q) 10 g 0 r
def z_IG (I : z_TI) (g : Nat) : z_TI := z_sF (z_sF (z_sF I 6 g (fun _ => 1)) 7 g (fun _ => 0)) 8 g (fun _ => 0)
def z_NG (N : z_TN) (g p1 p2 : Nat) : z_TN := z_sN (z_sN (z_sN N 3 g p1) 4 g p2) 5 g 0
theorem z_AG_ne {g q r i : Nat} (h : i ≠ g) (k j : Nat) : z_AG A g q r k i j = A k i j := by
  unfold z_AG
  rw [z_sA_ne _ (fun z => h z.2.1), z_sA_ne _ (fun z => h z.2.1)]
theorem z_AG_k {g q r k : Nat} (h : k ≠ 9 ∧ k ≠ 10) : z_AG A g q r k = A k := by
  unfold z_AG
  rw [z_sA_k _ _ _ _ h.2, z_sA_k _ _ _ _ h.1]
theorem z_IG_i {g i : Nat} (h : i ≠ g) (f : Nat) : z_IG I g f i = I f i := by
  unfold z_IG
  rw [z_sF_ne _ _ h, z_sF_ne _ _ h, z_sF_ne _ _ h]
theorem z_C.growG (hC : z_C G F A I N O B w) (hS : z_S N O B) {g p1 p2 q r : Nat} (hg : g = N 7 0) (hO : O 0 0 = none) (hp1 : p1 < N 6 0) (hp2 : p2 < N 6 0) (hq : w q = none) (hr : w r = none) (n1 : q ≠ r)
    (wq : w' q = some (.inr (1, [.ref (A 5 p1 0), .ref (A 5 p2 0), .ref r, .int 0, .int 1, .int 0]))) (wr : w' r = some (.inl (G.2.1 0, 12, .inl (fun _ => 0)))) (hk : ∀ a, w a ≠ none → w' a = w a) :
    z_tw (fun k i j => z_lv N B k i j ∨ ((k = 9 ∨ k = 10) ∧ i = g ∧ j = 0)) (z_AG A g q r) (z_ct G (z_AG A g q r) (z_IG I g) (z_NG N g p1 p2) O B) F w' ∧ z_fr F w w' := by
  refine z_tw.grow hC (fun k i j => (k = 9 ∨ k = 10) ∧ i = g ∧ j = 0) (fun k i j h => h) ?_ ?_ ?_ hk
  · rintro k i j ⟨rfl | rfl, rfl, rfl⟩
    · rw [show z_AG A i q r 9 i 0 = q by simp [z_AG, z_sA]]
      exact ⟨hq, by rw [wq]; simp [z_ct, z_AG, z_IG, z_NG, z_sA, z_sF, z_sN]; exact nI_0⟩
    · rw [show z_AG A i q r 10 i 0 = r by simp [z_AG, z_sA]]
      exact ⟨hr, by rw [wr]; simp [z_ct, z_IG, z_sF]⟩
  · rintro k i j k' i' j' ⟨h1, rfl, rfl⟩ ⟨h2, rfl, rfl⟩ he
    have a5 : z_AG A i' q r 9 i' 0 = q := by simp [z_AG, z_sA]
    have a6 : z_AG A i' q r 10 i' 0 = r := by simp [z_AG, z_sA]
    refine ⟨?_, rfl, rfl⟩
    rcases h1 with rfl | rfl <;> rcases h2 with rfl | rfl <;> simp only [a5, a6] at he <;> first | rfl | exact absurd he n1 | exact absurd he.symm n1
  · intro k i j hl
    have hi : k = 9 ∨ k = 10 → i ≠ g := by
      rintro (rfl | rfl) <;> (have := hl.1; omega)
    have hA : z_AG A g q r k i j = A k i j := by
      by_cases h : k = 9 ∨ k = 10
      · exact z_AG_ne (hi h) k j
      · rw [z_AG_k (by omega)]
    refine ⟨hA, ?_⟩
    unfold z_ct
    split
    · rw [hO]; rfl
    · rfl
    · congr 5
      congr 1
      funext x
      by_cases hx : x < N 7 0
      · rw [show z_NG N g p1 p2 7 0 = N 7 0 from rfl, if_pos hx, if_pos hx, z_AG_ne (by omega)]
      · rw [show z_NG N g p1 p2 7 0 = N 7 0 from rfl, if_neg hx, if_neg hx]
    · rfl
    · rfl
    · rfl
    · rfl
    · rfl
    · rfl
    · have hig := hi (Or.inl rfl)
      have h3 : z_NG N g p1 p2 3 i = N 3 i := by simp [z_NG, z_sN, hig]
      have h4 : z_NG N g p1 p2 4 i = N 4 i := by simp [z_NG, z_sN, hig]
      have h5 : z_NG N g p1 p2 5 i = N 5 i := by simp [z_NG, z_sN, hig]
      rw [h3, h4, h5, z_IG_i hig, z_IG_i hig, z_AG_ne hig, z_AG_k (by omega)]
    · rw [z_IG_i (hi (Or.inr rfl))]
    · rfl
    · rfl
    · rfl
theorem z_C.growZ (hC : z_C G F A I N O B w) {z q : Nat} {x gm : Int32} (hz : z = N 8 0) (hq : w q = none) (wq : w' q = some (.inr (4, [.int x, .int (x - x / 5 * 5), .int gm]))) (hk : ∀ a, w a ≠ none → w' a = w a) :
    z_tw (fun k i j => z_lv N B k i j ∨ (k = 11 ∧ i = z ∧ j = 0)) (z_sA A 11 z 0 q) (z_ct G (z_sA A 11 z 0 q) (z_sF (z_sF I 9 z (fun _ => x)) 10 z (fun _ => gm)) N O B) F w' ∧ z_fr F w w' := by
  refine z_tw.grow hC (fun k i j => k = 11 ∧ i = z ∧ j = 0) (fun k i j h => h) ?_ ?_ ?_ hk
  · rintro k i j ⟨rfl, rfl, rfl⟩
    rw [z_sA_s]
    exact ⟨hq, by rw [wq]; simp [z_ct, z_sF]⟩
  · rintro k i j k' i' j' ⟨rfl, rfl, rfl⟩ ⟨rfl, rfl, rfl⟩ _
    exact ⟨rfl, rfl, rfl⟩
  · intro k i j hl
    have hi : k = 11 → i ≠ z := by
      rintro rfl
      have := hl.1
      omega
    have hA : z_sA A 11 z 0 q k i j = A k i j := z_sA_ne _ (fun h => hi h.1 h.2.1)
    refine ⟨hA, ?_⟩
    unfold z_ct
    split <;> first
      | rfl
      | (have hiz := hi rfl
         rw [z_sF_ne _ _ hiz, z_sF_ne _ _ hiz, z_sF_ne _ _ hiz, z_sF_ne _ _ hiz])
      | (congr 5
         congr 1
         funext y
         by_cases hy : y < N 8 0
         · rw [if_pos hy, if_pos hy, z_sA_ne _ (by omega)]
         · rw [if_neg hy, if_neg hy])
def z_Z (I : z_TI) (B : z_TB) : Prop := ∀ i j, B i j = false → I 11 i j = 0 ∧ I 12 i j = 0 ∧ I 13 i j = 0
def z_AL (A : z_TA) (i j q r : Nat) : z_TA := z_sA (z_sA A 12 i j q) 13 i j r
theorem z_AL_ne {i j q r i' j' : Nat} (h : ¬ (i' = i ∧ j' = j)) (k : Nat) : z_AL A i j q r k i' j' = A k i' j' := by
  unfold z_AL
  rw [z_sA_ne _ (fun z => h z.2), z_sA_ne _ (fun z => h z.2)]
theorem z_AL_k {i j q r k : Nat} (h : k < 12) : z_AL A i j q r k = A k := by
  unfold z_AL
  rw [z_sA_k _ _ _ _ (by omega), z_sA_k _ _ _ _ (by omega)]
def z_sB (B : z_TB) (i j : Nat) : z_TB := fun i' j' => if i' = i ∧ j' = j then true else B i' j'
theorem z_C.growL (hC : z_C G F A I N O B w) (hZ : z_Z I B) (h00 : B 0 0 = true) {i j q r : Nat} (hB : B i j = false) (hch : ∀ m, m < 4 → B (i + 1) (j + m * 4 ^ i) = false) (hq : w q = none) (hr : w r = none) (n1 : q ≠ r)
    (wq : w' q = some (.inr (2, [.ref r, .int 0, .int 0, .int 0]))) (wr : w' r = some (.inl (G.2.1 7, 4, z_rs (fun _ => none)))) (hk : ∀ a, w a ≠ none → w' a = w a) (hct : z_ct G (z_AL A i j q r) I N O B 13 i j = .inl (G.2.1 7, 4, z_rs (fun _ => none))) :
    z_tw (fun k i' j' => z_lv N B k i' j' ∨ ((k = 12 ∨ k = 13) ∧ i' = i ∧ j' = j)) (z_AL A i j q r) (z_ct G (z_AL A i j q r) I N O B) F w' ∧ z_fr F w w' := by
  have a12 : z_AL A i j q r 12 i j = q := by simp [z_AL, z_sA]
  have a13 : z_AL A i j q r 13 i j = r := by simp [z_AL, z_sA]
  refine z_tw.grow hC (fun k i' j' => (k = 12 ∨ k = 13) ∧ i' = i ∧ j' = j) (fun k i j h => h) ?_ ?_ ?_ hk
  · rintro k i' j' ⟨rfl | rfl, rfl, rfl⟩
    · obtain ⟨z1, z2, z3⟩ := hZ _ _ hB
      rw [a12]
      exact ⟨hq, by rw [wq]; simp only [z_ct]; rw [a13, z1, z2, z3]⟩
    · rw [a13]
      exact ⟨hr, by rw [wr, hct]⟩
  · rintro k i1 j1 k' i' j' ⟨h1, rfl, rfl⟩ ⟨h2, rfl, rfl⟩ he
    refine ⟨?_, rfl, rfl⟩
    rcases h1 with rfl | rfl <;> rcases h2 with rfl | rfl <;> simp only [a12, a13] at he <;> first | rfl | exact absurd he n1 | exact absurd he.symm n1
  · intro k i' j' hl
    have hi : k = 12 ∨ k = 13 → ¬ (i' = i ∧ j' = j) := by
      rintro (rfl | rfl) ⟨rfl, rfl⟩
      · have : B i' j' = true := hl
        rw [hB] at this; cases this
      · have : B i' j' = true := hl
        rw [hB] at this; cases this
    have hA : z_AL A i j q r k i' j' = A k i' j' := by
      unfold z_AL
      rw [z_sA_ne _ (fun z => hi (Or.inr z.1) z.2), z_sA_ne _ (fun z => hi (Or.inl z.1) z.2)]
    refine ⟨hA, ?_⟩
    have hl' := hl
    unfold z_lv at hl'
    unfold z_ct
    split
    · rfl
    · rfl
    · rfl
    · rfl
    · have h0 : ¬ (0 = i ∧ 0 = j) := by
        rintro ⟨rfl, rfl⟩
        rw [h00] at hB; cases hB
      rw [z_AL_ne h0]
    · rfl
    · rfl
    · rfl
    · rfl
    · rfl
    · rfl
    · rfl
    · rw [z_AL_ne (hi (Or.inl rfl))]
    · congr 5
      congr 1
      funext m
      by_cases hm : B (i' + 1) (j' + m * 4 ^ i') = true
      · rw [if_pos hm, if_pos hm, z_AL_ne]
        rintro ⟨h1, h2⟩
        rw [h1, h2, hB] at hm; cases hm
      · rw [if_neg hm, if_neg hm]
end GR

