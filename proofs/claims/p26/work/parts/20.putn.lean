/-! scalars of the academy and partners, put -/
section PUTN
variable {G : z_G} {F : Nat → Prop} {A : z_TA} {I : z_TI} {N : z_TN} {O : z_TO} {B : z_TB} {w : z_W}
theorem z_C.pN0 (h : z_C G F A I N O B w) (v : Nat) : z_C G F A I (z_sN N 0 0 v) O B (z_up w (A 0 0 0) (.inr (5, [.ref (A 1 0 0), .int (nI v), .ref (A 2 0 0), .int (nI (N 1 0)), va_rf ((O 0 0).map (fun g => A 9 g 0)), .ref (A 3 0 0), .int (nI (N 2 0)), .ref (A 4 0 0)]))) ∧ z_fr F w (z_up w (A 0 0 0) (.inr (5, [.ref (A 1 0 0), .int (nI v), .ref (A 2 0 0), .int (nI (N 1 0)), va_rf ((O 0 0).map (fun g => A 9 g 0)), .ref (A 3 0 0), .int (nI (N 2 0)), .ref (A 4 0 0)]))) := by
  have hlv : z_lv (z_sN N 0 0 v) B = z_lv N B := by
    funext k i j
    unfold z_lv
    split <;> rfl
  unfold z_C
  rw [hlv]
  refine z_tw.put h (k := 0) (i := 0) (j := 0) ⟨rfl, rfl⟩ (by simp [z_ct, z_sN]) (fun k' i' j' hl hn => ?_)
  unfold z_ct
  split <;> first
    | rfl
    | exact absurd ⟨rfl, hl.1, hl.2⟩ hn
theorem z_C.pN1 (h : z_C G F A I N O B w) (v : Nat) : z_C G F A I (z_sN N 1 0 v) O B (z_up w (A 0 0 0) (.inr (5, [.ref (A 1 0 0), .int (nI (N 0 0)), .ref (A 2 0 0), .int (nI v), va_rf ((O 0 0).map (fun g => A 9 g 0)), .ref (A 3 0 0), .int (nI (N 2 0)), .ref (A 4 0 0)]))) ∧ z_fr F w (z_up w (A 0 0 0) (.inr (5, [.ref (A 1 0 0), .int (nI (N 0 0)), .ref (A 2 0 0), .int (nI v), va_rf ((O 0 0).map (fun g => A 9 g 0)), .ref (A 3 0 0), .int (nI (N 2 0)), .ref (A 4 0 0)]))) := by
  have hlv : z_lv (z_sN N 1 0 v) B = z_lv N B := by
    funext k i j
    unfold z_lv
    split <;> rfl
  unfold z_C
  rw [hlv]
  refine z_tw.put h (k := 0) (i := 0) (j := 0) ⟨rfl, rfl⟩ (by simp [z_ct, z_sN]) (fun k' i' j' hl hn => ?_)
  unfold z_ct
  split <;> first
    | rfl
    | exact absurd ⟨rfl, hl.1, hl.2⟩ hn
theorem z_C.pN2 (h : z_C G F A I N O B w) (v : Nat) : z_C G F A I (z_sN N 2 0 v) O B (z_up w (A 0 0 0) (.inr (5, [.ref (A 1 0 0), .int (nI (N 0 0)), .ref (A 2 0 0), .int (nI (N 1 0)), va_rf ((O 0 0).map (fun g => A 9 g 0)), .ref (A 3 0 0), .int (nI v), .ref (A 4 0 0)]))) ∧ z_fr F w (z_up w (A 0 0 0) (.inr (5, [.ref (A 1 0 0), .int (nI (N 0 0)), .ref (A 2 0 0), .int (nI (N 1 0)), va_rf ((O 0 0).map (fun g => A 9 g 0)), .ref (A 3 0 0), .int (nI v), .ref (A 4 0 0)]))) := by
  have hlv : z_lv (z_sN N 2 0 v) B = z_lv N B := by
    funext k i j
    unfold z_lv
    split <;> rfl
  unfold z_C
  rw [hlv]
  refine z_tw.put h (k := 0) (i := 0) (j := 0) ⟨rfl, rfl⟩ (by simp [z_ct, z_sN]) (fun k' i' j' hl hn => ?_)
  unfold z_ct
  split <;> first
    | rfl
    | exact absurd ⟨rfl, hl.1, hl.2⟩ hn
theorem z_C.pO0 (h : z_C G F A I N O B w) (v : Option Nat) : z_C G F A I N (z_sO O 0 0 v) B (z_up w (A 0 0 0) (.inr (5, [.ref (A 1 0 0), .int (nI (N 0 0)), .ref (A 2 0 0), .int (nI (N 1 0)), va_rf (v.map (fun g => A 9 g 0)), .ref (A 3 0 0), .int (nI (N 2 0)), .ref (A 4 0 0)]))) ∧ z_fr F w (z_up w (A 0 0 0) (.inr (5, [.ref (A 1 0 0), .int (nI (N 0 0)), .ref (A 2 0 0), .int (nI (N 1 0)), va_rf (v.map (fun g => A 9 g 0)), .ref (A 3 0 0), .int (nI (N 2 0)), .ref (A 4 0 0)]))) := by
  unfold z_C
  refine z_tw.put h (k := 0) (i := 0) (j := 0) ⟨rfl, rfl⟩ (by simp [z_ct, z_sO]) (fun k' i' j' hl hn => ?_)
  unfold z_ct
  split <;> first
    | rfl
    | exact absurd ⟨rfl, hl.1, hl.2⟩ hn
theorem z_C.pO1 (h : z_C G F A I N O B w) {p : Nat} (hp : p < N 6 0) (v : Option Nat) : z_C G F A I N (z_sO O 1 p v) B (z_up w (A 5 p 0) (.inr (3, [.int (nI p), .ref (A 6 p 0), .ref (A 7 p 0), .ref (A 8 p 0), .int (I 0 p 0), .int (I 1 p 0), .int (I 2 p 0), va_rf (v.map (fun p => A 5 p 0))]))) ∧ z_fr F w (z_up w (A 5 p 0) (.inr (3, [.int (nI p), .ref (A 6 p 0), .ref (A 7 p 0), .ref (A 8 p 0), .int (I 0 p 0), .int (I 1 p 0), .int (I 2 p 0), va_rf (v.map (fun p => A 5 p 0))]))) := by
  unfold z_C
  refine z_tw.put h (k := 5) (i := p) (j := 0) ⟨hp, rfl⟩ (by simp [z_ct, z_sO]) (fun k' i' j' hl hn => ?_)
  unfold z_ct
  split <;> first
    | rfl
    | (have hi : i' ≠ p := fun q => hn ⟨rfl, q, hl.2⟩
       simp [z_sO, hi])
end PUTN

