/-! worlds by tags: which cells there are, at which addresses, and what each holds -/
def z_fr (F : Nat → Prop) (w w' : z_W) : Prop := ∀ a, F a → w' a = w a
theorem z_fr.rf {F : Nat → Prop} {w : z_W} : z_fr F w w := fun _ _ => rfl
theorem z_fr.tr {F : Nat → Prop} {w w' w'' : z_W} (h : z_fr F w w') (h' : z_fr F w' w'') : z_fr F w w'' := fun a ha => (h' a ha).trans (h a ha)
def z_tw (lv : Nat → Nat → Nat → Prop) (A : Nat → Nat → Nat → Nat) (ct : Nat → Nat → Nat → va_E) (F : Nat → Prop) (w : z_W) : Prop :=
  (∀ k i j, lv k i j → w (A k i j) = some (ct k i j) ∧ ¬ F (A k i j)) ∧ (∀ k i j k' i' j', lv k i j → lv k' i' j' → A k i j = A k' i' j' → k = k' ∧ i = i' ∧ j = j') ∧ (∀ a, F a → w a ≠ none)
section TW
variable {lv lv' : Nat → Nat → Nat → Prop} {A A' : Nat → Nat → Nat → Nat} {ct ct' : Nat → Nat → Nat → va_E} {F : Nat → Prop} {w w' : z_W}
theorem z_tw.at (h : z_tw lv A ct F w) {k i j : Nat} (hl : lv k i j) : w (A k i j) = some (ct k i j) := (h.1 k i j hl).1
theorem z_tw.re (h : z_tw lv A ct F w) (hl : ∀ k i j, lv' k i j → lv k i j) (hc : ∀ k i j, lv' k i j → ct' k i j = ct k i j) : z_tw lv' A ct' F w :=
  ⟨fun k i j q => ⟨by rw [hc k i j q]; exact h.at (hl k i j q), (h.1 k i j (hl k i j q)).2⟩, fun k i j k' i' j' a b => h.2.1 k i j k' i' j' (hl _ _ _ a) (hl _ _ _ b), h.2.2⟩
theorem z_tw.put (h : z_tw lv A ct F w) {k i j : Nat} {e : va_E} (hl : lv k i j) (he : ct' k i j = e) (ho : ∀ k' i' j', lv k' i' j' → ¬ (k' = k ∧ i' = i ∧ j' = j) → ct' k' i' j' = ct k' i' j') : z_tw lv A ct' F (z_up w (A k i j) e) ∧ z_fr F w (z_up w (A k i j) e) := by
  have hfr : z_fr F w (z_up w (A k i j) e) := fun a ha => z_upN w e (fun q => (h.1 k i j hl).2 (q ▸ ha))
  refine ⟨⟨fun k' i' j' q => ⟨?_, (h.1 k' i' j' q).2⟩, h.2.1, fun a ha => by rw [hfr a ha]; exact h.2.2 a ha⟩, hfr⟩
  by_cases hq : k' = k ∧ i' = i ∧ j' = j
  · obtain ⟨rfl, rfl, rfl⟩ := hq
    rw [z_upS, he]
  · rw [z_upN w e (fun z => hq (h.2.1 _ _ _ _ _ _ q hl z)), ho k' i' j' q hq]
    exact h.at q
theorem z_tw.grow (h : z_tw lv A ct F w) (new : Nat → Nat → Nat → Prop) (hlv : ∀ k i j, lv' k i j → lv k i j ∨ new k i j) (hn : ∀ k i j, new k i j → w (A' k i j) = none ∧ w' (A' k i j) = some (ct' k i j)) (hi : ∀ k i j k' i' j', new k i j → new k' i' j' → A' k i j = A' k' i' j' → k = k' ∧ i = i' ∧ j = j')
    (ho : ∀ k i j, lv k i j → A' k i j = A k i j ∧ ct' k i j = ct k i j) (hk : ∀ a, w a ≠ none → w' a = w a) : z_tw lv' A' ct' F w' ∧ z_fr F w w' := by
  have hnn : ∀ k i j, lv k i j → w (A k i j) ≠ none := fun k i j q => by rw [h.at q]; exact fun z => nomatch z
  refine ⟨⟨fun k i j q => ?_, fun k i j k' i' j' q q' z => ?_, fun a ha => by rw [hk a (h.2.2 a ha)]; exact h.2.2 a ha⟩, fun a ha => hk a (h.2.2 a ha)⟩
  · rcases hlv k i j q with q | q
    · rw [(ho k i j q).1, (ho k i j q).2, hk _ (hnn k i j q)]
      exact h.1 k i j q
    · exact ⟨(hn k i j q).2, fun z => h.2.2 _ z (hn k i j q).1⟩
  · rcases hlv k i j q with q | q <;> rcases hlv k' i' j' q' with q' | q'
    · rw [(ho k i j q).1, (ho k' i' j' q').1] at z
      exact h.2.1 _ _ _ _ _ _ q q' z
    · rw [(ho k i j q).1] at z
      exact absurd (by rw [z]; exact (hn k' i' j' q').1) (hnn k i j q)
    · rw [(ho k' i' j' q').1] at z
      exact absurd (by rw [← z]; exact (hn k i j q).1) (hnn k' i' j' q')
    · exact hi _ _ _ _ _ _ q q' z
/-- another world that is the same off F keeps a tagged world whose frame it is -/
theorem z_tw.keep (h : z_tw lv A ct F w) (hw : ∀ k i j, lv k i j → w' (A k i j) = w (A k i j)) (hF : ∀ a, F a → w' a ≠ none) : z_tw lv A ct F w' :=
  ⟨fun k i j q => ⟨by rw [hw k i j q]; exact h.at q, (h.1 k i j q).2⟩, h.2.1, hF⟩
end TW
/-! the class's own state: I ints, N numbers, O options, B which lines the book has; A the addresses -/
abbrev z_TI : Type := Nat → Nat → Nat → Int32
abbrev z_TN : Type := Nat → Nat → Nat
abbrev z_TO : Type := Nat → Nat → Option Nat
abbrev z_TB : Type := Nat → Nat → Bool
def z_sI (I : z_TI) (f i j : Nat) (v : Int32) : z_TI := fun f' => if f' = f then (fun i' => if i' = i then (fun j' => if j' = j then v else I f i j') else I f i') else I f'
def z_sN (N : z_TN) (f i : Nat) (v : Nat) : z_TN := fun f' => if f' = f then (fun i' => if i' = i then v else N f i') else N f'
def z_sO (O : z_TO) (f i : Nat) (v : Option Nat) : z_TO := fun f' => if f' = f then (fun i' => if i' = i then v else O f i') else O f'
theorem z_sI_s (I : z_TI) (f i j : Nat) (v : Int32) : z_sI I f i j v f i j = v := by simp [z_sI]
theorem z_sI_f (I : z_TI) {f f' : Nat} (i j : Nat) (v : Int32) (h : f' ≠ f) : z_sI I f i j v f' = I f' := by simp [z_sI, h]
theorem z_sI_i (I : z_TI) (f : Nat) {i i' : Nat} (j : Nat) (v : Int32) (h : i' ≠ i) : z_sI I f i j v f i' = I f i' := by simp [z_sI, h]
theorem z_sI_j (I : z_TI) (f i : Nat) {j j' : Nat} (v : Int32) (h : j' ≠ j) : z_sI I f i j v f i j' = I f i j' := by simp [z_sI, h]
theorem z_sI_u (I : z_TI) (f i j : Nat) (v : Int32) : z_sI I f i j v f i = upd (I f i) j v := by
  funext x
  by_cases h : x = j <;> simp [z_sI, upd, h]
theorem z_sI_ne (I : z_TI) {f i j f' i' j' : Nat} (v : Int32) (h : ¬ (f' = f ∧ i' = i ∧ j' = j)) : z_sI I f i j v f' i' j' = I f' i' j' := by
  by_cases h1 : f' = f
  · subst h1
    by_cases h2 : i' = i
    · subst h2
      by_cases h3 : j' = j
      · exact absurd ⟨rfl, rfl, h3⟩ h
      · rw [z_sI_j _ _ _ _ h3]
    · rw [z_sI_i _ _ _ _ h2]
  · rw [z_sI_f _ _ _ _ h1]
theorem z_sN_s (N : z_TN) (f i v : Nat) : z_sN N f i v f i = v := by simp [z_sN]
theorem z_sN_f (N : z_TN) {f f' : Nat} (i v : Nat) (h : f' ≠ f) : z_sN N f i v f' = N f' := by simp [z_sN, h]
theorem z_sN_i (N : z_TN) (f : Nat) {i i' : Nat} (v : Nat) (h : i' ≠ i) : z_sN N f i v f i' = N f i' := by simp [z_sN, h]
theorem z_sO_s (O : z_TO) (f i : Nat) (v : Option Nat) : z_sO O f i v f i = v := by simp [z_sO]
theorem z_sO_f (O : z_TO) {f f' : Nat} (i : Nat) (v : Option Nat) (h : f' ≠ f) : z_sO O f i v f' = O f' := by simp [z_sO, h]
theorem z_sO_i (O : z_TO) (f : Nat) {i i' : Nat} (v : Option Nat) (h : i' ≠ i) : z_sO O f i v f i' = O f i' := by simp [z_sO, h]
abbrev z_rs (f : Nat → Option Nat) : (Nat → Int32) ⊕ (Nat → Int64) ⊕ (Nat → UInt32) ⊕ (Nat → UInt64) ⊕ (Nat → Option Nat) := .inr (.inr (.inr (.inr f)))
/-- what the cells hold; kinds 0 the academy, 1 to 3 its rows, 4 the book, 5 a player, 6 to 8 its rows, 9 a game, 10 its moves, 11 a puzzle, 12 a line (i moves, number j), 13 what goes on from it -/
def z_ct (G : z_G) (A : Nat → Nat → Nat → Nat) (I : z_TI) (N : z_TN) (O : z_TO) (B : z_TB) (k i j : Nat) : va_E := match k with
  | 0 => .inr (5, [.ref (A 1 0 0), .int (nI (N 0 0)), .ref (A 2 0 0), .int (nI (N 1 0)), va_rf ((O 0 0).map (fun g => A 9 g 0)), .ref (A 3 0 0), .int (nI (N 2 0)), .ref (A 4 0 0)])
  | 1 => .inl (G.2.1 4, 8, z_rs (fun p => if p < N 6 0 then some (A 5 p 0) else none))
  | 2 => .inl (G.2.1 5, 60, z_rs (fun g => if g < N 7 0 then some (A 9 g 0) else none))
  | 3 => .inl (G.2.1 6, 40, z_rs (fun z => if z < N 8 0 then some (A 11 z 0) else none))
  | 4 => .inr (0, [.ref (A 12 0 0)])
  | 5 => .inr (3, [.int (nI i), .ref (A 6 i 0), .ref (A 7 i 0), .ref (A 8 i 0), .int (I 0 i 0), .int (I 1 i 0), .int (I 2 i 0), va_rf ((O 1 i).map (fun p => A 5 p 0))])
  | 6 => .inl (G.2.1 0, 5, .inl (I 3 i))
  | 7 => .inl (G.2.1 1, 40, .inl (I 4 i))
  | 8 => .inl (G.2.1 1, 8, .inl (I 5 i))
  | 9 => .inr (1, [.ref (A 5 (N 3 i) 0), .ref (A 5 (N 4 i) 0), .ref (A 10 i 0), .int (nI (N 5 i)), .int (I 6 i 0), .int (I 7 i 0)])
  | 10 => .inl (G.2.1 0, 12, .inl (I 8 i))
  | 11 => .inr (4, [.int (I 9 i 0), .int (I 9 i 0 - I 9 i 0 / 5 * 5), .int (I 10 i 0)])
  | 12 => .inr (2, [.ref (A 13 i j), .int (I 11 i j), .int (I 12 i j), .int (I 13 i j)])
  | _ => .inl (G.2.1 7, 4, z_rs (fun m => if B (i + 1) (j + m * 4 ^ i) then some (A 12 (i + 1) (j + m * 4 ^ i)) else none))
def z_lv (N : z_TN) (B : z_TB) (k i j : Nat) : Prop := match k with
  | 0 => i = 0 ∧ j = 0
  | 1 => i = 0 ∧ j = 0
  | 2 => i = 0 ∧ j = 0
  | 3 => i = 0 ∧ j = 0
  | 4 => i = 0 ∧ j = 0
  | 5 => i < N 6 0 ∧ j = 0
  | 6 => i < N 6 0 ∧ j = 0
  | 7 => i < N 6 0 ∧ j = 0
  | 8 => i < N 6 0 ∧ j = 0
  | 9 => i < N 7 0 ∧ j = 0
  | 10 => i < N 7 0 ∧ j = 0
  | 11 => i < N 8 0 ∧ j = 0
  | 12 => B i j = true
  | 13 => B i j = true
  | _ => False
/-- the class's world -/
def z_C (G : z_G) (F : Nat → Prop) (A : Nat → Nat → Nat → Nat) (I : z_TI) (N : z_TN) (O : z_TO) (B : z_TB) (w : z_W) : Prop := z_tw (z_lv N B) A (z_ct G A I N O B) F w
def z_own (f i j : Nat) : Nat × Nat × Nat := if f < 3 then (5, i, 0) else if f = 3 then (6, i, 0) else if f = 4 then (7, i, 0) else if f = 5 then (8, i, 0) else if f < 8 then (9, i, 0) else if f = 8 then (10, i, 0) else if f < 11 then (11, i, 0) else (12, i, j)
section CS
variable {G : z_G} {F : Nat → Prop} {A : Nat → Nat → Nat → Nat} {I : z_TI} {N : z_TN} {O : z_TO} {B : z_TB} {w : z_W}
theorem z_ct_I {f i j : Nat} {v : Int32} (hf : f < 14) (hj : f ∈ [0, 1, 2, 6, 7, 9, 10] → j = 0) {k' i' j' : Nat} (hl : z_lv N B k' i' j') (hn : ¬ (k' = (z_own f i j).1 ∧ i' = (z_own f i j).2.1 ∧ j' = (z_own f i j).2.2)) : z_ct G A (z_sI I f i j v) N O B k' i' j' = z_ct G A I N O B k' i' j' := by
  have h : f = 0 ∨ f = 1 ∨ f = 2 ∨ f = 3 ∨ f = 4 ∨ f = 5 ∨ f = 6 ∨ f = 7 ∨ f = 8 ∨ f = 9 ∨ f = 10 ∨ f = 11 ∨ f = 12 ∨ f = 13 := by omega
  rcases h with rfl | rfl | rfl | rfl | rfl | rfl | rfl | rfl | rfl | rfl | rfl | rfl | rfl | rfl <;>
  (unfold z_ct; split <;> first
    | rfl
    | (have hi : i' ≠ i := fun q => hn ⟨rfl, q, hl.2⟩
       simp [z_sI, hi])
    | (have hi : ¬ (i' = i ∧ j' = j) := fun q => hn ⟨rfl, q.1, q.2⟩
       have e : ∀ f f', z_sI I f i j v f' i' j' = I f' i' j' := fun f f' => z_sI_ne I v (fun q => hi ⟨q.2.1, q.2.2⟩)
       simp only [e]))
/-- an int field of the state, put -/
theorem z_C.putI (h : z_C G F A I N O B w) {f i j : Nat} {v : Int32} {e : va_E} (hf : f < 14) (hj : f ∈ [0, 1, 2, 6, 7, 9, 10] → j = 0) (hl : z_lv N B (z_own f i j).1 (z_own f i j).2.1 (z_own f i j).2.2) (he : z_ct G A (z_sI I f i j v) N O B (z_own f i j).1 (z_own f i j).2.1 (z_own f i j).2.2 = e) :
    z_C G F A (z_sI I f i j v) N O B (z_up w (A (z_own f i j).1 (z_own f i j).2.1 (z_own f i j).2.2) e) ∧ z_fr F w (z_up w (A (z_own f i j).1 (z_own f i j).2.1 (z_own f i j).2.2) e) :=
  z_tw.put h hl he (fun _ _ _ q hn => z_ct_I hf hj q hn)
end CS

