/-! the law's world: the class in some state, the law's own rows beside it -/
section CSP
variable {G : z_G} {Y : z_Mi} {d : Nat} {Z : z_Gq} {pc : Nat} {L : List (Option Value)} {st : List Value} {w : z_W} {k n : Nat}
theorem z_callSXp {Y' : z_Mi} {d' k' n' idx j : Nat} {As rest : List Value} {r : Value} (hM : z_MW G Y' d' As w k' n' (z_rp r w) z_nx) (d0 : decode Y.2.1 pc = .ok (.invokestatic idx, 3)) (hw : z_cSW Y.1.cls idx Y') (ho : z_ok Y' j) (hn : As.length = j) (hdd : d' + 1 ≤ d) (hst : st = As.reverse ++ rest) (hre : (rest.map fun v => v.category).sum ≤ 8) (hk1 : k' ≤ k) (hn1 : n' ≤ n)
    (kk : z_E G Y d Z (pc + 3) L (r :: rest) w (k - k') (n - n')) : z_E G Y d Z pc L st w k n :=
  z_callSX hM d0 hw ho hn hdd hst hre hk1 hn1 (fun v w' h => by obtain ⟨rfl, rfl⟩ := h; exact kk)
theorem z_callSq {Y' : z_Mi} {d' k' n' idx j : Nat} {As rest : List Value} {r : Value} (hM : z_M G Y' d' As w k' n' (z_rp r w) z_nx) (d0 : decode Y.2.1 pc = .ok (.invokestatic idx, 3)) (hw : z_cS Y.1.cls idx Y') (ho : z_ok Y' j) (hn : As.length = j) (hdd : d' + 1 ≤ d) (hst : st = As.reverse ++ rest) (hre : (rest.map fun v => v.category).sum ≤ 8) (hk1 : k' ≤ k) (hn1 : n' ≤ n)
    (kk : z_E G Y d Z (pc + 3) L (r :: rest) w (k - k') (n - n')) : z_E G Y d Z pc L st w k n :=
  z_callS hM d0 hw ho hn hdd hst hre hk1 hn1 (fun _ _ h => h.elim) (fun v w' h => by obtain ⟨rfl, rfl⟩ := h; exact kk)
end CSP
def z_V (G : z_G) (F : Nat → Prop) (a0 : Nat) (ws : z_W) (I : z_TI) (N : z_TN) (oc : Option Nat) (B : z_TB) (w : z_W) : Prop := ∃ (A : z_TA) (O : z_TO) (M : z_TM), A 0 0 0 = a0 ∧ O 0 0 = oc ∧ z_J I N O B M ∧ z_K I N O ∧ z_C G F A I N O B w ∧ ∀ a, F a → w a = ws a
def z_edo (N : z_TN) (oc : Option Nat) : Nat := match oc with | none => N 1 0 | some _ => N 1 0 - 1
theorem z_ed_o (N : z_TN) (O : z_TO) : z_ed N O = z_edo N (O 0 0) := rfl
noncomputable def z_op (I : z_TI) (N : z_TN) (p : Nat) : Option Nat := z_pt I N (fun _ _ => none) 1 p
def z_pgo (I : z_TI) (N : z_TN) (oc : Option Nat) (l n : Nat) : Int32 := z_pg I N (fun _ _ => oc) l n 60
theorem z_pg_o (I : z_TI) (N : z_TN) (O : z_TO) (l n : Nat) : z_pg I N O l n 60 = z_pgo I N (O 0 0) l n := z_pg_c 60 (fun g _ => ⟨Iff.rfl, fun _ => ⟨rfl, rfl, rfl⟩⟩)
def z_mn (I : z_TI) (n l : Nat) : UInt32 := if I 11 n l = 0 then FP.fconst0 else FP.fdiv (FP.i2f (I 12 n l)) (FP.i2f (I 11 n l))
noncomputable def z_hwo (I : z_TI) (N : z_TN) (p : Nat) : Int32 := match z_op I N p with | none => -1000003 | some q => z_b (z_hw I p q)
section VV
variable {G : z_G} {F : Nat → Prop} {a0 : Nat} {ws w w' : z_W} {I : z_TI} {N : z_TN} {oc : Option Nat} {B : z_TB}
theorem z_V.k0 (h : z_V G F a0 ws I N oc B w) : ∃ fs, w a0 = some (.inr (5, fs)) := by
  obtain ⟨A, O, M, rfl, rfl, hJ, hK, hC, hf⟩ := h
  exact ⟨_, hC.k0⟩
theorem z_V.at (h : z_V G F a0 ws I N oc B w) {a : Nat} (ha : F a) : w a = ws a := by
  obtain ⟨A, O, M, rfl, rfl, hJ, hK, hC, hf⟩ := h
  exact hf a ha
/-- a cell of the law's own is put -/
theorem z_V.put (h : z_V G F a0 ws I N oc B w) {a : Nat} (ha : F a) (e : va_E) : z_V G F a0 (z_up ws a e) I N oc B (z_up w a e) := by
  obtain ⟨A, O, M, rfl, rfl, hJ, hK, hC, hf⟩ := h
  refine ⟨A, O, M, rfl, rfl, hJ, hK, hC.keep (fun k i j hl => z_upN _ _ (fun z => (hC.1 k i j hl).2 (z ▸ ha))) (fun b hb => ?_), fun b hb => ?_⟩
  · by_cases q : b = a
    · rw [q, z_upS]; exact fun z => nomatch z
    · rw [z_upN _ _ q]; exact hC.2.2 b hb
  · by_cases q : b = a
    · rw [q, z_upS, z_upS]
    · rw [z_upN _ _ q, z_upN _ _ q]; exact hf b hb
/-- a new cell of the law's own -/
theorem z_V.new (h : z_V G F a0 ws I N oc B w) {a : Nat} (ha : w a = none) (e : va_E) : z_V G (fun b => F b ∨ b = a) a0 (z_up ws a e) I N oc B (z_up w a e) := by
  obtain ⟨A, O, M, rfl, rfl, hJ, hK, hC, hf⟩ := h
  have hA : ∀ k i j, z_lv N B k i j → A k i j ≠ a := fun k i j hl z => by
    have := (hC.1 k i j hl).1
    rw [z, ha] at this
    cases this
  refine ⟨A, O, M, rfl, rfl, hJ, hK, ⟨fun k i j hl => ⟨(z_upN _ _ (hA k i j hl)).trans (hC.1 k i j hl).1, fun z => z.elim (hC.1 k i j hl).2 (hA k i j hl)⟩, hC.2.1, fun b hb => ?_⟩, fun b hb => ?_⟩
  · by_cases q : b = a
    · rw [q, z_upS]; exact fun z => nomatch z
    · rw [z_upN _ _ q]
      exact hC.2.2 b (hb.resolve_right q)
  · by_cases q : b = a
    · rw [q, z_upS, z_upS]
    · rw [z_upN _ _ q, z_upN _ _ q]
      exact hf b (hb.resolve_right q)
theorem z_V.n (h : z_V G F a0 ws I N oc B w) : N 0 0 ≤ 8 ∧ N 1 0 ≤ 60 ∧ N 2 0 ≤ 40 ∧ N 6 0 = N 0 0 ∧ N 7 0 = N 1 0 ∧ N 8 0 = N 2 0 := by
  obtain ⟨A, O, M, rfl, rfl, hJ, hK, hC, hf⟩ := h
  have hS := hJ.1
  exact ⟨hS.2.2.2.1, hS.2.2.2.2.1, hS.2.2.2.2.2.1, hS.1, hS.2.1, hS.2.2.1⟩
theorem z_V.g (h : z_V G F a0 ws I N oc B w) {g : Nat} (ho : oc = some g) : g + 1 = N 1 0 ∧ N 5 g ≤ 12 ∧ N 3 g < N 0 0 ∧ N 4 g < N 0 0 ∧ N 3 g ≠ N 4 g ∧ z_rg (I 6 g 0) 1000 ∧ ∀ i, i < N 5 g → z_rg (I 8 g i) 4 := by
  obtain ⟨A, O, M, rfl, ho', hJ, hK, hC, hf⟩ := h
  rw [← ho'] at ho
  have hS := hJ.1
  have h1 := hS.2.2.2.2.2.2.2.1 g ho
  have h2 := hS.2.2.2.2.2.2.1 g (by omega)
  have h3 := hJ.2.2.2.1.2.2.2.1 g (by omega)
  exact ⟨h1, h2.2.2, h2.1, h2.2.1, h3.2.2.1, (hJ.2.2.2.1.2.2.1 g ho).2, fun i hi => (h3.2.2.2.2.2.2 i hi).2⟩
theorem z_V.r (h : z_V G F a0 ws I N oc B w) : z_kR I N := by
  obtain ⟨A, O, M, rfl, rfl, hJ, hK, hC, hf⟩ := h
  exact hK.1
theorem z_V.z (h : z_V G F a0 ws I N oc B w) : z_kZ I N (z_edo N oc) ∧ ∀ z, z < N 2 0 → z_rg (I 9 z 0) 1000 := by
  obtain ⟨A, O, M, rfl, rfl, hJ, hK, hC, hf⟩ := h
  exact ⟨hK.2.1, fun z hz => (hJ.2.2.2.2.1.2 z hz).2.2⟩
theorem z_V.s (h : z_V G F a0 ws I N oc B w) : z_ss (fun p => I 2 p 0) (N 0 0) = nI (2 * z_edo N oc) := by
  obtain ⟨A, O, M, rfl, rfl, hJ, hK, hC, hf⟩ := h
  exact hK.2.2.1
theorem z_V.p (h : z_V G F a0 ws I N oc B w) : z_iv2 (N 0 0) (z_op I N) ∧ z_cu (z_op I N) (N 0 0) = N 0 0 % 2 ∧ (2 ≤ N 0 0 → ∀ f, f < N 0 0 → (∀ b, b < N 0 0 → b = f ∨ z_bf (fun p => I 2 p 0) f b) → z_op I N f ≠ none) := by
  have hn := h.n
  have h1 := z_pt_ok (I := I) (N := N) (O := fun _ _ => none) (by omega)
  rw [hn.2.2.2.1] at h1
  refine ⟨h1.1, h1.2, fun h2 f hf hb => ?_⟩
  exact z_pt_first (by omega) (by omega) (by omega) (fun b hb2 => hb b (by omega))
/-- a line as the book has it -/
theorem z_V.l (h : z_V G F a0 ws I N oc B w) {n l : Nat} (h1 : 1 ≤ n) (h6 : n ≤ 6) (hl : l < 4 ^ n) : ∃ c s t, I 11 n l = nI c ∧ I 12 n l = nI s ∧ z_pgo I N oc l n = nI t ∧ c ≤ 60 ∧ s ≤ 2 * c ∧ t ≤ 120 ∧ s ≤ t ∧ (z_al I n l → s = t ∧ ¬ bad (nI c) (nI s) (if n % 2 = 1 then 1 else 0)) ∧
    (n < 6 → ∃ c1 c2 c3 c4, I 11 (n + 1) (l + 0 * 4 ^ n) = nI c1 ∧ I 11 (n + 1) (l + 1 * 4 ^ n) = nI c2 ∧ I 11 (n + 1) (l + 2 * 4 ^ n) = nI c3 ∧ I 11 (n + 1) (l + 3 * 4 ^ n) = nI c4 ∧ c1 + c2 + c3 + c4 ≤ c) := by
  obtain ⟨A, O, M, rfl, rfl, hJ, hK, hC, hf⟩ := h
  obtain ⟨-, -, -, -, c, s, e1, e2, e3, e4⟩ := hJ.2.2.2.2.2.1 n l h1 h6 hl
  obtain ⟨a1, ⟨s', t, b1, b2, b3, b4⟩, c'⟩ := hK.2.2.2 n l h1 h6 hl
  have h60 := hJ.en.2.1
  rw [e2] at b1
  have es := nI_inj (by omega) (by omega) b1
  subst es
  have hB := hJ.2.2.2.2.2.2.1 n l h1 h6 hl
  refine ⟨c, s, t, e1, e2, by rw [← z_pg_o]; exact b2, by omega, e4, by omega, b3, fun al => ⟨?_, ?_⟩, fun h66 => ?_⟩
  · have := a1 al
    rw [e2, b2] at this
    exact nI_inj (by omega) (by omega) this
  · have := hB al
    rw [e1, e2] at this
    exact this
  · obtain ⟨c0, c1, c2, c3, c4, d0, d1, d2, d3, d4, d5, d6⟩ := c' h66
    rw [e1] at d0
    have e0 := nI_inj (by omega) (by omega) d0
    exact ⟨c1, c2, c3, c4, d1, d2, d3, d4, by omega⟩
end VV

