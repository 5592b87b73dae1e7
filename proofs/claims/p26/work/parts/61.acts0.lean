/-! what the law keeps beside the class, and how its rows are written -/
theorem z_iorN (a b : Nat) : nI a ||| nI b = nI (a ||| b) :=
  Int32.toBitVec_inj.1 (BitVec.eq_of_getLsbD_eq (fun i hi => by
    show (BitVec.ofNat 32 a ||| BitVec.ofNat 32 b).getLsbD i = (BitVec.ofNat 32 (a ||| b)).getLsbD i
    simp [hi]))
theorem z_sh1 : ∀ r, r < 20 → (1 : Int32) <<< (nI r &&& 31) = nI (2 ^ r) := by decide +kernel
theorem z_orb {T r s : Nat} : (T ||| 2 ^ r) / 2 ^ s % 2 = 1 ↔ (T / 2 ^ s % 2 = 1 ∨ s = r) := by
  have h : ∀ x : Nat, x / 2 ^ s % 2 = 1 ↔ x.testBit s = true := fun x => by rw [Nat.testBit_eq_decide_div_mod_eq, decide_eq_true_eq]
  rw [h, h, Nat.testBit_or, Bool.or_eq_true, Nat.testBit_two_pow, decide_eq_true_eq]
  exact or_congr_right ⟨fun e => e.symm, fun e => e.symm⟩
theorem z_orl {T r : Nat} (hT : T < 2 ^ 20) (hr : r < 20) : T ||| 2 ^ r < 2 ^ 20 := Nat.or_lt_two_pow hT (Nat.pow_lt_pow_right (by decide) hr)
theorem z_tr.set {I I' : z_TI} {N : z_TN} {fp : Nat → Int32} (h : z_tr I N fp) {p z : Nat} (hp : p < N 0 0) (hz : z < 40) (h8 : N 0 0 ≤ 8) (hI : ∀ p' z', I' 4 p' z' ≠ 0 ↔ (I 4 p' z' ≠ 0 ∨ (p' = p ∧ z' = z))) : z_tr I' N (upd fp (2 * p + z / 20) (fp (2 * p + z / 20) ||| nI (2 ^ (z % 20)))) := by
  obtain ⟨T, h1, h2, h3⟩ := h
  have hi : 2 * p + z / 20 < 16 := by omega
  obtain ⟨e1, e2⟩ := h1 _ hi
  refine ⟨fun i => if i = 2 * p + z / 20 then T i ||| 2 ^ (z % 20) else T i, fun i hi' => ?_, fun i a b => ?_, fun p' hp' z' hz' => ?_⟩
  · by_cases q : i = 2 * p + z / 20
    · dsimp only
      rw [q, if_pos rfl, z_upd_s, e1, z_iorN]
      exact ⟨rfl, z_orl e2 (Nat.mod_lt _ (by omega))⟩
    · dsimp only
      rw [if_neg q, z_upd_n _ _ q]
      exact h1 i hi'
  · dsimp only
    rw [if_neg (by omega)]
    exact h2 i a b
  · dsimp only
    rw [hI, ← h3 p' hp' z' hz']
    by_cases q : 2 * p' + z' / 20 = 2 * p + z / 20
    · rw [if_pos q, z_orb]
      refine or_congr_right ⟨fun e => by omega, fun e => by rw [e.2]⟩
    · rw [if_neg q]
      refine ⟨Or.inl, fun e => e.resolve_right (fun y => q (by rw [y.1, y.2]))⟩
def z_mvs (I : z_TI) (g : Nat) : Nat → Nat := fun i => (I 8 g i).toNatClampNeg
/-- what the law keeps -/
def z_LI (I : z_TI) (N : z_TN) (oc : Option Nat) (fp fw fg : Nat → Int32) : Prop := z_tr I N fp ∧ ((∀ p, p < N 0 0 → fw p = I 0 p 0 - I 1 p 0) ∧ ∀ p, N 0 0 ≤ p → p < 8 → fw p = 0) ∧ 1 ≤ N 0 0 ∧ fg 0 = nI (N 0 0) ∧ fg 1 = nI (z_edo N oc) ∧ fg 2 = (match oc with | none => 0 | some _ => 1) ∧
  ∀ g, oc = some g → fg 3 = nI (N 5 g) ∧ fg 4 = nI (z_px (z_mvs I g) (z_kn N g)) ∧ fg 5 = nI (N 3 g) ∧ fg 6 = nI (N 4 g)
def z_LX (G : z_G) (F : Nat → Prop) (a0 ap aw ag : Nat) (I : z_TI) (N : z_TN) (oc : Option Nat) (B : z_TB) (w : z_W) : Prop := ∃ (ws : z_W) (fp fw fg : Nat → Int32), z_V G F a0 ws I N oc B w ∧ ws ap = some (.inl (G.2.1 0, 16, .inl fp)) ∧ ws aw = some (.inl (G.2.1 0, 8, .inl fw)) ∧ ws ag = some (.inl (G.2.1 0, 7, .inl fg)) ∧ z_LI I N oc fp fw fg
abbrev z_aq (G : z_G) (F : Nat → Prop) (a0 ap aw ag : Nat) : z_Gq := z_mq G (fun v w' => v = some (.int 1) ∧ ∃ I' N' oc' B', z_LX G F a0 ap aw ag I' N' oc' B' w') z_nx
section LE
variable {G : z_G} {F : Nat → Prop} {a0 ap aw ag : Nat} {ws w : z_W} {I : z_TI} {N : z_TN} {oc : Option Nat} {B : z_TB} {Y : z_Mi} {d : Nat} {Z : z_Gq} {pc : Nat} {L : List (Option Value)} {st : List Value} {k n : Nat}
theorem z_genU (hV : z_V G F a0 ws I N oc B w) {a : Nat} (ha : F a) {e : va_E} (kk : ∀ ws' w', z_V G F a0 ws' I N oc B w' → ws' a = some e → (∀ b, b ≠ a → ws' b = ws b) → z_E G Y d Z pc L st w' k n) : z_E G Y d Z pc L st (z_up w a e) k n :=
  kk _ _ (hV.put ha e) (z_upS _ _ _) (fun b hb => z_upN _ _ hb)
theorem z_genN (hV : z_V G F a0 ws I N oc B w) {a : Nat} (ha : w a = none) {e : va_E} (kk : ∀ ws' w', z_V G (fun b => F b ∨ b = a) a0 ws' I N oc B w' → ws' a = some e → (∀ b, F b → ws' b = ws b) → (∀ b, F b → b ≠ a) → z_E G Y d Z pc L st w' k n) : z_E G Y d Z pc L st (z_up w a e) k n := by
  have hne : ∀ b, F b → b ≠ a := fun b hb q => by
    obtain ⟨A, O, M, -, -, -, -, hC, -⟩ := hV
    exact hC.2.2 b hb (q ▸ ha)
  exact kk _ _ (hV.new ha e) (z_upS _ _ _) (fun b hb => z_upN _ _ (hne b hb)) hne
theorem z_V.sub {F' : Nat → Prop} (hV : z_V G F a0 ws I N oc B w) (h : ∀ a, F' a → F a) : z_V G F' a0 ws I N oc B w := by
  obtain ⟨A, O, M, h1, h2, hJ, hK, hC, hf⟩ := hV
  exact ⟨A, O, M, h1, h2, hJ, hK, ⟨fun k i j hl => ⟨(hC.1 k i j hl).1, fun z => (hC.1 k i j hl).2 (h _ z)⟩, hC.2.1, fun a ha => hC.2.2 a (h a ha)⟩, fun a ha => hf a (h a ha)⟩
end LE

