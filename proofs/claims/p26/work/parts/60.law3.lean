/-! the pairs' words -/
theorem z_c0 : (0 : Int32).toNatClampNeg = 0 := by decide
theorem z_c1 : (1 : Int32).toNatClampNeg = 1 := by decide
theorem z_c2 : (2 : Int32).toNatClampNeg = 2 := by decide
theorem z_c3 : (3 : Int32).toNatClampNeg = 3 := by decide
theorem z_c4 : (4 : Int32).toNatClampNeg = 4 := by decide
theorem z_c5 : (5 : Int32).toNatClampNeg = 5 := by decide
theorem z_c6 : (6 : Int32).toNatClampNeg = 6 := by decide
theorem z_v0 : vp_in (0 : Int32) 7 := vp_in_nI (n := 0) (by omega) (by omega)
theorem z_v1 : vp_in (1 : Int32) 7 := vp_in_nI (n := 1) (by omega) (by omega)
theorem z_v2 : vp_in (2 : Int32) 7 := vp_in_nI (n := 2) (by omega) (by omega)
theorem z_v3 : vp_in (3 : Int32) 7 := vp_in_nI (n := 3) (by omega) (by omega)
theorem z_v4 : vp_in (4 : Int32) 7 := vp_in_nI (n := 4) (by omega) (by omega)
theorem z_v5 : vp_in (5 : Int32) 7 := vp_in_nI (n := 5) (by omega) (by omega)
theorem z_v6 : vp_in (6 : Int32) 7 := vp_in_nI (n := 6) (by omega) (by omega)
theorem z_hw_n {I : z_TI} {p q : Nat} (h : q ≠ p) : z_hw I q p ↔ ¬ z_hw I p q := by
  unfold z_hw
  rw [Int32.lt_iff_toInt_lt, Int32.lt_iff_toInt_lt, ← Int32.toInt_inj, ← Int32.toInt_inj]
  omega
section LC
variable {G : z_G} {F : Nat → Prop} {a0 aw ag : Nat} {ws : z_W} {I : z_TI} {N : z_TN} {oc : Option Nat} {B : z_TB} {fw fg : Nat → Int32}
theorem iL_pairs2 (hFg : F ag) (hwg : ws ag = some (.inl (G.2.1 0, 7, .inl fg))) (hg0 : fg 0 = nI (N 0 0)) {w : z_W} (hV : z_V G F a0 ws I N oc B w) {x1 x3 x4 x5 x6 x7 x8 : Option Value} {ck sk : Nat} (hk : 5 ≤ ck) (hs : 30 ≤ sk) : z_E G zL_pairs 9 (z_mq G (fun v w' => v = some (.int 1) ∧ z_V G F a0 ws I N oc B w') z_nx) 237 [some (.ref a0), x1, some (.ref ag), x3, x4, x5, x6, x7, x8] [] w ck sk := by
  have hn := hV.n.1
  have n1 : ¬ z_rg (nI (N 0 0)) (N 0 0) := z_rg_ge (by omega) (nI_le (Nat.le_refl _) (by omega))
  have n2 : ¬ z_rg (-1) (N 0 0) := z_rg_lt (by omega) (by decide)
  refine z_aload_n (pc := 237) dL_pairs_237 rfl (by first | rfl | exact z_isr_rf _) ?_
  refine z_aload_n (pc := 238) dL_pairs_238 rfl (by first | rfl | exact z_isr_rf _) ?_
  refine z_iconst_0 (pc := 239) dL_pairs_239 ?_
  refine z_iald (pc := 240) dL_pairs_240 ((hV.at hFg).trans hwg) (z_v0) ?_
  rw [z_c0, hg0]
  refine z_callSX (pc := 241) (wL_opponent hV (nI (N 0 0))) dL_pairs_241 cwL_99 okL_opponent rfl (by omega) rfl (Nat.le_of_ble_eq_true rfl) (by omega) (by omega) (fun v wN hN => ?_)
  obtain ⟨rfl, hV⟩ := hN
  rw [z_if_f n1]
  refine z_ldc (pc := 244) dL_pairs_244 cc38 ?_
  refine z_icmp_ne (pc := 246) (tgt := 275) dL_pairs_246 (by decide) (fun hn => absurd (rfl) hn) (fun _ => ?_)
  refine z_aload_n (pc := 249) dL_pairs_249 rfl (by first | rfl | exact z_isr_rf _) ?_
  refine z_iconst_m1 (pc := 250) dL_pairs_250 ?_
  refine z_callSX (pc := 251) (wL_hasWhite hV (-1)) dL_pairs_251 cwL_103 okL_hasWhite rfl (by omega) rfl (Nat.le_of_ble_eq_true rfl) (by omega) (by omega) (fun v wN hN => ?_)
  obtain ⟨rfl, hV⟩ := hN
  rw [z_if_f n2]
  refine z_ldc (pc := 254) dL_pairs_254 cc38 ?_
  refine z_icmp_ne (pc := 256) (tgt := 275) dL_pairs_256 (by decide) (fun hn => absurd (rfl) hn) (fun _ => ?_)
  refine z_aload_n (pc := 259) dL_pairs_259 rfl (by first | rfl | exact z_isr_rf _) ?_
  refine z_aload_n (pc := 260) dL_pairs_260 rfl (by first | rfl | exact z_isr_rf _) ?_
  refine z_iconst_0 (pc := 261) dL_pairs_261 ?_
  refine z_iald (pc := 262) dL_pairs_262 ((hV.at hFg).trans hwg) (z_v0) ?_
  rw [z_c0, hg0]
  refine z_callSXp (pc := 263) (wL_score hV (nI (N 0 0))) dL_pairs_263 cwL_101 okL_score rfl (by omega) rfl (Nat.le_of_ble_eq_true rfl) (by omega) (by omega) ?_
  rw [z_if_f n1]
  refine z_ldc (pc := 266) dL_pairs_266 cc38 ?_
  refine z_icmp_ne (pc := 268) (tgt := 275) dL_pairs_268 (by decide) (fun hn => absurd (rfl) hn) (fun _ => ?_)
  refine z_iconst_1 (pc := 271) dL_pairs_271 ?_
  refine z_goto (pc := 272) (tgt := 276) dL_pairs_272 (by decide) ?_
  refine z_zret (pc := 276) dL_pairs_276 rfl (Or.inr rfl ) ( ⟨rfl, hV⟩)
theorem iL_pairs (hFw : F aw) (hww : ws aw = some (.inl (G.2.1 0, 8, .inl fw))) (hFg : F ag) (hwg : ws ag = some (.inl (G.2.1 0, 7, .inl fg))) (hfw : ∀ p, p < N 0 0 → fw p = I 0 p 0 - I 1 p 0) (hg0 : fg 0 = nI (N 0 0)) (hg1 : fg 1 = nI (z_edo N oc)) : ∀ m k : Nat, N 0 0 - k = m → k ≤ N 0 0 → ∀ (w : z_W) (ff : Int32) (x7 x8 : Option Value) (ck sk : Nat), z_V G F a0 ws I N oc B w → ((k = 0 ∧ ff = -1) ∨ ∃ f, ff = nI f ∧ f < k ∧ ∀ b, b < k → b = f ∨ z_bf (fun p => I 2 p 0) f b) → 9 * m + 8 ≤ ck → 54 * m + 48 ≤ sk →
    z_E G zL_pairs 9 (z_mq G (fun v w' => v = some (.int 1) ∧ z_V G F a0 ws I N oc B w') z_nx) 11 [some (.ref a0), some (.ref aw), some (.ref ag), some (.int (nI (z_cu (z_op I N) k))), some (.int (z_ss (fun p => I 2 p 0) k)), some (.int ff), some (.int (nI k)), x7, x8] [] w ck sk := by
  intro m
  induction m with
  | zero =>
    intro k hm hk w ff x7 x8 ck sk hV hff hck hsk
    have e : k = N 0 0 := by omega
    subst e
    have hn := hV.n
    have hp := hV.p
    refine z_iload (pc := 11) dL_pairs_11 rfl ?_
    refine z_aload_n (pc := 13) dL_pairs_13 rfl (by first | rfl | exact z_isr_rf _) ?_
    refine z_iconst_0 (pc := 14) dL_pairs_14 ?_
    refine z_iald (pc := 15) dL_pairs_15 ((hV.at hFg).trans hwg) (z_v0) ?_
    rw [z_c0, hg0]
    refine z_icmp_ge (pc := 16) (tgt := 202) dL_pairs_16 (by decide) (fun _ => ?_) (fun hn => absurd (nI_le (Nat.le_refl _) (by omega)) hn)
    refine z_iload_n (pc := 202) dL_pairs_202 rfl ?_
    refine z_aload_n (pc := 203) dL_pairs_203 rfl (by first | rfl | exact z_isr_rf _) ?_
    refine z_iconst_0 (pc := 204) dL_pairs_204 ?_
    refine z_iald (pc := 205) dL_pairs_205 ((hV.at hFg).trans hwg) (z_v0) ?_
    refine z_iconst_2 (pc := 206) dL_pairs_206 ?_
    rw [z_c0, hg0]
    refine z_irem (pc := 207) dL_pairs_207 (by first | decide | assumption) ?_
    rw [show nI (N 0 0) - nI (N 0 0) / 2 * 2 = nI (N 0 0 % 2) from pk_rem (d := 2) (by omega) (by decide) (by decide)]
    refine z_icmp_ne (pc := 208) (tgt := 275) dL_pairs_208 (by decide) (fun hn => absurd (congrArg nI hp.2.1) hn) (fun _ => ?_)
    refine z_iload (pc := 211) dL_pairs_211 rfl ?_
    refine z_iconst_2 (pc := 213) dL_pairs_213 ?_
    refine z_aload_n (pc := 214) dL_pairs_214 rfl (by first | rfl | exact z_isr_rf _) ?_
    refine z_iconst_1 (pc := 215) dL_pairs_215 ?_
    refine z_iald (pc := 216) dL_pairs_216 ((hV.at hFg).trans hwg) (z_v1) ?_
    rw [z_c1, hg1]
    refine z_imul (pc := 217) dL_pairs_217 ?_
    rw [show (2 : Int32) * nI (z_edo N oc) = nI (2 * z_edo N oc) from pk_mul 2 _]
    refine z_icmp_ne (pc := 218) (tgt := 275) dL_pairs_218 (by decide) (fun hn => absurd (hV.s) hn) (fun _ => ?_)
    refine z_aload_n (pc := 221) dL_pairs_221 rfl (by first | rfl | exact z_isr_rf _) ?_
    refine z_iconst_0 (pc := 222) dL_pairs_222 ?_
    refine z_iald (pc := 223) dL_pairs_223 ((hV.at hFg).trans hwg) (z_v0) ?_
    refine z_iconst_2 (pc := 224) dL_pairs_224 ?_
    rw [z_c0, hg0]
    by_cases h2 : N 0 0 < 2
    · refine z_icmp_lt (pc := 225) (tgt := 237) dL_pairs_225 (by decide) (fun _ => ?_) (fun hn => absurd ((nI_ltI (b := 2) (by omega) (by omega)).2 h2) hn)
      exact iL_pairs2 hFg hwg hg0 hV (by omega) (by omega)
    · refine z_icmp_lt (pc := 225) (tgt := 237) dL_pairs_225 (by decide) (fun hn => absurd hn (nI_nlt (b := 2) (by omega) (by omega))) (fun _ => ?_)
      obtain ⟨f, rfl, hf, hfb⟩ := hff.resolve_left (fun z => by omega)
      refine z_aload_n (pc := 228) dL_pairs_228 rfl (by first | rfl | exact z_isr_rf _) ?_
      refine z_iload (pc := 229) dL_pairs_229 rfl ?_
      refine z_callSX (pc := 231) (wL_opponent hV (nI f)) dL_pairs_231 cwL_99 okL_opponent rfl (by omega) rfl (Nat.le_of_ble_eq_true rfl) (by omega) (by omega) (fun v wN hN => ?_)
      obtain ⟨rfl, hV⟩ := hN
      rw [z_if_t ⟨f, hf, rfl⟩, nI_clamp (by omega)]
      have hne := hp.2.2 (by omega) f hf hfb
      cases hq : z_op I N f with
      | none => exact absurd hq hne
      | some q =>
        have hq2 := hp.1 f q hf hq
        rw [show z_fi (some q) = nI q from rfl]
        refine z_if_lt (pc := 234) (tgt := 275) dL_pairs_234 (by decide) (fun hn => absurd hn (nI_pos (by omega))) (fun _ => ?_)
        exact iL_pairs2 hFg hwg hg0 hV (by omega) (by omega)
  | succ m ih =>
    intro k hm hk w ff x7 x8 ck sk hV hff hck hsk
    have hkn : k < N 0 0 := by omega
    have hn := hV.n
    have hp := hV.p
    have hkr : z_rg (nI k) (N 0 0) := ⟨k, hkn, rfl⟩
    have ck' := nI_clamp (show k < 2 ^ 31 by omega)
    have nxt : ∀ (w : z_W) (ff : Int32) (al : Nat) (x7 x8 : Option Value) (ck' sk' : Nat), z_V G F a0 ws I N oc B w → (∃ f, ff = nI f ∧ f < k + 1 ∧ ∀ b, b < k + 1 → b = f ∨ z_bf (fun p => I 2 p 0) f b) → al = z_cu (z_op I N) (k + 1) → ck - 9 ≤ ck' → sk - 54 ≤ sk' → z_E G zL_pairs 9 (z_mq G (fun v w' => v = some (.int 1) ∧ z_V G F a0 ws I N oc B w') z_nx) 196 [some (.ref a0), some (.ref aw), some (.ref ag), some (.int (nI al)), some (.int (z_ss (fun p => I 2 p 0) (k + 1))), some (.int ff), some (.int (nI k)), x7, x8] [] w ck' sk' := by
      intro w ff al x7 x8 ck2 sk2 hV hff2 ha h1 h2
      have o1 : N 0 0 - (k + 1) = m := by clear hff hff2; omega
      have o2 : k + 1 ≤ N 0 0 := by clear hff hff2; omega
      have o3 : 9 * m + 8 ≤ ck2 := by clear hff hff2; omega
      have o4 : 54 * m + 48 ≤ sk2 := by clear hff hff2; omega
      subst ha
      refine z_iinc6 (pc := 196) dL_pairs_196 ?_
      refine z_goto (pc := 199) (tgt := 11) dL_pairs_199 (by decide) ?_
      rw [nI_1]
      exact ih (k + 1) o1 o2 w ff _ _ ck2 sk2 hV (Or.inr hff2) o3 o4
    have goF : ∀ (w : z_W) (ff x5 : Int32) (x8 : Option Value) (ck' sk' : Nat), z_V G F a0 ws I N oc B w → (∃ f, ff = nI f ∧ f < k + 1 ∧ ∀ b, b < k + 1 → b = f ∨ z_bf (fun p => I 2 p 0) f b) → ck - 4 ≤ ck' → sk - 24 ≤ sk' → z_E G zL_pairs 9 (z_mq G (fun v w' => v = some (.int 1) ∧ z_V G F a0 ws I N oc B w') z_nx) 65 [some (.ref a0), some (.ref aw), some (.ref ag), some (.int (nI (z_cu (z_op I N) k))), some (.int (z_ss (fun p => I 2 p 0) (k + 1))), some (.int x5), some (.int (nI k)), some (.int (z_fi (z_op I N k))), x8] [.int ff] w ck' sk' := by
      intro w ff x5 x8 ck1 sk1 hV hff h1 h2
      cases hq : z_op I N k with
      | none =>
        refine z_istore5 (pc := 65) dL_pairs_65 ?_
        refine z_iload (pc := 67) dL_pairs_67 rfl ?_
        refine z_iconst_m1 (pc := 69) dL_pairs_69 ?_
        refine z_icmp_ne (pc := 70) (tgt := 89) dL_pairs_70 (by decide) (fun hn => absurd (rfl) hn) (fun _ => ?_)
        refine z_iinc3 (pc := 73) dL_pairs_73 ?_
        refine z_aload_n (pc := 76) dL_pairs_76 rfl (by first | rfl | exact z_isr_rf _) ?_
        refine z_iload (pc := 77) dL_pairs_77 rfl ?_
        rw [nI_1]
        refine z_callSX (pc := 79) (wL_hasWhite hV (nI k)) dL_pairs_79 cwL_103 okL_hasWhite rfl (by omega) rfl (Nat.le_of_ble_eq_true rfl) (by omega) (by omega) (fun v wN hN => ?_)
        obtain ⟨rfl, hV⟩ := hN
        rw [z_if_t hkr, ck', show z_hwo I N k = -1000003 from (by unfold z_hwo; rw [hq])]
        refine z_ldc (pc := 82) dL_pairs_82 cc32 ?_
        refine z_icmp_eq (pc := 84) (tgt := 196) dL_pairs_84 (by decide) (fun _ => ?_) (fun hn => absurd (rfl) hn)
        exact nxt _ _ _ _ _ _ _ hV hff (by rw [z_cu, hq]; rfl) (by omega) (by omega)
      | some q =>
        obtain ⟨hqn, hqk, hqq⟩ := hp.1 k q hkn hq
        have hqr : z_rg (nI q) (N 0 0) := ⟨q, hqn, rfl⟩
        have cq := nI_clamp (show q < 2 ^ 31 by omega)
        have ecu : z_cu (z_op I N) k = z_cu (z_op I N) (k + 1) := by rw [z_cu, hq]; rfl
        have vk : vp_in (nI k) 8 := vp_in_nI (by omega) (by omega)
        have vq : vp_in (nI q) 8 := vp_in_nI (by omega) (by omega)
        have hwn := z_hw_n (I := I) hqk
        have go : z_E G zL_pairs 9 (z_mq G (fun v w' => v = some (.int 1) ∧ z_V G F a0 ws I N oc B w') z_nx) 123 [some (.ref a0), some (.ref aw), some (.ref ag), some (.int (nI (z_cu (z_op I N) k))), some (.int (z_ss (fun p => I 2 p 0) (k + 1))), some (.int ff), some (.int (nI k)), some (.int (nI q)), x8] [.int (z_b (z_hw I k q))] w ck1 sk1 := by
          refine z_istore8 (pc := 123) dL_pairs_123 ?_
          refine z_iload (pc := 125) dL_pairs_125 rfl ?_
          refine z_if_lt (pc := 127) (tgt := 194) dL_pairs_127 (by decide) (fun hn => absurd hn (nI_pos (by omega))) (fun _ => ?_)
          refine z_iload (pc := 130) dL_pairs_130 rfl ?_
          refine z_aload_n (pc := 132) dL_pairs_132 rfl (by first | rfl | exact z_isr_rf _) ?_
          refine z_iconst_0 (pc := 133) dL_pairs_133 ?_
          refine z_iald (pc := 134) dL_pairs_134 ((hV.at hFg).trans hwg) (z_v0) ?_
          rw [z_c0, hg0]
          refine z_icmp_ge (pc := 135) (tgt := 194) dL_pairs_135 (by decide) (fun hn => absurd hn (nI_ge hqn (by omega))) (fun _ => ?_)
          refine z_iload (pc := 138) dL_pairs_138 rfl ?_
          refine z_iload (pc := 140) dL_pairs_140 rfl ?_
          refine z_icmp_eq (pc := 142) (tgt := 194) dL_pairs_142 (by decide) (fun hn => absurd hn (fun z => hqk (nI_inj (by omega) (by omega) z))) (fun _ => ?_)
          refine z_aload_n (pc := 145) dL_pairs_145 rfl (by first | rfl | exact z_isr_rf _) ?_
          refine z_iload (pc := 146) dL_pairs_146 rfl ?_
          refine z_callSX (pc := 148) (wL_opponent hV (nI q)) dL_pairs_148 cwL_99 okL_opponent rfl (by omega) rfl (Nat.le_of_ble_eq_true rfl) (by omega) (by omega) (fun v wN hN => ?_)
          obtain ⟨rfl, hV⟩ := hN
          rw [z_if_t hqr, cq, hqq, show z_fi (some k) = nI k from rfl]
          refine z_iload (pc := 151) dL_pairs_151 rfl ?_
          refine z_icmp_ne (pc := 153) (tgt := 194) dL_pairs_153 (by decide) (fun hn => absurd (rfl) hn) (fun _ => ?_)
          refine z_aload_n (pc := 156) dL_pairs_156 rfl (by first | rfl | exact z_isr_rf _) ?_
          refine z_iload (pc := 157) dL_pairs_157 rfl ?_
          refine z_callSX (pc := 159) (wL_hasWhite hV (nI k)) dL_pairs_159 cwL_103 okL_hasWhite rfl (by omega) rfl (Nat.le_of_ble_eq_true rfl) (by omega) (by omega) (fun v wN hN => ?_)
          obtain ⟨rfl, hV⟩ := hN
          rw [z_if_t hkr, ck', show z_hwo I N k = z_b (z_hw I k q) from (by unfold z_hwo; rw [hq])]
          refine z_iload (pc := 162) dL_pairs_162 rfl ?_
          have eq2 : z_hwo I N q = z_b (z_hw I q k) := by unfold z_hwo; rw [hqq]
          by_cases hh : z_hw I k q
          · rw [z_b_t hh]
            refine z_if_eq (pc := 164) (tgt := 171) dL_pairs_164 (by decide) (fun hn => absurd hn (by decide)) (fun _ => ?_)
            refine z_iconst_1 (pc := 167) dL_pairs_167 ?_
            refine z_goto (pc := 168) (tgt := 172) dL_pairs_168 (by decide) ?_
            refine z_icmp_ne (pc := 172) (tgt := 194) dL_pairs_172 (by decide) (fun hn => absurd (rfl) hn) (fun _ => ?_)
            refine z_aload_n (pc := 175) dL_pairs_175 rfl (by first | rfl | exact z_isr_rf _) ?_
            refine z_iload (pc := 176) dL_pairs_176 rfl ?_
            refine z_callSX (pc := 178) (wL_hasWhite hV (nI q)) dL_pairs_178 cwL_103 okL_hasWhite rfl (by omega) rfl (Nat.le_of_ble_eq_true rfl) (by omega) (by omega) (fun v wN hN => ?_)
            obtain ⟨rfl, hV⟩ := hN
            rw [z_if_t hqr, cq, eq2, z_b_f (fun z => hwn.1 z hh)]
            refine z_iload (pc := 181) dL_pairs_181 rfl ?_
            refine z_if_eq (pc := 183) (tgt := 190) dL_pairs_183 (by decide) (fun hn => absurd hn (by decide)) (fun _ => ?_)
            refine z_iconst_0 (pc := 186) dL_pairs_186 ?_
            refine z_goto (pc := 187) (tgt := 191) dL_pairs_187 (by decide) ?_
            refine z_icmp_eq (pc := 191) (tgt := 196) dL_pairs_191 (by decide) (fun _ => ?_) (fun hn => absurd (rfl) hn)
            exact nxt _ _ _ _ _ _ _ hV hff ecu (by omega) (by omega)
          · rw [z_b_f hh]
            refine z_if_eq (pc := 164) (tgt := 171) dL_pairs_164 (by decide) (fun _ => ?_) (fun hn => absurd (rfl) hn)
            refine z_iconst_0 (pc := 171) dL_pairs_171 ?_
            refine z_icmp_ne (pc := 172) (tgt := 194) dL_pairs_172 (by decide) (fun hn => absurd (rfl) hn) (fun _ => ?_)
            refine z_aload_n (pc := 175) dL_pairs_175 rfl (by first | rfl | exact z_isr_rf _) ?_
            refine z_iload (pc := 176) dL_pairs_176 rfl ?_
            refine z_callSX (pc := 178) (wL_hasWhite hV (nI q)) dL_pairs_178 cwL_103 okL_hasWhite rfl (by omega) rfl (Nat.le_of_ble_eq_true rfl) (by omega) (by omega) (fun v wN hN => ?_)
            obtain ⟨rfl, hV⟩ := hN
            rw [z_if_t hqr, cq, eq2, z_b_t (hwn.2 hh)]
            refine z_iload (pc := 181) dL_pairs_181 rfl ?_
            refine z_if_eq (pc := 183) (tgt := 190) dL_pairs_183 (by decide) (fun _ => ?_) (fun hn => absurd (rfl) hn)
            refine z_iconst_1 (pc := 190) dL_pairs_190 ?_
            refine z_icmp_eq (pc := 191) (tgt := 196) dL_pairs_191 (by decide) (fun _ => ?_) (fun hn => absurd (rfl) hn)
            exact nxt _ _ _ _ _ _ _ hV hff ecu (by omega) (by omega)
        rw [show z_fi (some q) = nI q from rfl]
        refine z_istore5 (pc := 65) dL_pairs_65 ?_
        refine z_iload (pc := 67) dL_pairs_67 rfl ?_
        refine z_iconst_m1 (pc := 69) dL_pairs_69 ?_
        refine z_icmp_ne (pc := 70) (tgt := 89) dL_pairs_70 (by decide) (fun _ => ?_) (fun hn => absurd hn (fun z => nI_pos (n := q) (by omega) (by rw [z]; decide)))
        refine z_aload_n (pc := 89) dL_pairs_89 rfl (by first | rfl | exact z_isr_rf _) ?_
        refine z_iload (pc := 90) dL_pairs_90 rfl ?_
        refine z_iald (pc := 92) dL_pairs_92 ((hV.at hFw).trans hww) (vk) ?_
        refine z_aload_n (pc := 93) dL_pairs_93 rfl (by first | rfl | exact z_isr_rf _) ?_
        refine z_iload (pc := 94) dL_pairs_94 rfl ?_
        refine z_iald (pc := 96) dL_pairs_96 ((hV.at hFw).trans hww) (vq) ?_
        rw [ck', cq, hfw k hkn, hfw q hqn]
        by_cases a1 : I 0 k 0 - I 1 k 0 < I 0 q 0 - I 1 q 0
        · refine z_icmp_lt (pc := 97) (tgt := 118) dL_pairs_97 (by decide) (fun _ => ?_) (fun hn => absurd (a1) hn)
          rw [z_b_t (show z_hw I k q from Or.inl a1)] at go
          refine z_iconst_1 (pc := 118) dL_pairs_118 ?_
          refine z_goto (pc := 119) (tgt := 123) dL_pairs_119 (by decide) ?_
          exact go
        · refine z_icmp_lt (pc := 97) (tgt := 118) dL_pairs_97 (by decide) (fun hn => absurd hn (a1)) (fun _ => ?_)
          refine z_aload_n (pc := 100) dL_pairs_100 rfl (by first | rfl | exact z_isr_rf _) ?_
          refine z_iload (pc := 101) dL_pairs_101 rfl ?_
          refine z_iald (pc := 103) dL_pairs_103 ((hV.at hFw).trans hww) (vk) ?_
          refine z_aload_n (pc := 104) dL_pairs_104 rfl (by first | rfl | exact z_isr_rf _) ?_
          refine z_iload (pc := 105) dL_pairs_105 rfl ?_
          refine z_iald (pc := 107) dL_pairs_107 ((hV.at hFw).trans hww) (vq) ?_
          rw [ck', cq, hfw k hkn, hfw q hqn]
          by_cases a2 : I 0 k 0 - I 1 k 0 = I 0 q 0 - I 1 q 0
          · refine z_icmp_ne (pc := 108) (tgt := 122) dL_pairs_108 (by decide) (fun hn => absurd (a2) hn) (fun _ => ?_)
            refine z_iload (pc := 111) dL_pairs_111 rfl ?_
            refine z_iload (pc := 113) dL_pairs_113 rfl ?_
            by_cases a3 : k < q
            · refine z_icmp_ge (pc := 115) (tgt := 122) dL_pairs_115 (by decide) (fun hn => absurd hn (nI_ge a3 (by omega))) (fun _ => ?_)
              rw [z_b_t (show z_hw I k q from Or.inr ⟨a2, a3⟩)] at go
              refine z_iconst_1 (pc := 118) dL_pairs_118 ?_
              refine z_goto (pc := 119) (tgt := 123) dL_pairs_119 (by decide) ?_
              exact go
            · refine z_icmp_ge (pc := 115) (tgt := 122) dL_pairs_115 (by decide) (fun _ => ?_) (fun hn => absurd (nI_le (by omega) (by omega)) hn)
              rw [z_b_f (show ¬ z_hw I k q from fun z => z.elim a1 (fun z => a3 z.2))] at go
              refine z_iconst_0 (pc := 122) dL_pairs_122 ?_
              exact go
          · refine z_icmp_ne (pc := 108) (tgt := 122) dL_pairs_108 (by decide) (fun _ => ?_) (fun hn => absurd hn (a2))
            rw [z_b_f (show ¬ z_hw I k q from fun z => z.elim a1 (fun z => a2 z.1))] at go
            refine z_iconst_0 (pc := 122) dL_pairs_122 ?_
            exact go
    refine z_iload (pc := 11) dL_pairs_11 rfl ?_
    refine z_aload_n (pc := 13) dL_pairs_13 rfl (by first | rfl | exact z_isr_rf _) ?_
    refine z_iconst_0 (pc := 14) dL_pairs_14 ?_
    refine z_iald (pc := 15) dL_pairs_15 ((hV.at hFg).trans hwg) (z_v0) ?_
    rw [z_c0, hg0]
    refine z_icmp_ge (pc := 16) (tgt := 202) dL_pairs_16 (by decide) (fun hn => absurd hn (nI_ge hkn (by omega))) (fun _ => ?_)
    refine z_aload_n (pc := 19) dL_pairs_19 rfl (by first | rfl | exact z_isr_rf _) ?_
    refine z_iload (pc := 20) dL_pairs_20 rfl ?_
    refine z_callSX (pc := 22) (wL_opponent hV (nI k)) dL_pairs_22 cwL_99 okL_opponent rfl (by omega) rfl (Nat.le_of_ble_eq_true rfl) (by omega) (by omega) (fun v wN hN => ?_)
    obtain ⟨rfl, hV⟩ := hN
    rw [z_if_t hkr, ck']
    refine z_istore7 (pc := 25) dL_pairs_25 ?_
    refine z_iload (pc := 27) dL_pairs_27 rfl ?_
    refine z_aload_n (pc := 29) dL_pairs_29 rfl (by first | rfl | exact z_isr_rf _) ?_
    refine z_iload (pc := 30) dL_pairs_30 rfl ?_
    refine z_callSXp (pc := 32) (wL_score hV (nI k)) dL_pairs_32 cwL_101 okL_score rfl (by omega) rfl (Nat.le_of_ble_eq_true rfl) (by omega) (by omega) ?_
    rw [z_if_t hkr, ck']
    refine z_iadd (pc := 35) dL_pairs_35 ?_
    refine z_istore4 (pc := 36) dL_pairs_36 ?_
    refine z_iload (pc := 38) dL_pairs_38 rfl ?_
    rcases hff with ⟨rfl, rfl⟩ | ⟨f, rfl, hf, hfb⟩
    · refine z_if_lt (pc := 40) (tgt := 58) dL_pairs_40 (by decide) (fun _ => ?_) (fun hn => absurd (by decide) hn)
      refine z_iload (pc := 58) dL_pairs_58 rfl ?_
      refine z_goto (pc := 60) (tgt := 65) dL_pairs_60 (by decide) ?_
      exact goF _ _ _ _ _ _ hV ⟨0, rfl, by omega, fun b hb => Or.inl (by omega)⟩ (by omega) (by omega)
    · refine z_if_lt (pc := 40) (tgt := 58) dL_pairs_40 (by decide) (fun hn => absurd hn (nI_pos (by omega))) (fun _ => ?_)
      refine z_aload_n (pc := 43) dL_pairs_43 rfl (by first | rfl | exact z_isr_rf _) ?_
      refine z_iload (pc := 44) dL_pairs_44 rfl ?_
      refine z_callSXp (pc := 46) (wL_score hV (nI k)) dL_pairs_46 cwL_101 okL_score rfl (by omega) rfl (Nat.le_of_ble_eq_true rfl) (by omega) (by omega) ?_
      rw [z_if_t hkr, ck']
      refine z_aload_n (pc := 49) dL_pairs_49 rfl (by first | rfl | exact z_isr_rf _) ?_
      refine z_iload (pc := 50) dL_pairs_50 rfl ?_
      refine z_callSXp (pc := 52) (wL_score hV (nI f)) dL_pairs_52 cwL_101 okL_score rfl (by omega) rfl (Nat.le_of_ble_eq_true rfl) (by omega) (by omega) ?_
      rw [z_if_t ⟨f, by omega, rfl⟩, nI_clamp (show f < 2 ^ 31 by omega)]
      by_cases hle : I 2 k 0 ≤ I 2 f 0
      · refine z_icmp_le (pc := 55) (tgt := 63) dL_pairs_55 (by decide) (fun _ => ?_) (fun hn => absurd (hle) hn)
        refine z_iload (pc := 63) dL_pairs_63 rfl ?_
        refine goF _ _ _ _ _ _ hV ⟨f, rfl, by omega, fun b hb => ?_⟩ (by omega) (by omega)
        by_cases q : b = k
        · refine Or.inr ?_
          rw [q, z_bf_i]
          have := Int32.le_iff_toInt_le.1 hle
          omega
        · exact hfb b (by omega)
      · refine z_icmp_le (pc := 55) (tgt := 63) dL_pairs_55 (by decide) (fun hn => absurd hn (hle)) (fun _ => ?_)
        refine z_iload (pc := 58) dL_pairs_58 rfl ?_
        refine z_goto (pc := 60) (tgt := 65) dL_pairs_60 (by decide) ?_
        refine goF _ _ _ _ _ _ hV ⟨k, rfl, by omega, fun b hb => ?_⟩ (by omega) (by omega)
        by_cases q : b = k
        · exact Or.inl q
        · refine Or.inr ?_
          have h1 : z_bf (fun p => I 2 p 0) k f := Or.inl (Int32.not_le.mp hle)
          rcases hfb b (by omega) with z | z
          · rw [z]; exact h1
          · exact z_bf_tr h1 z
theorem mL_pairs (hFw : F aw) (hww : ws aw = some (.inl (G.2.1 0, 8, .inl fw))) (hFg : F ag) (hwg : ws ag = some (.inl (G.2.1 0, 7, .inl fg))) (hfw : ∀ p, p < N 0 0 → fw p = I 0 p 0 - I 1 p 0) (hg0 : fg 0 = nI (N 0 0)) (hg1 : fg 1 = nI (z_edo N oc)) {w : z_W} (hV : z_V G F a0 ws I N oc B w) : z_M G zL_pairs 9 [.ref a0, .ref aw, .ref ag] w 80 480 (fun v w' => v = some (.int 1) ∧ z_V G F a0 ws I N oc B w') z_nx := by
  have hn := hV.n.1
  refine z_M.of (by decide +kernel) rfl (by intro v hv; simp only [List.mem_cons, List.not_mem_nil, or_false] at hv; rcases hv with rfl | rfl | rfl <;> first | rfl | exact z_isr_cat (z_isr_rf _)) (Nat.le_of_ble_eq_true rfl) ?_
  show z_E _ zL_pairs _ _ 0 [some (.ref a0), some (.ref aw), some (.ref ag), none, none, none, none, none, none] [] _ _ _
  refine z_iconst_0 (pc := 0) dL_pairs_0 ?_
  refine z_istore3 (pc := 1) dL_pairs_1 ?_
  refine z_iconst_0 (pc := 2) dL_pairs_2 ?_
  refine z_istore4 (pc := 3) dL_pairs_3 ?_
  refine z_iconst_m1 (pc := 5) dL_pairs_5 ?_
  refine z_istore5 (pc := 6) dL_pairs_6 ?_
  refine z_iconst_0 (pc := 8) dL_pairs_8 ?_
  refine z_istore6 (pc := 9) dL_pairs_9 ?_
  exact iL_pairs hFw hww hFg hwg hfw hg0 hg1 (N 0 0) 0 rfl (Nat.zero_le _) w (-1) _ _ 80 480 hV (Or.inl ⟨rfl, rfl⟩) (by omega) (by omega)
end LC

