/-! the reference's notes: the second loop -/
theorem z_m2 : ∀ n, n < 7 → ((nI n - nI n / 2 * 2 = 1) ↔ n % 2 = 1) := by decide +kernel
def z_ow (I : z_TI) (n l : Nat) : Int32 := if n % 2 = 1 then I 12 n l else 2 * I 11 n l - I 12 n l
theorem z_bd_ow {I : z_TI} {n l : Nat} : z_bd I n l ↔ 3 ≤ I 11 n l ∧ 3 * z_ow I n l < 2 * I 11 n l := by
  unfold z_bd bad z_ow
  by_cases h : n % 2 = 1
  · rw [if_pos h, if_pos h, if_neg (by decide)]
  · rw [if_neg h, if_neg h, if_pos rfl]
abbrev z_b4 (n l n' l' : Nat) : Prop := n' < n ∨ (n' = n ∧ l' < l)
def z_j2 (I1 I2 : z_TI) (M1 M' : z_TM) (n l : Nat) : Prop := (∀ f, f ≠ 18 → M' f = M1 f) ∧ ∀ n' l', 1 ≤ n' → n' ≤ 6 → l' < 4 ^ n' → M' 18 (z_sh n' + l') = if z_b4 n l n' l' then I2 13 n' l' else I1 13 n' l'
section NT2
variable {G : z_G} {F : Nat → Prop} {A : z_TA} {M1 : z_TM} {I1 I2 : z_TI} {bd : Nat → Nat}
theorem iX6_notes3 {Z : z_Gq} {w0 : z_W} {x1 x2 : Option Value} (hl1 : z_Jl I1 M1 bd) (h2 : ∀ n l, 1 ≤ n → n ≤ 6 → l < 4 ^ n → (I2 13 n l ≠ 0 ↔ (I1 13 n l ≠ 0 ∨ (z_bd I1 n l ∧ ∀ k, 1 ≤ k → k < n → I2 13 k (l % 4 ^ k) = 0)))) (h01a : ∀ n l, 1 ≤ n → n ≤ 6 → l < 4 ^ n → (I2 13 n l = 0 ∨ I2 13 n l = 1)) {n : Nat} (h1 : 1 ≤ n) (h6 : n ≤ 6) (kk : ∀ M' w' x4 x5 x6, z_Mo G F A M' w' → z_fr F w0 w' → z_j2 I1 I2 M1 M' n (4 ^ n) → z_E G zX6_notes 3 Z 222 [some (.ref (A 22 0 0)), x1, x2, some (.int (nI n)), x4, x5, x6] [] w' 0 0) : ∀ m j : Nat, 4 ^ n - j = m → j ≤ 4 ^ n → ∀ (M' : z_TM) (w : z_W) x5 x6, z_Mo G F A M' w → z_fr F w0 w → z_j2 I1 I2 M1 M' n j → z_E G zX6_notes 3 Z 102 [some (.ref (A 22 0 0)), x1, x2, some (.int (nI n)), some (.int (nI j)), x5, x6] [] w 0 0 := by
  have hp := z_p4 n (by omega)
  have hsh := z_sh_s n (by omega) h1
  intro m
  induction m with
  | zero =>
    intro j hm hj M' w x5 x6 hM hf hs
    have : j = 4 ^ n := by omega
    subst this
    refine z_iload (pc := 102) dX6_notes_102 rfl ?_
    refine z_iconst_1 (pc := 104) dX6_notes_104 ?_
    refine z_iconst_2 (pc := 105) dX6_notes_105 ?_
    refine z_iload_n (pc := 106) dX6_notes_106 rfl ?_
    refine z_imul (pc := 107) dX6_notes_107 ?_
    refine z_ishl (pc := 108) dX6_notes_108 ?_
    rw [z_shl n (by omega)]
    refine z_icmp_ge (pc := 109) (tgt := 222) dX6_notes_109 (by decide) (fun _ => ?_) (fun hn => absurd (nI_le (Nat.le_refl _) (by omega)) hn)
    exact kk M' w _ _ _ hM hf hs
  | succ m ih =>
    intro j hm hj M' w x5 x6 hM hf hs
    have hjn : j < 4 ^ n := by omega
    have hm1 : 4 ^ n - (j + 1) = m := by omega
    have hin : vp_in (nI (z_sh n + j)) 5460 := vp_in_nI (by omega) (by omega)
    have hat : z_sh n + j < 2 ^ 31 := by omega
    have hmod : j % 4 ^ n = j := Nat.mod_eq_of_lt hjn
    have hl := hl1 n j h1 h6 hjn
    have e16 : M' 16 (z_sh n + j) = I1 11 n j := by rw [hs.1 16 (by decide)]; exact hl.1
    have e17 : M' 17 (z_sh n + j) = I1 12 n j := by rw [hs.1 17 (by decide)]; exact hl.2.1
    have e18 : M' 18 (z_sh n + j) = I1 13 n j := by
      rw [hs.2 n j h1 h6 hjn, if_neg]
      unfold z_b4
      omega
    have hgn : z_gn M' j n ↔ (I1 13 n j ≠ 0 ∨ ∃ k, 1 ≤ k ∧ k < n ∧ I2 13 k (j % 4 ^ k) ≠ 0) := by
      have ek : ∀ k, 1 ≤ k → k < n → M' 18 (z_sh k + j % 4 ^ k) = I2 13 k (j % 4 ^ k) := fun k a b => by
        rw [hs.2 k _ a (by omega) (Nat.mod_lt _ (Nat.pow_pos (by omega))), if_pos (Or.inl b)]
      constructor
      · rintro ⟨k, a, b, c⟩
        by_cases q : k = n
        · rw [q, hmod, e18] at c; exact Or.inl c
        · rw [ek k a (by omega)] at c; exact Or.inr ⟨k, a, by omega, c⟩
      · rintro (c | ⟨k, a, b, c⟩)
        · exact ⟨n, h1, Nat.le_refl _, by rw [hmod, e18]; exact c⟩
        · exact ⟨k, a, by omega, by rw [ek k a b]; exact c⟩
    have fin : ∀ (v : Int32) (o : Int32), (v = 0 ∨ v = 1) → (v ≠ 0 ↔ I2 13 n j ≠ 0) → z_E G zX6_notes 3 Z 215 [some (.ref (A 22 0 0)), x1, x2, some (.int (nI n)), some (.int (nI j)), some (.int (nI (z_sh n + j))), some (.int o)] [.int v, .int (nI (z_sh n + j)), .ref (A 18 0 0)] w 0 0 := by
      intro v o hv hvi
      have hv2 : v = I2 13 n j := by
        rcases hv with rfl | rfl
        · rcases h01a n j h1 h6 hjn with q | q
          · exact q.symm
          · exact absurd rfl (hvi.2 (by rw [q]; decide))
        · rcases h01a n j h1 h6 hjn with q | q
          · exact absurd q (hvi.1 (by decide))
          · exact q.symm
      have hnar : vp_nar .boolean v = v := by rcases hv with rfl | rfl <;> rfl
      refine z_zast (pc := 215) dX6_notes_215 (hM.k18) (hin) ?_
      rw [nI_clamp hat, hnar]
      refine z_genM (hM.p18 (z_sh n + j) v) (fun w2 hM2 hf2 => ?_)
      refine z_iinc4 (pc := 216) dX6_notes_216 ?_
      refine z_goto (pc := 219) (tgt := 102) dX6_notes_219 (by decide) ?_
      rw [nI_1]
      refine ih (j + 1) hm1 hjn _ w2 _ _ hM2 (hf.tr hf2) ⟨fun f a => by rw [z_sM_f _ _ _ a]; exact hs.1 f a, fun n' l' a b c => ?_⟩
      rw [z_sM_s]
      by_cases q : n' = n ∧ l' = j
      · obtain ⟨rfl, rfl⟩ := q
        rw [z_upd_s, if_pos (Or.inr ⟨rfl, Nat.lt_succ_self _⟩), hv2]
      · rw [z_upd_n _ _ (fun z => q (z_sh_i a b c h1 h6 hjn z)), hs.2 n' l' a b c]
        have : z_b4 n j n' l' ↔ z_b4 n (j + 1) n' l' := by
          unfold z_b4
          omega
        by_cases r : z_b4 n j n' l'
        · rw [if_pos r, if_pos (this.1 r)]
        · rw [if_neg r, if_neg (fun z => r (this.2 z))]
    have h155 : z_E G zX6_notes 3 Z 155 [some (.ref (A 22 0 0)), x1, x2, some (.int (nI n)), some (.int (nI j)), some (.int (nI (z_sh n + j))), x6] [.int (z_ow I1 n j)] w 0 0 := by
      refine z_istore6 (pc := 155) dX6_notes_155 ?_
      refine z_aload_n (pc := 157) dX6_notes_157 rfl (by first | rfl | exact z_isr_rf _) ?_
      refine gfX6_50 (pc := 158) rfl dX6_notes_158 (hM.k22) rfl ?_
      refine z_iload (pc := 161) dX6_notes_161 rfl ?_
      refine z_aload_n (pc := 163) dX6_notes_163 rfl (by first | rfl | exact z_isr_rf _) ?_
      refine gfX6_50 (pc := 164) rfl dX6_notes_164 (hM.k22) rfl ?_
      refine z_iload (pc := 167) dX6_notes_167 rfl ?_
      refine z_zald (pc := 169) dX6_notes_169 (hM.k18) (hin) ?_
      rw [nI_clamp hat, e18]
      refine z_if_ne (pc := 170) (tgt := 210) dX6_notes_170 (by decide) (fun c1 => ?_) (fun c1 => ?_)
      · refine z_iconst_1 (pc := 210) dX6_notes_210 ?_
        refine z_goto (pc := 211) (tgt := 215) dX6_notes_211 (by decide) ?_
        exact fin 1 _ (Or.inr rfl) ⟨fun _ => (h2 n j h1 h6 hjn).2 (Or.inl c1), fun _ => by decide⟩
      · have no : ¬ (z_bd I1 n j ∧ ∀ k, 1 ≤ k → k < n → I2 13 k (j % 4 ^ k) = 0) → z_E G zX6_notes 3 Z 214 [some (.ref (A 22 0 0)), x1, x2, some (.int (nI n)), some (.int (nI j)), some (.int (nI (z_sh n + j))), some (.int (z_ow I1 n j))] [.int (nI (z_sh n + j)), .ref (A 18 0 0)] w 0 0 := by
          intro h
          refine z_iconst_0 (pc := 214) dX6_notes_214 ?_
          exact fin 0 _ (Or.inl rfl) ⟨fun z => absurd rfl z, fun z => ((h2 n j h1 h6 hjn).1 z).elim (fun z => absurd c1 z) (fun z => absurd z h)⟩
        refine z_aload_n (pc := 173) dX6_notes_173 rfl (by first | rfl | exact z_isr_rf _) ?_
        refine gfX6_44 (pc := 174) rfl dX6_notes_174 (hM.k22) rfl ?_
        refine z_iload (pc := 177) dX6_notes_177 rfl ?_
        refine z_iald (pc := 179) dX6_notes_179 (hM.k16) (hin) ?_
        refine z_iconst_3 (pc := 180) dX6_notes_180 ?_
        rw [nI_clamp hat, e16]
        refine z_icmp_lt (pc := 181) (tgt := 214) dX6_notes_181 (by decide) (fun c2 => ?_) (fun c2 => ?_)
        · exact no (fun z => Int32.not_lt.mpr (z_bd_ow.1 z.1).1 c2)
        · refine z_iconst_3 (pc := 184) dX6_notes_184 ?_
          refine z_iload (pc := 185) dX6_notes_185 rfl ?_
          refine z_imul (pc := 187) dX6_notes_187 ?_
          refine z_iconst_2 (pc := 188) dX6_notes_188 ?_
          refine z_aload_n (pc := 189) dX6_notes_189 rfl (by first | rfl | exact z_isr_rf _) ?_
          refine gfX6_44 (pc := 190) rfl dX6_notes_190 (hM.k22) rfl ?_
          refine z_iload (pc := 193) dX6_notes_193 rfl ?_
          refine z_iald (pc := 195) dX6_notes_195 (hM.k16) (hin) ?_
          rw [nI_clamp hat, e16]
          refine z_imul (pc := 196) dX6_notes_196 ?_
          refine z_icmp_ge (pc := 197) (tgt := 214) dX6_notes_197 (by decide) (fun c3 => ?_) (fun c3 => ?_)
          · exact no (fun z => Int32.not_lt.mpr c3 (z_bd_ow.1 z.1).2)
          · refine z_aload_n (pc := 200) dX6_notes_200 rfl (by first | rfl | exact z_isr_rf _) ?_
            refine z_iload (pc := 201) dX6_notes_201 rfl ?_
            refine z_iload_n (pc := 203) dX6_notes_203 rfl ?_
            refine z_callVp (pc := 204) (mX6_isGone hM (l := j) (n := n) (by omega) h6) dX6_notes_204 cwX6_121 okX6_isGone rfl (hM.k22) rfl rfl (by omega) rfl (Nat.le_of_ble_eq_true rfl) ?_
            refine z_if_ne (pc := 207) (tgt := 214) dX6_notes_207 (by decide) (fun c4 => ?_) (fun c4 => ?_)
            · have c4 := hgn.1 (z_b_1 c4)
              exact no (fun z => c4.elim (fun q => q c1) (fun ⟨k, a, b, c⟩ => c (z.2 k a b)))
            · have c4 := z_b_0 c4
              refine z_iconst_1 (pc := 210) dX6_notes_210 ?_
              refine z_goto (pc := 211) (tgt := 215) dX6_notes_211 (by decide) ?_
              exact fin 1 _ (Or.inr rfl) ⟨fun _ => (h2 n j h1 h6 hjn).2 (Or.inr ⟨z_bd_ow.2 ⟨Int32.not_lt.mp c2, Int32.not_le.mp c3⟩, fun k a b => Classical.not_not.1 (fun c => c4 (hgn.2 (Or.inr ⟨k, a, b, c⟩)))⟩), fun _ => by decide⟩
    refine z_iload (pc := 102) dX6_notes_102 rfl ?_
    refine z_iconst_1 (pc := 104) dX6_notes_104 ?_
    refine z_iconst_2 (pc := 105) dX6_notes_105 ?_
    refine z_iload_n (pc := 106) dX6_notes_106 rfl ?_
    refine z_imul (pc := 107) dX6_notes_107 ?_
    refine z_ishl (pc := 108) dX6_notes_108 ?_
    rw [z_shl n (by omega)]
    refine z_icmp_ge (pc := 109) (tgt := 222) dX6_notes_109 (by decide) (fun hn => absurd hn (nI_ge hjn (by omega))) (fun _ => ?_)
    refine z_iload_n (pc := 112) dX6_notes_112 rfl ?_
    refine z_callSp (pc := 113) (mX6_shorter (G := G) (n := n) (by omega) h1) dX6_notes_113 cwX6_115 okX6_shorter rfl (by omega) rfl (Nat.le_of_ble_eq_true rfl) ?_
    refine z_iload (pc := 116) dX6_notes_116 rfl ?_
    refine z_iadd (pc := 118) dX6_notes_118 ?_
    rw [nI_add]
    refine z_istore5 (pc := 119) dX6_notes_119 ?_
    refine z_iload_n (pc := 121) dX6_notes_121 rfl ?_
    refine z_iconst_2 (pc := 122) dX6_notes_122 ?_
    refine z_irem (pc := 123) dX6_notes_123 (by decide) ?_
    refine z_iconst_1 (pc := 124) dX6_notes_124 ?_
    refine z_icmp_ne (pc := 125) (tgt := 138) dX6_notes_125 (by decide) (fun c0 => ?_) (fun c0 => ?_)
    · have c0 : ¬ n % 2 = 1 := fun z => c0 ((z_m2 n (by omega)).2 z)
      refine z_iconst_2 (pc := 138) dX6_notes_138 ?_
      refine z_aload_n (pc := 139) dX6_notes_139 rfl (by first | rfl | exact z_isr_rf _) ?_
      refine gfX6_44 (pc := 140) rfl dX6_notes_140 (hM.k22) rfl ?_
      refine z_iload (pc := 143) dX6_notes_143 rfl ?_
      refine z_iald (pc := 145) dX6_notes_145 (hM.k16) (hin) ?_
      rw [nI_clamp hat, e16]
      refine z_imul (pc := 146) dX6_notes_146 ?_
      refine z_aload_n (pc := 147) dX6_notes_147 rfl (by first | rfl | exact z_isr_rf _) ?_
      refine gfX6_47 (pc := 148) rfl dX6_notes_148 (hM.k22) rfl ?_
      refine z_iload (pc := 151) dX6_notes_151 rfl ?_
      refine z_iald (pc := 153) dX6_notes_153 (hM.k17) (hin) ?_
      rw [nI_clamp hat, e17]
      refine z_isub (pc := 154) dX6_notes_154 ?_
      rw [show 2 * I1 11 n j - I1 12 n j = z_ow I1 n j from (if_neg c0).symm]
      exact h155
    · have c0 : n % 2 = 1 := (z_m2 n (by omega)).1 c0
      refine z_aload_n (pc := 128) dX6_notes_128 rfl (by first | rfl | exact z_isr_rf _) ?_
      refine gfX6_47 (pc := 129) rfl dX6_notes_129 (hM.k22) rfl ?_
      refine z_iload (pc := 132) dX6_notes_132 rfl ?_
      refine z_iald (pc := 134) dX6_notes_134 (hM.k17) (hin) ?_
      rw [nI_clamp hat, e17, show I1 12 n j = z_ow I1 n j from (if_pos c0).symm]
      refine z_goto (pc := 135) (tgt := 155) dX6_notes_135 (by decide) ?_
      exact h155
theorem iX6_notes2 {QR QX} {w0 : z_W} {x1 x2 : Option Value} (hl1 : z_Jl I1 M1 bd) (h2 : ∀ n l, 1 ≤ n → n ≤ 6 → l < 4 ^ n → (I2 13 n l ≠ 0 ↔ (I1 13 n l ≠ 0 ∨ (z_bd I1 n l ∧ ∀ k, 1 ≤ k → k < n → I2 13 k (l % 4 ^ k) = 0)))) (h01a : ∀ n l, 1 ≤ n → n ≤ 6 → l < 4 ^ n → (I2 13 n l = 0 ∨ I2 13 n l = 1)) (kk : ∀ M' w', z_Mo G F A M' w' → z_fr F w0 w' → (∀ f, f ≠ 18 → M' f = M1 f) → (∀ n l, 1 ≤ n → n ≤ 6 → l < 4 ^ n → M' 18 (z_sh n + l) = I2 13 n l) → QR none w') : ∀ m i : Nat, 7 - i = m → 1 ≤ i → i ≤ 7 → ∀ (M' : z_TM) (w : z_W) x4 x5 x6, z_Mo G F A M' w → z_fr F w0 w → z_j2 I1 I2 M1 M' i 0 → z_E G zX6_notes 3 (z_mq G QR QX) 93 [some (.ref (A 22 0 0)), x1, x2, some (.int (nI i)), x4, x5, x6] [] w 0 0 := by
  intro m
  induction m with
  | zero =>
    intro i hm h1 hi M' w x4 x5 x6 hM hf hs
    have : i = 7 := by omega
    subst this
    refine z_iload_n (pc := 93) dX6_notes_93 rfl ?_
    refine z_bipush_6 (pc := 94) dX6_notes_94 ?_
    refine z_icmp_gt (pc := 96) (tgt := 228) dX6_notes_96 (by decide) (fun _ => ?_) (fun hn => absurd ((nI_ltI (a := 6) (b := 7) (by omega) (by omega)).2 (by omega)) hn)
    refine z_vret (pc := 228) dX6_notes_228 rfl (kk M' w hM hf hs.1 (fun n l a b c => ?_))
    rw [hs.2 n l a b c, if_pos (Or.inl (by omega))]
  | succ m ih =>
    intro i hm h1 hi M' w x4 x5 x6 hM hf hs
    refine z_iload_n (pc := 93) dX6_notes_93 rfl ?_
    refine z_bipush_6 (pc := 94) dX6_notes_94 ?_
    refine z_icmp_gt (pc := 96) (tgt := 228) dX6_notes_96 (by decide) (fun hn => absurd hn (fun z => absurd ((nI_ltI (a := 6) (b := i) (by omega) (by omega)).1 z) (by omega))) (fun _ => ?_)
    refine z_iconst_0 (pc := 99) dX6_notes_99 ?_
    refine z_istore4 (pc := 100) dX6_notes_100 ?_
    refine iX6_notes3 hl1 h2 h01a (n := i) h1 (by omega) (fun M2 w2 y4 y5 y6 hM2 hf2 hs2 => ?_) (4 ^ i) 0 rfl (Nat.zero_le _) M' w _ _ hM hf hs
    refine z_iinc3 (pc := 222) dX6_notes_222 ?_
    refine z_goto (pc := 225) (tgt := 93) dX6_notes_225 (by decide) ?_
    rw [nI_1]
    refine ih (i + 1) (by omega) (by omega) (by omega) M2 w2 _ _ _ hM2 hf2 ⟨hs2.1, fun n' l' a b c => ?_⟩
    rw [hs2.2 n' l' a b c]
    have : z_b4 i (4 ^ i) n' l' ↔ z_b4 (i + 1) 0 n' l' := by
      unfold z_b4
      constructor
      · rintro (q | ⟨q, _⟩) <;> exact Or.inl (by omega)
      · rintro (q | ⟨_, q⟩)
        · by_cases r : n' = i
          · exact Or.inr ⟨r, by rw [← r]; exact c⟩
          · exact Or.inl (by omega)
        · omega
    by_cases r : z_b4 i (4 ^ i) n' l'
    · rw [if_pos r, if_pos (this.1 r)]
    · rw [if_neg r, if_neg (fun z => r (this.2 z))]
end NT2

