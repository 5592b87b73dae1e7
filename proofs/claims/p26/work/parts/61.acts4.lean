/-! a try -/
def z_Qsol (G : z_G) (F : Nat → Prop) (a0 : Nat) (ws : z_W) (I : z_TI) (N : z_TN) (oc : Option Nat) (B : z_TB) (w : z_W) (x y m : Int32) (v : Option Value) (wN : z_W) : Prop := (∃ p z, p < N 0 0 ∧ z < N 2 0 ∧ x = nI p ∧ y = nI z ∧ z_rg m 4 ∧ I 4 p z = 0 ∧ v = some (.int (if m = bst (I 9 z 0) then 1 else 0)) ∧ z_V G F a0 ws (z_sI (z_sI I 4 p z 1) 3 p (z_th I z) (rb (I 3 p (z_th I z)) (if m = bst (I 9 z 0) then 1 else 0))) N oc B wN) ∨ (wN = w ∧ ((¬ (z_rg x (N 0 0) ∧ z_rg y (N 2 0)) ∧ v = some (.int (-1000001))) ∨ ((z_rg x (N 0 0) ∧ z_rg y (N 2 0)) ∧ ¬ z_rg m 4 ∧ v = some (.int (-1000002))) ∨ ((z_rg x (N 0 0) ∧ z_rg y (N 2 0)) ∧ z_rg m 4 ∧ (¬ ∀ p z, x = nI p → y = nI z → p < N 0 0 → z < N 2 0 → I 4 p z = 0) ∧ v = some (.int (-1000003)))))
section LI1
variable {G : z_G} {F : Nat → Prop} {a0 ap aw ag : Nat} {ws w : z_W} {I : z_TI} {N : z_TN} {oc : Option Nat} {B : z_TB}
variable {v : Option Value} {wN : z_W}
theorem z_solx {x y m : Int32} (h : z_Qsol G F a0 ws I N oc B w x y m v wN) (hn : ¬ (z_rg x (N 0 0) ∧ z_rg y (N 2 0))) : wN = w ∧ v = some (.int (-1000001)) := by
  rcases h with ⟨p, z, a, b, rfl, rfl, -⟩ | ⟨e, ⟨-, h⟩ | ⟨h, -⟩ | ⟨h, -⟩⟩
  · exact absurd ⟨⟨p, a, rfl⟩, ⟨z, b, rfl⟩⟩ hn
  · exact ⟨e, h⟩
  · exact absurd h hn
  · exact absurd h hn
theorem z_sol1 {p z : Nat} {m : Int32} (h : z_Qsol G F a0 ws I N oc B w (nI p) (nI z) m v wN) (hp : p < N 0 0) (hz : z < N 2 0) (hm : ¬ z_rg m 4) : wN = w ∧ v = some (.int (-1000002)) := by
  rcases h with ⟨-, -, -, -, -, -, h, -⟩ | ⟨e, ⟨h, -⟩ | ⟨-, -, h⟩ | ⟨-, h, -⟩⟩
  · exact absurd h hm
  · exact absurd ⟨⟨p, hp, rfl⟩, ⟨z, hz, rfl⟩⟩ h
  · exact ⟨e, h⟩
  · exact absurd h hm
theorem z_sol3 {p z : Nat} {m : Int32} (h : z_Qsol G F a0 ws I N oc B w (nI p) (nI z) m v wN) (hp : p < N 0 0) (hz : z < N 2 0) (h8 : N 0 0 ≤ 8) (h40 : N 2 0 ≤ 40) (hm : z_rg m 4) (h4 : I 4 p z ≠ 0) : wN = w ∧ v = some (.int (-1000003)) := by
  rcases h with ⟨p', z', a, b, e1, e2, -, h, -⟩ | ⟨e, ⟨h, -⟩ | ⟨-, h, -⟩ | ⟨-, -, -, h⟩⟩
  · have q1 := nI_inj (by omega) (by omega) e1
    have q2 := nI_inj (by omega) (by omega) e2
    rw [q1, q2] at h4
    exact absurd h h4
  · exact absurd ⟨⟨p, hp, rfl⟩, ⟨z, hz, rfl⟩⟩ h
  · exact absurd hm h
  · exact ⟨e, h⟩
theorem z_sol0 {p z : Nat} {m : Int32} (h : z_Qsol G F a0 ws I N oc B w (nI p) (nI z) m v wN) (hp : p < N 0 0) (hz : z < N 2 0) (h8 : N 0 0 ≤ 8) (h40 : N 2 0 ≤ 40) (hm : z_rg m 4) (h4 : I 4 p z = 0) : v = some (.int (if m = bst (I 9 z 0) then 1 else 0)) ∧ z_V G F a0 ws (z_sI (z_sI I 4 p z 1) 3 p (z_th I z) (rb (I 3 p (z_th I z)) (if m = bst (I 9 z 0) then 1 else 0))) N oc B wN := by
  rcases h with ⟨p', z', a, b, e1, e2, -, -, h⟩ | ⟨e, ⟨h, -⟩ | ⟨-, h, -⟩ | ⟨-, -, h, -⟩⟩
  · have q1 := nI_inj (by omega) (by omega) e1
    have q2 := nI_inj (by omega) (by omega) e2
    subst q1 q2
    exact h
  · exact absurd ⟨⟨p, hp, rfl⟩, ⟨z, hz, rfl⟩⟩ h
  · exact absurd hm h
  · refine absurd (fun p' z' e1 e2 a b => ?_) h
    have q1 := nI_inj (by omega) (by omega) e1
    have q2 := nI_inj (by omega) (by omega) e2
    rw [← q1, ← q2]
    exact h4
theorem z_LI.solve {fp fw fg : Nat → Int32} (h : z_LI I N oc fp fw fg) {I' : z_TI} {p z : Nat} (hp : p < N 0 0) (hz : z < 40) (h8 : N 0 0 ≤ 8) (h4 : ∀ p' z', I' 4 p' z' ≠ 0 ↔ (I 4 p' z' ≠ 0 ∨ (p' = p ∧ z' = z))) (e0 : I' 0 = I 0) (e1 : I' 1 = I 1) (e8 : I' 8 = I 8) : z_LI I' N oc (upd fp (2 * p + z / 20) (fp (2 * p + z / 20) ||| nI (2 ^ (z % 20)))) fw fg := by
  obtain ⟨htr, h2⟩ := h
  refine ⟨htr.set hp hz h8 h4, ?_⟩
  have em : ∀ g, z_mvs I' g = z_mvs I g := fun g => by unfold z_mvs; rw [e8]
  rw [e0, e1]
  refine ⟨h2.1, h2.2.1, h2.2.2.1, h2.2.2.2.1, h2.2.2.2.2.1, fun g hg => ?_⟩
  rw [em]
  exact h2.2.2.2.2.2 g hg
theorem iL_actSp {fp : Nat → Int32} (hFp : F ap) (hV : z_V G F a0 ws I N oc B w) (hwp : ws ap = some (.inl (G.2.1 0, 16, .inl fp))) {p z : Nat} (hp : p < 8) (hz : z < 40) {Z : z_Gq} {x0 x2 x3 x4 x5 x6 x8 x10 x11 x12 x13 x14 x15 : Option Value} {k n : Nat} (kk : ∀ ws' w', z_V G F a0 ws' I N oc B w' → ws' ap = some (.inl (G.2.1 0, 16, .inl (upd fp (2 * p + z / 20) (fp (2 * p + z / 20) ||| nI (2 ^ (z % 20)))))) → (∀ b, b ≠ ap → ws' b = ws b) → z_E G zL_acts 10 Z 1100 [x0, some (.ref ap), x2, x3, x4, x5, x6, some (.int (nI p)), x8, some (.int (nI z)), x10, x11, x12, x13, x14, x15] [] w' k n) : z_E G zL_acts 10 Z 1078 [x0, some (.ref ap), x2, x3, x4, x5, x6, some (.int (nI p)), x8, some (.int (nI z)), x10, x11, x12, x13, x14, x15] [] w k n := by
  have hix : 2 * p + z / 20 < 16 := by omega
  have vix : vp_in (nI (2 * p + z / 20)) 16 := vp_in_nI hix (by omega)
  have hpa := (hV.at hFp).trans hwp
  refine z_aload_n (pc := 1078) dL_acts_1078 rfl (by first | rfl | exact z_isr_rf _) ?_
  refine z_iconst_2 (pc := 1079) dL_acts_1079 ?_
  refine z_iload (pc := 1080) dL_acts_1080 rfl ?_
  refine z_imul (pc := 1082) dL_acts_1082 ?_
  rw [show (2 : Int32) * nI p = nI (2 * p) from pk_mul 2 p]
  refine z_iload (pc := 1083) dL_acts_1083 rfl ?_
  refine z_bipush_20 (pc := 1085) dL_acts_1085 ?_
  refine z_idiv (pc := 1087) dL_acts_1087 (by first | decide | assumption) ?_
  rw [show nI z / 20 = nI (z / 20) from pk_div (d := 20) (by omega) (by decide) (by decide)]
  refine z_iadd (pc := 1088) dL_acts_1088 ?_
  rw [nI_add]
  refine z_dup2 (pc := 1089) dL_acts_1089 (by first | rfl | exact z_isr_cat (z_isr_rf _)) (by first | rfl | exact z_isr_cat (z_isr_rf _)) ?_
  refine z_iald (pc := 1090) dL_acts_1090 (hpa) (vix) ?_
  rw [nI_clamp (show 2 * p + z / 20 < 2 ^ 31 by omega)]
  refine z_iconst_1 (pc := 1091) dL_acts_1091 ?_
  refine z_iload (pc := 1092) dL_acts_1092 rfl ?_
  refine z_bipush_20 (pc := 1094) dL_acts_1094 ?_
  refine z_irem (pc := 1096) dL_acts_1096 (by first | decide | assumption) ?_
  rw [show nI z - nI z / 20 * 20 = nI (z % 20) from pk_rem (d := 20) (by omega) (by decide) (by decide)]
  refine z_ishl (pc := 1097) dL_acts_1097 ?_
  rw [z_sh1 _ (Nat.mod_lt _ (by omega))]
  refine z_ior (pc := 1098) dL_acts_1098 ?_
  refine z_iast (pc := 1099) dL_acts_1099 (hpa) (vix) ?_
  rw [nI_clamp (show 2 * p + z / 20 < 2 ^ 31 by omega)]
  exact z_genU hV hFp kk
/-- .. that was made before -/
theorem iL_actSt (hF : F ap ∧ F aw ∧ F ag) (hne : ap ≠ aw ∧ ap ≠ ag ∧ aw ≠ ag) {fp fw fg : Nat → Int32} (hV : z_V G F a0 ws I N oc B w) (hwp : ws ap = some (.inl (G.2.1 0, 16, .inl fp))) (hww : ws aw = some (.inl (G.2.1 0, 8, .inl fw))) (hwg : ws ag = some (.inl (G.2.1 0, 7, .inl fg))) (hLI : z_LI I N oc fp fw fg) {p z had : Nat} {its : Int32} (hp : p < N 0 0) (hz : z < N 2 0) (hits : z_rg its 4) (h4 : I 4 p z ≠ 0) (hhad : I 3 p (z_th I z) = nI had) (h100 : 100 ≤ had) (h3000 : had ≤ 3000) {x2 x4 x5 x6 x8 x13 x15 : Option Value} : z_E G zL_acts 10 (z_aq G F a0 ap aw ag) 1150 [some (.ref a0), some (.ref ap), x2, some (.ref ag), x4, x5, x6, some (.int (nI p)), x8, some (.int (nI z)), some (.int (nI (z_th I z))), some (.int (nI had)), some (.int its), x13, some (.int (-1000003)), x15] [.int (nI had)] w 14 84 := by
  have hn := hV.n
  have ht5 : z_th I z < 5 := Nat.mod_lt _ (by omega)
  refine z_istore15 (pc := 1150) dL_acts_1150 ?_
  refine z_aload_n (pc := 1152) dL_acts_1152 rfl (by first | rfl | exact z_isr_rf _) ?_
  refine z_iload (pc := 1153) dL_acts_1153 rfl ?_
  refine z_iload (pc := 1155) dL_acts_1155 rfl ?_
  refine z_iconst_4 (pc := 1157) dL_acts_1157 ?_
  refine z_callSX (pc := 1158) (wL_solve hV (nI p) (nI z) 4) dL_acts_1158 cwL_152 okL_solve rfl (by omega) rfl (Nat.le_of_ble_eq_true rfl) (by omega) (by omega) (fun v wN hN => ?_)
  obtain ⟨rfl, rfl⟩ := z_sol1 hN hp hz (z_rg_ge (by decide) (by decide))
  refine z_ldc (pc := 1161) dL_acts_1161 cc18 ?_
  refine z_icmp_ne (pc := 1163) (tgt := 1225) dL_acts_1163 (by decide) (fun hn => absurd (rfl) hn) (fun _ => ?_)
  refine z_aload_n (pc := 1166) dL_acts_1166 rfl (by first | rfl | exact z_isr_rf _) ?_
  refine z_iload (pc := 1167) dL_acts_1167 rfl ?_
  refine z_iload (pc := 1169) dL_acts_1169 rfl ?_
  refine z_iload (pc := 1171) dL_acts_1171 rfl ?_
  refine z_callSX (pc := 1173) (wL_solve hV (nI p) (nI z) its) dL_acts_1173 cwL_152 okL_solve rfl (by omega) rfl (Nat.le_of_ble_eq_true rfl) (by omega) (by omega) (fun v wN hN => ?_)
  obtain ⟨rfl, rfl⟩ := z_sol3 hN hp hz hn.1 hn.2.2.1 hits h4
  refine z_iload (pc := 1176) dL_acts_1176 rfl ?_
  refine z_icmp_ne (pc := 1178) (tgt := 1225) dL_acts_1178 (by decide) (fun hn => absurd (rfl) hn) (fun _ => ?_)
  refine z_aload_n (pc := 1181) dL_acts_1181 rfl (by first | rfl | exact z_isr_rf _) ?_
  refine z_iload (pc := 1182) dL_acts_1182 rfl ?_
  refine z_iload (pc := 1184) dL_acts_1184 rfl ?_
  refine z_callSXp (pc := 1186) (wL_rating hV (nI p) (nI (z_th I z))) dL_acts_1186 cwL_114 okL_rating rfl (by omega) rfl (Nat.le_of_ble_eq_true rfl) (by omega) (by omega) ?_
  rw [z_if_t (show z_rg (nI p) (N 0 0) from ⟨p, hp, rfl⟩), z_if_t (show z_rg (nI (z_th I z)) 5 from ⟨_, ht5, rfl⟩), nI_clamp (show p < 2 ^ 31 by omega), nI_clamp (show z_th I z < 2 ^ 31 by omega), hhad]
  refine z_iload (pc := 1189) dL_acts_1189 rfl ?_
  refine z_bipush_100 (pc := 1191) dL_acts_1191 ?_
  refine z_icmp_ge (pc := 1193) (tgt := 1201) dL_acts_1193 (by decide) (fun _ => ?_) (fun hn => absurd (nI_le (a := 100) h100 (by omega)) hn)
  refine z_iload (pc := 1201) dL_acts_1201 rfl ?_
  refine z_icmp_ne (pc := 1203) (tgt := 1225) dL_acts_1203 (by decide) (fun hn => absurd (rfl) hn) (fun _ => ?_)
  refine z_aload_n (pc := 1206) dL_acts_1206 rfl (by first | rfl | exact z_isr_rf _) ?_
  refine z_iload (pc := 1207) dL_acts_1207 rfl ?_
  refine z_iload (pc := 1209) dL_acts_1209 rfl ?_
  refine z_iload (pc := 1211) dL_acts_1211 rfl ?_
  refine z_callSX (pc := 1213) (wL_solve hV (nI p) (nI z) its) dL_acts_1213 cwL_152 okL_solve rfl (by omega) rfl (Nat.le_of_ble_eq_true rfl) (by omega) (by omega) (fun v wN hN => ?_)
  obtain ⟨rfl, rfl⟩ := z_sol3 hN hp hz hn.1 hn.2.2.1 hits h4
  refine z_ldc (pc := 1216) dL_acts_1216 cc32 ?_
  refine z_icmp_ne (pc := 1218) (tgt := 1225) dL_acts_1218 (by decide) (fun hn => absurd (rfl) hn) (fun _ => ?_)
  refine z_iconst_1 (pc := 1221) dL_acts_1221 ?_
  refine z_goto (pc := 1222) (tgt := 1226) dL_acts_1222 (by decide) ?_
  refine z_zret (pc := 1226) dL_acts_1226 rfl (Or.inr rfl ) ( ⟨rfl, _, _, _, _, ws, fp, fw, fg, hV, hwp, hww, hwg, hLI⟩)
/-- .. a first one -/
theorem iL_actSu (hF : F ap ∧ F aw ∧ F ag) (hne : ap ≠ aw ∧ ap ≠ ag ∧ aw ≠ ag) {fp fw fg : Nat → Int32} (hV : z_V G F a0 ws I N oc B w) (hwp : ws ap = some (.inl (G.2.1 0, 16, .inl fp))) (hww : ws aw = some (.inl (G.2.1 0, 8, .inl fw))) (hwg : ws ag = some (.inl (G.2.1 0, 7, .inl fg))) {p z had : Nat} {its : Int32} (hLI : z_LI (z_sI (z_sI I 4 p z 1) 3 p (z_th I z) (rb (I 3 p (z_th I z)) (if its = bst (I 9 z 0) then (1 : Int32) else 0))) N oc fp fw fg) (hp : p < N 0 0) (hz : z < N 2 0) (hits : z_rg its 4) (h4 : I 4 p z = 0) (hhad : I 3 p (z_th I z) = nI had) (h100 : 100 ≤ had) (h3000 : had ≤ 3000) {x2 x4 x5 x6 x8 x13 x15 : Option Value} : z_E G zL_acts 10 (z_aq G F a0 ap aw ag) 1150 [some (.ref a0), some (.ref ap), x2, some (.ref ag), x4, x5, x6, some (.int (nI p)), x8, some (.int (nI z)), some (.int (nI (z_th I z))), some (.int (nI had)), some (.int its), x13, some (.int (if its = bst (I 9 z 0) then (1 : Int32) else 0)), x15] [.int (lnow (nI had) (if its = bst (I 9 z 0) then (1 : Int32) else 0))] w 14 84 := by
  have hn := hV.n
  have ht5 : z_th I z < 5 := Nat.mod_lt _ (by omega)
  refine z_istore15 (pc := 1150) dL_acts_1150 ?_
  refine z_aload_n (pc := 1152) dL_acts_1152 rfl (by first | rfl | exact z_isr_rf _) ?_
  refine z_iload (pc := 1153) dL_acts_1153 rfl ?_
  refine z_iload (pc := 1155) dL_acts_1155 rfl ?_
  refine z_iconst_4 (pc := 1157) dL_acts_1157 ?_
  refine z_callSX (pc := 1158) (wL_solve hV (nI p) (nI z) 4) dL_acts_1158 cwL_152 okL_solve rfl (by omega) rfl (Nat.le_of_ble_eq_true rfl) (by omega) (by omega) (fun v wN hN => ?_)
  obtain ⟨rfl, rfl⟩ := z_sol1 hN hp hz (z_rg_ge (by decide) (by decide))
  refine z_ldc (pc := 1161) dL_acts_1161 cc18 ?_
  refine z_icmp_ne (pc := 1163) (tgt := 1225) dL_acts_1163 (by decide) (fun hn => absurd (rfl) hn) (fun _ => ?_)
  refine z_aload_n (pc := 1166) dL_acts_1166 rfl (by first | rfl | exact z_isr_rf _) ?_
  refine z_iload (pc := 1167) dL_acts_1167 rfl ?_
  refine z_iload (pc := 1169) dL_acts_1169 rfl ?_
  refine z_iload (pc := 1171) dL_acts_1171 rfl ?_
  refine z_callSX (pc := 1173) (wL_solve hV (nI p) (nI z) its) dL_acts_1173 cwL_152 okL_solve rfl (by omega) rfl (Nat.le_of_ble_eq_true rfl) (by omega) (by omega) (fun v wN hN => ?_)
  obtain ⟨rfl, hV3⟩ := z_sol0 hN hp hz hn.1 hn.2.2.1 hits h4
  refine z_iload (pc := 1176) dL_acts_1176 rfl ?_
  refine z_icmp_ne (pc := 1178) (tgt := 1225) dL_acts_1178 (by decide) (fun hn => absurd (rfl) hn) (fun _ => ?_)
  refine z_aload_n (pc := 1181) dL_acts_1181 rfl (by first | rfl | exact z_isr_rf _) ?_
  refine z_iload (pc := 1182) dL_acts_1182 rfl ?_
  refine z_iload (pc := 1184) dL_acts_1184 rfl ?_
  refine z_callSXp (pc := 1186) (wL_rating hV3 (nI p) (nI (z_th I z))) dL_acts_1186 cwL_114 okL_rating rfl (by omega) rfl (Nat.le_of_ble_eq_true rfl) (by omega) (by omega) ?_
  have hrb := (z_rb_k (a := had) h100 h3000 (z_10 (its = bst (I 9 z 0)))).1
  rw [z_if_t (show z_rg (nI p) (N 0 0) from ⟨p, hp, rfl⟩), z_if_t (show z_rg (nI (z_th I z)) 5 from ⟨_, ht5, rfl⟩), nI_clamp (show p < 2 ^ 31 by omega), nI_clamp (show z_th I z < 2 ^ 31 by omega), z_sI_s, hhad, hrb]
  refine z_iload (pc := 1189) dL_acts_1189 rfl ?_
  refine z_bipush_100 (pc := 1191) dL_acts_1191 ?_
  have fin : z_E G zL_acts 10 (z_aq G F a0 ap aw ag) 1206 [some (.ref a0), some (.ref ap), x2, some (.ref ag), x4, x5, x6, some (.int (nI p)), x8, some (.int (nI z)), some (.int (nI (z_th I z))), some (.int (nI had)), some (.int its), x13, some (.int (if its = bst (I 9 z 0) then (1 : Int32) else 0)), some (.int (lnow (nI had) (if its = bst (I 9 z 0) then (1 : Int32) else 0)))] [] wN 4 24 := by
    refine z_aload_n (pc := 1206) dL_acts_1206 rfl (by first | rfl | exact z_isr_rf _) ?_
    refine z_iload (pc := 1207) dL_acts_1207 rfl ?_
    refine z_iload (pc := 1209) dL_acts_1209 rfl ?_
    refine z_iload (pc := 1211) dL_acts_1211 rfl ?_
    refine z_callSX (pc := 1213) (wL_solve hV3 (nI p) (nI z) its) dL_acts_1213 cwL_152 okL_solve rfl (by omega) rfl (Nat.le_of_ble_eq_true rfl) (by omega) (by omega) (fun v wN hN => ?_)
    obtain ⟨rfl, rfl⟩ := z_sol3 hN hp hz hn.1 hn.2.2.1 hits (by rw [z_sI_f _ _ _ _ (by decide), z_sI_s]; decide)
    refine z_ldc (pc := 1216) dL_acts_1216 cc32 ?_
    refine z_icmp_ne (pc := 1218) (tgt := 1225) dL_acts_1218 (by decide) (fun hn => absurd (rfl) hn) (fun _ => ?_)
    refine z_iconst_1 (pc := 1221) dL_acts_1221 ?_
    refine z_goto (pc := 1222) (tgt := 1226) dL_acts_1222 (by decide) ?_
    refine z_zret (pc := 1226) dL_acts_1226 rfl (Or.inr rfl ) ( ⟨rfl, _, _, _, _, ws, fp, fw, fg, hV3, hwp, hww, hwg, hLI⟩)
  by_cases h : lnow (nI had) (if its = bst (I 9 z 0) then (1 : Int32) else 0) < 100
  · rw [if_pos h]
    refine z_icmp_ge (pc := 1193) (tgt := 1201) dL_acts_1193 (by decide) (fun hn => absurd hn (Int32.not_le.mpr h)) (fun _ => ?_)
    refine z_bipush_100 (pc := 1196) dL_acts_1196 ?_
    refine z_goto (pc := 1198) (tgt := 1203) dL_acts_1198 (by decide) ?_
    refine z_icmp_ne (pc := 1203) (tgt := 1225) dL_acts_1203 (by decide) (fun hn => absurd (rfl) hn) (fun _ => ?_)
    exact z_E.mono (by omega) (by omega) fin
  · rw [if_neg h]
    refine z_icmp_ge (pc := 1193) (tgt := 1201) dL_acts_1193 (by decide) (fun _ => ?_) (fun hn => absurd (Int32.not_lt.mp h) hn)
    refine z_iload (pc := 1201) dL_acts_1201 rfl ?_
    refine z_icmp_ne (pc := 1203) (tgt := 1225) dL_acts_1203 (by decide) (fun hn => absurd (rfl) hn) (fun _ => ?_)
    exact z_E.mono (by omega) (by omega) fin
theorem iL_actS1 (hF : F ap ∧ F aw ∧ F ag) (hne : ap ≠ aw ∧ ap ≠ ag ∧ aw ≠ ag) {fp fw fg : Nat → Int32} (hV : z_V G F a0 ws I N oc B w) (hwp : ws ap = some (.inl (G.2.1 0, 16, .inl fp))) (hww : ws aw = some (.inl (G.2.1 0, 8, .inl fw))) (hwg : ws ag = some (.inl (G.2.1 0, 7, .inl fg))) (hLI : z_LI I N oc fp fw fg) {p z : Nat} {y : Int32} (hp : p < N 0 0) (hz : z < N 2 0) {x2 x4 x6 x8 x10 x11 x12 x13 x14 x15 : Option Value} : z_E G zL_acts 10 (z_aq G F a0 ap aw ag) 959 [some (.ref a0), some (.ref ap), x2, some (.ref ag), x4, some (.int y), x6, some (.int (nI p)), x8, some (.int (nI z)), x10, x11, x12, x13, x14, x15] [] w 30 180 := by
  have hn := hV.n
  have hLI2 := hLI
  obtain ⟨⟨T, hT1, hT2, hT3⟩, -⟩ := hLI2
  obtain ⟨-, hrg⟩ := hV.z
  obtain ⟨jz, hjz, ejz⟩ := hrg z hz
  have ht5 : z_th I z < 5 := Nat.mod_lt _ (by omega)
  have eth : jz % 5 = z_th I z := by unfold z_th; rw [ejz, nI_clamp (by omega)]
  obtain ⟨had, hhad, h100, h3000⟩ := hV.r p hp (z_th I z) ht5
  have hpr : z_rg (nI p) (N 0 0) := ⟨p, hp, rfl⟩
  have hzr : z_rg (nI z) (N 2 0) := ⟨z, hz, rfl⟩
  have htr : z_rg (nI (z_th I z)) 5 := ⟨_, ht5, rfl⟩
  have hjr : z_rg (nI jz) 1000 := ⟨jz, hjz, rfl⟩
  have cp := nI_clamp (show p < 2 ^ 31 by omega)
  have cz := nI_clamp (show z < 2 ^ 31 by omega)
  have ct := nI_clamp (show z_th I z < 2 ^ 31 by omega)
  have hix : 2 * p + z / 20 < 16 := by omega
  have vix : vp_in (nI (2 * p + z / 20)) 16 := vp_in_nI hix (by omega)
  obtain ⟨hTe, hTl⟩ := hT1 _ hix
  have hTk := hT3 p hp z (by omega)
  have hpa := (hV.at hF.1).trans hwp
  have go : ∀ (its : Int32) (ck sk : Nat), z_rg its 4 → 20 ≤ ck → 120 ≤ sk → z_E G zL_acts 10 (z_aq G F a0 ap aw ag) 1013 [some (.ref a0), some (.ref ap), x2, some (.ref ag), x4, some (.int y), x6, some (.int (nI p)), x8, some (.int (nI z)), some (.int (nI (z_th I z))), some (.int (nI had)), x12, x13, x14, x15] [.int its] w ck sk := by
    intro its ck sk hits h20 h120
    refine z_istore12 (pc := 1013) dL_acts_1013 ?_
    refine z_aload_n (pc := 1015) dL_acts_1015 rfl (by first | rfl | exact z_isr_rf _) ?_
    refine z_iconst_2 (pc := 1016) dL_acts_1016 ?_
    refine z_iload (pc := 1017) dL_acts_1017 rfl ?_
    refine z_imul (pc := 1019) dL_acts_1019 ?_
    rw [show (2 : Int32) * nI p = nI (2 * p) from pk_mul 2 p]
    refine z_iload (pc := 1020) dL_acts_1020 rfl ?_
    refine z_bipush_20 (pc := 1022) dL_acts_1022 ?_
    refine z_idiv (pc := 1024) dL_acts_1024 (by first | decide | assumption) ?_
    rw [show nI z / 20 = nI (z / 20) from pk_div (d := 20) (by omega) (by decide) (by decide)]
    refine z_iadd (pc := 1025) dL_acts_1025 ?_
    rw [nI_add]
    refine z_iald (pc := 1026) dL_acts_1026 (hpa) (vix) ?_
    rw [nI_clamp (show 2 * p + z / 20 < 2 ^ 31 by omega), hTe]
    refine z_iload (pc := 1027) dL_acts_1027 rfl ?_
    refine z_bipush_20 (pc := 1029) dL_acts_1029 ?_
    refine z_irem (pc := 1031) dL_acts_1031 (by first | decide | assumption) ?_
    rw [show nI z - nI z / 20 * 20 = nI (z % 20) from pk_rem (d := 20) (by omega) (by decide) (by decide)]
    refine z_ishr (pc := 1032) dL_acts_1032 ?_
    refine z_iconst_1 (pc := 1033) dL_acts_1033 ?_
    refine z_iand (pc := 1034) dL_acts_1034 ?_
    rw [z_bit hTl (Nat.mod_lt _ (by omega))]
    refine z_iconst_1 (pc := 1035) dL_acts_1035 ?_
    by_cases ht : I 4 p z ≠ 0
    · rw [hTk.2 ht]
      refine z_icmp_ne (pc := 1036) (tgt := 1043) dL_acts_1036 (by decide) (fun hn => absurd (rfl) hn) (fun _ => ?_)
      refine z_iconst_1 (pc := 1039) dL_acts_1039 ?_
      refine z_goto (pc := 1040) (tgt := 1044) dL_acts_1040 (by decide) ?_
      refine z_istore13 (pc := 1044) dL_acts_1044 ?_
      refine z_iload (pc := 1046) dL_acts_1046 rfl ?_
      refine z_if_eq (pc := 1048) (tgt := 1056) dL_acts_1048 (by decide) (fun hn => absurd hn (by decide)) (fun _ => ?_)
      refine z_ldc (pc := 1051) dL_acts_1051 cc32 ?_
      refine z_goto (pc := 1053) (tgt := 1076) dL_acts_1053 (by decide) ?_
      refine z_istore14 (pc := 1076) dL_acts_1076 ?_
      refine iL_actSp hF.1 hV hwp (by omega) (by omega) (fun ws2 w2 hV2 e2 eo2 => ?_)
      refine z_iload (pc := 1100) dL_acts_1100 rfl ?_
      refine z_if_ge (pc := 1102) (tgt := 1110) dL_acts_1102 (by decide) (fun hn => absurd hn (by decide)) (fun _ => ?_)
      refine z_iload (pc := 1105) dL_acts_1105 rfl ?_
      refine z_goto (pc := 1107) (tgt := 1150) dL_acts_1107 (by decide) ?_
      exact z_E.mono (by omega) (by omega) (iL_actSt hF hne hV2 e2 ((eo2 aw (Ne.symm hne.1)).trans hww) ((eo2 ag (Ne.symm hne.2.1)).trans hwg) (hLI.solve hp (by omega) hn.1 (fun p' z' => ⟨Or.inl, fun q => q.elim id (fun q => by rw [q.1, q.2]; exact ht)⟩) rfl rfl rfl) hp hz hits ht hhad h100 h3000)
    · have ht0 : I 4 p z = 0 := Classical.not_not.1 ht
      refine z_icmp_ne (pc := 1036) (tgt := 1043) dL_acts_1036 (by decide) (fun _ => ?_) (fun hn => absurd hn (fun q => ht (hTk.1 (nI_inj (b := 1) (by omega) (by omega) q))))
      refine z_iconst_0 (pc := 1043) dL_acts_1043 ?_
      refine z_istore13 (pc := 1044) dL_acts_1044 ?_
      refine z_iload (pc := 1046) dL_acts_1046 rfl ?_
      refine z_if_eq (pc := 1048) (tgt := 1056) dL_acts_1048 (by decide) (fun _ => ?_) (fun hn => absurd (rfl) hn)
      refine z_iload (pc := 1056) dL_acts_1056 rfl ?_
      refine z_aload_n (pc := 1058) dL_acts_1058 rfl (by first | rfl | exact z_isr_rf _) ?_
      refine z_aload_n (pc := 1059) dL_acts_1059 rfl (by first | rfl | exact z_isr_rf _) ?_
      refine z_iload (pc := 1060) dL_acts_1060 rfl ?_
      refine z_callSXp (pc := 1062) (wL_puzzle hV (nI z)) dL_acts_1062 cwL_108 okL_puzzle rfl (by omega) rfl (Nat.le_of_ble_eq_true rfl) (by omega) (by omega) ?_
      rw [z_if_t hzr, cz, ejz]
      refine z_callSXp (pc := 1065) (wL_best hV (nI jz)) dL_acts_1065 cwL_89 okL_best rfl (by omega) rfl (Nat.le_of_ble_eq_true rfl) (by omega) (by omega) ?_
      rw [z_if_t hjr, ← ejz]
      have hLI3 := fun v => hLI.solve (I' := z_sI (z_sI I 4 p z 1) 3 p (z_th I z) v) hp (show z < 40 by omega) hn.1 (fun p' z' => by
        rw [z_sI_f _ _ _ _ (by decide)]
        by_cases q : p' = p ∧ z' = z
        · rw [q.1, q.2, z_sI_s]
          exact ⟨fun _ => Or.inr ⟨rfl, rfl⟩, fun _ => by decide⟩
        · rw [z_sI_ne _ _ (fun z => q z.2)]
          exact ⟨Or.inl, fun r => r.elim id (fun r => absurd r q)⟩) (by rw [z_sI_f _ _ _ _ (by decide), z_sI_f _ _ _ _ (by decide)]) (by rw [z_sI_f _ _ _ _ (by decide), z_sI_f _ _ _ _ (by decide)]) (by rw [z_sI_f _ _ _ _ (by decide), z_sI_f _ _ _ _ (by decide)])
      by_cases hs : its = bst (I 9 z 0)
      · refine z_icmp_ne (pc := 1068) (tgt := 1075) dL_acts_1068 (by decide) (fun hn => absurd (hs) hn) (fun _ => ?_)
        refine z_iconst_1 (pc := 1071) dL_acts_1071 ?_
        refine z_goto (pc := 1072) (tgt := 1076) dL_acts_1072 (by decide) ?_
        refine z_istore14 (pc := 1076) dL_acts_1076 ?_
        refine iL_actSp hF.1 hV hwp (by omega) (by omega) (fun ws2 w2 hV2 e2 eo2 => ?_)
        have K := fun {x2 x4 x5 x6 x8 x13 x15} => iL_actSu (x2 := x2) (x4 := x4) (x5 := x5) (x6 := x6) (x8 := x8) (x13 := x13) (x15 := x15) (its := its) hF hne hV2 e2 ((eo2 aw (Ne.symm hne.1)).trans hww) ((eo2 ag (Ne.symm hne.2.1)).trans hwg) (hLI3 _) hp hz hits ht0 hhad h100 h3000
        rw [if_pos hs] at K
        refine z_iload (pc := 1100) dL_acts_1100 rfl ?_
        refine z_if_ge (pc := 1102) (tgt := 1110) dL_acts_1102 (by decide) (fun _ => ?_) (fun hn => absurd (by decide) hn)
        refine z_iload (pc := 1110) dL_acts_1110 rfl ?_
        refine z_if_ne (pc := 1112) (tgt := 1123) dL_acts_1112 (by decide) (fun _ => ?_) (fun hn => absurd hn (by decide))
        refine z_iload (pc := 1123) dL_acts_1123 rfl ?_
        refine z_bipush_32 (pc := 1125) dL_acts_1125 ?_
        refine z_iadd (pc := 1127) dL_acts_1127 ?_
        refine z_iload (pc := 1128) dL_acts_1128 rfl ?_
        refine z_sipush_1000 (pc := 1130) dL_acts_1130 ?_
        by_cases hl : nI had ≤ 1000
        · refine z_icmp_le (pc := 1133) (tgt := 1148) dL_acts_1133 (by decide) (fun _ => ?_) (fun hn => absurd (hl) hn)
          refine z_iconst_0 (pc := 1148) dL_acts_1148 ?_
          refine z_isub (pc := 1149) dL_acts_1149 ?_
          rw [show nI had + 32 - 0 = lnow (nI had) 1 from by unfold lnow; rw [if_neg (by decide), if_neg (Int32.not_lt.mpr hl)]]
          exact z_E.mono (by omega) (by omega) K
        · refine z_icmp_le (pc := 1133) (tgt := 1148) dL_acts_1133 (by decide) (fun hn => absurd hn (hl)) (fun _ => ?_)
          refine z_iload (pc := 1136) dL_acts_1136 rfl ?_
          refine z_sipush_1000 (pc := 1138) dL_acts_1138 ?_
          refine z_isub (pc := 1141) dL_acts_1141 ?_
          refine z_bipush_50 (pc := 1142) dL_acts_1142 ?_
          refine z_idiv (pc := 1144) dL_acts_1144 (by first | decide | assumption) ?_
          refine z_goto (pc := 1145) (tgt := 1149) dL_acts_1145 (by decide) ?_
          refine z_isub (pc := 1149) dL_acts_1149 ?_
          rw [show nI had + 32 - (nI had - 1000) / 50 = lnow (nI had) 1 from by unfold lnow; rw [if_neg (by decide), if_pos (Int32.not_le.mp hl)]]
          exact z_E.mono (by omega) (by omega) K
      · refine z_icmp_ne (pc := 1068) (tgt := 1075) dL_acts_1068 (by decide) (fun _ => ?_) (fun hn => absurd hn (hs))
        refine z_iconst_0 (pc := 1075) dL_acts_1075 ?_
        refine z_istore14 (pc := 1076) dL_acts_1076 ?_
        refine iL_actSp hF.1 hV hwp (by omega) (by omega) (fun ws2 w2 hV2 e2 eo2 => ?_)
        have K := fun {x2 x4 x5 x6 x8 x13 x15} => iL_actSu (x2 := x2) (x4 := x4) (x5 := x5) (x6 := x6) (x8 := x8) (x13 := x13) (x15 := x15) (its := its) hF hne hV2 e2 ((eo2 aw (Ne.symm hne.1)).trans hww) ((eo2 ag (Ne.symm hne.2.1)).trans hwg) (hLI3 _) hp hz hits ht0 hhad h100 h3000
        rw [if_neg hs] at K
        refine z_iload (pc := 1100) dL_acts_1100 rfl ?_
        refine z_if_ge (pc := 1102) (tgt := 1110) dL_acts_1102 (by decide) (fun _ => ?_) (fun hn => absurd (by decide) hn)
        refine z_iload (pc := 1110) dL_acts_1110 rfl ?_
        refine z_if_ne (pc := 1112) (tgt := 1123) dL_acts_1112 (by decide) (fun hn => absurd (rfl) hn) (fun _ => ?_)
        refine z_iload (pc := 1115) dL_acts_1115 rfl ?_
        refine z_bipush_16 (pc := 1117) dL_acts_1117 ?_
        refine z_isub (pc := 1119) dL_acts_1119 ?_
        refine z_goto (pc := 1120) (tgt := 1150) dL_acts_1120 (by decide) ?_
        rw [show nI had - 16 = lnow (nI had) 0 from by unfold lnow; rw [if_pos rfl]]
        exact z_E.mono (by omega) (by omega) K
  refine z_aload_n (pc := 959) dL_acts_959 rfl (by first | rfl | exact z_isr_rf _) ?_
  refine z_iload (pc := 960) dL_acts_960 rfl ?_
  refine z_callSXp (pc := 962) (wL_puzzle hV (nI z)) dL_acts_962 cwL_108 okL_puzzle rfl (by omega) rfl (Nat.le_of_ble_eq_true rfl) (by omega) (by omega) ?_
  rw [z_if_t hzr, cz, ejz]
  refine z_iconst_5 (pc := 965) dL_acts_965 ?_
  refine z_irem (pc := 966) dL_acts_966 (by first | decide | assumption) ?_
  rw [show nI jz - nI jz / 5 * 5 = nI (jz % 5) from pk_rem (d := 5) (by omega) (by decide) (by decide), eth]
  refine z_istore10 (pc := 967) dL_acts_967 ?_
  refine z_aload_n (pc := 969) dL_acts_969 rfl (by first | rfl | exact z_isr_rf _) ?_
  refine z_iload (pc := 970) dL_acts_970 rfl ?_
  refine z_iload (pc := 972) dL_acts_972 rfl ?_
  refine z_callSXp (pc := 974) (wL_rating hV (nI p) (nI (z_th I z))) dL_acts_974 cwL_114 okL_rating rfl (by omega) rfl (Nat.le_of_ble_eq_true rfl) (by omega) (by omega) ?_
  rw [z_if_t hpr, z_if_t htr, cp, ct, hhad]
  refine z_istore11 (pc := 977) dL_acts_977 ?_
  refine z_iload (pc := 979) dL_acts_979 rfl ?_
  refine z_bipush_8 (pc := 981) dL_acts_981 ?_
  refine z_ishr (pc := 983) dL_acts_983 ?_
  refine z_iconst_3 (pc := 984) dL_acts_984 ?_
  refine z_callS (pc := 985) (mL_low (y >>> (8 &&& 31)) (n := 3) (by omega) (by omega)) dL_acts_985 cwL_127 okL_low rfl (by omega) rfl (Nat.le_of_ble_eq_true rfl) (by omega) (by omega) (fun _ _ h => h.elim) (fun v wN hN => ?_)
  obtain ⟨rfl, j, hj, rfl⟩ := hN
  refine z_if_le (pc := 988) (tgt := 1004) dL_acts_988 (by decide) (fun hc => ?_) (fun hc => ?_)
  · refine z_iload (pc := 1004) dL_acts_1004 rfl ?_
    refine z_bipush_10 (pc := 1006) dL_acts_1006 ?_
    refine z_ishr (pc := 1008) dL_acts_1008 ?_
    refine z_iconst_4 (pc := 1009) dL_acts_1009 ?_
    refine z_callS (pc := 1010) (mL_low (y >>> (10 &&& 31)) (n := 4) (by omega) (by omega)) dL_acts_1010 cwL_127 okL_low rfl (by omega) rfl (Nat.le_of_ble_eq_true rfl) (by omega) (by omega) (fun _ _ h => h.elim) (fun v wN hN => ?_)
    obtain ⟨rfl, j2, hj2, rfl⟩ := hN
    exact go _ _ _ ⟨j2, hj2, rfl⟩ (by omega) (by omega)
  · refine z_aload_n (pc := 991) dL_acts_991 rfl (by first | rfl | exact z_isr_rf _) ?_
    refine z_aload_n (pc := 992) dL_acts_992 rfl (by first | rfl | exact z_isr_rf _) ?_
    refine z_iload (pc := 993) dL_acts_993 rfl ?_
    refine z_callSXp (pc := 995) (wL_puzzle hV (nI z)) dL_acts_995 cwL_108 okL_puzzle rfl (by omega) rfl (Nat.le_of_ble_eq_true rfl) (by omega) (by omega) ?_
    rw [z_if_t hzr, cz, ejz]
    refine z_callSXp (pc := 998) (wL_best hV (nI jz)) dL_acts_998 cwL_89 okL_best rfl (by omega) rfl (Nat.le_of_ble_eq_true rfl) (by omega) (by omega) ?_
    rw [z_if_t hjr]
    refine z_goto (pc := 1001) (tgt := 1013) dL_acts_1001 (by decide) ?_
    exact go _ _ _ (z_bstg _) (by omega) (by omega)
theorem iL_actS (hF : F ap ∧ F aw ∧ F ag) (hne : ap ≠ aw ∧ ap ≠ ag ∧ aw ≠ ag) {fp fw fg : Nat → Int32} (hV : z_V G F a0 ws I N oc B w) (hwp : ws ap = some (.inl (G.2.1 0, 16, .inl fp))) (hww : ws aw = some (.inl (G.2.1 0, 8, .inl fw))) (hwg : ws ag = some (.inl (G.2.1 0, 7, .inl fg))) (hLI : z_LI I N oc fp fw fg) {x y : Int32} {x2 x6 x7 x8 x9 x10 x11 x12 x13 x14 x15 : Option Value} : z_E G zL_acts 10 (z_aq G F a0 ap aw ag) 859 [some (.ref a0), some (.ref ap), x2, some (.ref ag), some (.int x), some (.int y), x6, x7, x8, x9, x10, x11, x12, x13, x14, x15] [] w 40 220 := by
  have hn := hV.n
  have hLI2 := hLI
  obtain ⟨-, -, h1, g0, -⟩ := hLI2
  have hg := (hV.at hF.2.2).trans hwg
  obtain ⟨fs0, hk0⟩ := hV.k0
  refine z_iload (pc := 859) dL_acts_859 rfl ?_
  refine z_bipush_7 (pc := 861) dL_acts_861 ?_
  refine z_ishr (pc := 863) dL_acts_863 ?_
  refine z_aload_n (pc := 864) dL_acts_864 rfl (by first | rfl | exact z_isr_rf _) ?_
  refine z_iconst_0 (pc := 865) dL_acts_865 ?_
  refine z_iald (pc := 866) dL_acts_866 (hg) (z_v0) ?_
  rw [z_c0, g0]
  refine z_callS (pc := 867) (mL_low (x >>> (7 &&& 31)) (n := N 0 0) (by omega) (by omega)) dL_acts_867 cwL_127 okL_low rfl (by omega) rfl (Nat.le_of_ble_eq_true rfl) (by omega) (by omega) (fun _ _ h => h.elim) (fun v wN hN => ?_)
  obtain ⟨rfl, p, hp, rfl⟩ := hN
  have hpr : z_rg (nI p) (N 0 0) := ⟨p, hp, rfl⟩
  refine z_istore7 (pc := 870) dL_acts_870 ?_
  refine z_aload_n (pc := 872) dL_acts_872 rfl (by first | rfl | exact z_isr_rf _) ?_
  refine z_callVp (pc := 873) (vX_puzzles hV) dL_acts_873 cwL_105 okX5_puzzles rfl (hk0) rfl rfl (by omega) rfl (Nat.le_of_ble_eq_true rfl) ?_
  have go916 : ∀ z ck sk, z ≤ N 2 0 → 36 ≤ ck → 200 ≤ sk → z_E G zL_acts 10 (z_aq G F a0 ap aw ag) 916 [some (.ref a0), some (.ref ap), x2, some (.ref ag), some (.int x), some (.int y), x6, some (.int (nI p)), some (.int (nI (N 2 0))), x9, x10, x11, x12, x13, x14, x15] [.int (nI z)] wN ck sk := by
    intro z ck sk hz h36 h200
    refine z_istore9 (pc := 916) dL_acts_916 ?_
    refine z_iload (pc := 918) dL_acts_918 rfl ?_
    refine z_iload (pc := 920) dL_acts_920 rfl ?_
    by_cases hzn : z = N 2 0
    · refine z_icmp_ne (pc := 922) (tgt := 959) dL_acts_922 (by decide) (fun hn => absurd (by rw [hzn]) hn) (fun _ => ?_)
      refine z_aload_n (pc := 925) dL_acts_925 rfl (by first | rfl | exact z_isr_rf _) ?_
      refine z_iload (pc := 926) dL_acts_926 rfl ?_
      refine z_iload (pc := 928) dL_acts_928 rfl ?_
      refine z_iconst_4 (pc := 930) dL_acts_930 ?_
      refine z_callSX (pc := 931) (wL_solve hV (nI p) (nI (N 2 0)) 4) dL_acts_931 cwL_152 okL_solve rfl (by omega) rfl (Nat.le_of_ble_eq_true rfl) (by omega) (by omega) (fun v wN hN => ?_)
      obtain ⟨rfl, rfl⟩ := z_solx hN (fun q => z_rg_ge (by omega) (nI_le (Nat.le_refl _) (by omega)) q.2)
      refine z_ldc (pc := 934) dL_acts_934 cc38 ?_
      refine z_icmp_ne (pc := 936) (tgt := 957) dL_acts_936 (by decide) (fun hn => absurd (rfl) hn) (fun _ => ?_)
      refine z_aload_n (pc := 939) dL_acts_939 rfl (by first | rfl | exact z_isr_rf _) ?_
      refine z_aload_n (pc := 940) dL_acts_940 rfl (by first | rfl | exact z_isr_rf _) ?_
      refine z_iconst_0 (pc := 941) dL_acts_941 ?_
      refine z_iald (pc := 942) dL_acts_942 (hg) (z_v0) ?_
      refine z_iconst_0 (pc := 943) dL_acts_943 ?_
      refine z_iconst_0 (pc := 944) dL_acts_944 ?_
      rw [z_c0, g0]
      refine z_callSX (pc := 945) (wL_solve hV (nI (N 0 0)) 0 0) dL_acts_945 cwL_152 okL_solve rfl (by omega) rfl (Nat.le_of_ble_eq_true rfl) (by omega) (by omega) (fun v wN hN => ?_)
      obtain ⟨rfl, rfl⟩ := z_solx hN (fun q => z_rg_ge (by omega) (nI_le (Nat.le_refl _) (by omega)) q.1)
      refine z_ldc (pc := 948) dL_acts_948 cc38 ?_
      refine z_icmp_ne (pc := 950) (tgt := 957) dL_acts_950 (by decide) (fun hn => absurd (rfl) hn) (fun _ => ?_)
      refine z_iconst_1 (pc := 953) dL_acts_953 ?_
      refine z_goto (pc := 954) (tgt := 958) dL_acts_954 (by decide) ?_
      refine z_zret (pc := 958) dL_acts_958 rfl (Or.inr rfl ) ( ⟨rfl, _, _, _, _, ws, fp, fw, fg, hV, hwp, hww, hwg, hLI⟩)
    · refine z_icmp_ne (pc := 922) (tgt := 959) dL_acts_922 (by decide) (fun _ => ?_) (fun hn => absurd hn (fun q => hzn (nI_inj (by omega) (by omega) q)))
      exact z_E.mono (by omega) (by omega) (iL_actS1 hF hne hV hwp hww hwg hLI hp (by omega))
  have go905 : ∀ ck sk, 36 ≤ ck → 200 ≤ sk → z_E G zL_acts 10 (z_aq G F a0 ap aw ag) 905 [some (.ref a0), some (.ref ap), x2, some (.ref ag), some (.int x), some (.int y), x6, some (.int (nI p)), some (.int (nI (N 2 0))), x9, x10, x11, x12, x13, x14, x15] [] wN ck sk := by
    intro ck sk h36 h200
    refine z_iload (pc := 905) dL_acts_905 rfl ?_
    refine z_iconst_2 (pc := 907) dL_acts_907 ?_
    refine z_ishr (pc := 908) dL_acts_908 ?_
    refine z_iload (pc := 909) dL_acts_909 rfl ?_
    refine z_iconst_1 (pc := 911) dL_acts_911 ?_
    refine z_iadd (pc := 912) dL_acts_912 ?_
    rw [nI_1]
    refine z_callS (pc := 913) (mL_low (y >>> (2 &&& 31)) (n := N 2 0 + 1) (by omega) (by omega)) dL_acts_913 cwL_127 okL_low rfl (by omega) rfl (Nat.le_of_ble_eq_true rfl) (by omega) (by omega) (fun _ _ h => h.elim) (fun v wN hN => ?_)
    obtain ⟨rfl, z, hz, rfl⟩ := hN
    exact go916 _ _ _ (by omega) (by omega) (by omega)
  refine z_istore8 (pc := 876) dL_acts_876 ?_
  refine z_iload (pc := 878) dL_acts_878 rfl ?_
  refine z_iconst_3 (pc := 880) dL_acts_880 ?_
  refine z_callS (pc := 881) (mL_low y (n := 3) (by omega) (by omega)) dL_acts_881 cwL_127 okL_low rfl (by omega) rfl (Nat.le_of_ble_eq_true rfl) (by omega) (by omega) (fun _ _ h => h.elim) (fun v wN hN => ?_)
  obtain ⟨rfl, j, hj, rfl⟩ := hN
  refine z_if_le (pc := 884) (tgt := 905) dL_acts_884 (by decide) (fun hc => ?_) (fun hc => ?_)
  · exact go905 _ _ (by omega) (by omega)
  · refine z_aload_n (pc := 887) dL_acts_887 rfl (by first | rfl | exact z_isr_rf _) ?_
    refine z_iload (pc := 888) dL_acts_888 rfl ?_
    refine z_callSXp (pc := 890) (wL_offered hV (nI p)) dL_acts_890 cwL_112 okL_offered rfl (by omega) rfl (Nat.le_of_ble_eq_true rfl) (by omega) (by omega) ?_
    rw [z_if_t hpr, nI_clamp (show p < 2 ^ 31 by omega), hn.2.2.2.2.2]
    cases ho : z_of I p (N 2 0) 40 with
    | none =>
      refine z_if_lt (pc := 893) (tgt := 905) dL_acts_893 (by decide) (fun _ => ?_) (fun hn => absurd (by decide) hn)
      exact go905 _ _ (by omega) (by omega)
    | some f =>
      have hf := z_of_lt ho
      rw [show z_fi (some f) = nI f from rfl]
      refine z_if_lt (pc := 893) (tgt := 905) dL_acts_893 (by decide) (fun hn => absurd hn (nI_pos (by omega))) (fun _ => ?_)
      refine z_aload_n (pc := 896) dL_acts_896 rfl (by first | rfl | exact z_isr_rf _) ?_
      refine z_iload (pc := 897) dL_acts_897 rfl ?_
      refine z_callSXp (pc := 899) (wL_offered hV (nI p)) dL_acts_899 cwL_112 okL_offered rfl (by omega) rfl (Nat.le_of_ble_eq_true rfl) (by omega) (by omega) ?_
      rw [z_if_t hpr, nI_clamp (show p < 2 ^ 31 by omega), hn.2.2.2.2.2, ho, show z_fi (some f) = nI f from rfl]
      refine z_goto (pc := 902) (tgt := 916) dL_acts_902 (by decide) ?_
      exact go916 _ _ _ (by omega) (by omega) (by omega)
end LI1

