/-! calls, returns, throws -/
section ZCALLS
variable {G : z_G} {Y : z_Mi} {d : Nat} {Z : z_Gq} {pc : Nat} {L : List (Option Value)} {st : List Value} {w : z_W} {k n : Nat}
variable {QR : Option Value → z_W → Prop} {QX : String → z_W → Prop}
theorem z_iret {v : Int32} (d0 : decode Y.2.1 pc = .ok (.ireturn, 1)) (hr : Y.2.2.2.1 = some .int) (hq : QR (some (.int v)) w) : z_E G Y d (z_mq G QR QX) pc L [.int v] w k n := by
  intro p e R s m args below meth c H locs cells slots ls mc ms C hR hS hL hd hk
  exact vx_ret (W.widen (k := mc) (n := ms) (by omega) (by omega) (W.iret C.1 C.2.1 (C.2.2.2.2.2.1.trans hr) (fun t ht hW => ⟨⟨_, w, rfl, hq, by rw [ht]; exact hR⟩, hS.F ht⟩) hS.2.2 d0 C.2.2.2.2.2.2.1))
theorem z_zret {v : Int32} (d0 : decode Y.2.1 pc = .ok (.ireturn, 1)) (hr : Y.2.2.2.1 = some .boolean) (hv : v = 0 ∨ v = 1) (hq : QR (some (.int v)) w) : z_E G Y d (z_mq G QR QX) pc L [.int v] w k n := by
  intro p e R s m args below meth c H locs cells slots ls mc ms C hR hS hL hd hk
  exact vx_ret (W.widen (k := mc) (n := ms) (by omega) (by omega) (W.zret C.1 C.2.1 (C.2.2.2.2.2.1.trans hr) (by rcases hv with rfl | rfl <;> rfl) (fun t ht hW => ⟨⟨_, w, rfl, hq, by rw [ht]; exact hR⟩, hS.F ht⟩) hS.2.2 d0 C.2.2.2.2.2.2.1))
theorem z_fret {v : UInt32} (d0 : decode Y.2.1 pc = .ok (.freturn, 1)) (hr : Y.2.2.2.1 = some .float) (hq : QR (some (.float v)) w) : z_E G Y d (z_mq G QR QX) pc L [.float v] w k n := by
  intro p e R s m args below meth c H locs cells slots ls mc ms C hR hS hL hd hk
  exact vx_ret (W.widen (k := mc) (n := ms) (by omega) (by omega) (W.fret C.1 C.2.1 (C.2.2.2.2.2.1.trans hr) (fun t ht hW => ⟨⟨_, w, rfl, hq, by rw [ht]; exact hR⟩, hS.F ht⟩) hS.2.2 d0 C.2.2.2.2.2.2.1))
theorem z_aret {v : Value} {cn : String} (d0 : decode Y.2.1 pc = .ok (.areturn, 1)) (hr : Y.2.2.2.1 = some (.object cn)) (hv : z_isr v = true) (hq : QR (some v) w) : z_E G Y d (z_mq G QR QX) pc L [v] w k n := by
  intro p e R s m args below meth c H locs cells slots ls mc ms C hR hS hL hd hk
  exact vx_ret (W.widen (k := mc) (n := ms) (by omega) (by omega) (W.aret C.1 C.2.1 (C.2.2.2.2.2.1.trans hr) (Or.inl ⟨_, rfl⟩) (z_isr_or hv) (fun t ht hW => ⟨⟨_, w, rfl, hq, by rw [ht]; exact hR⟩, hS.F ht⟩) hS.2.2 d0 C.2.2.2.2.2.2.1))
theorem z_vret (d0 : decode Y.2.1 pc = .ok (.return_, 1)) (hr : Y.2.2.2.1 = none) (hq : QR none w) : z_E G Y d (z_mq G QR QX) pc L [] w k n := by
  intro p e R s m args below meth c H locs cells slots ls mc ms C hR hS hL hd hk
  exact vx_ret (W.widen (k := mc) (n := ms) (by omega) (by omega) (W.vret C.1 C.2.1 (C.2.2.2.2.2.1.trans hr) (fun t ht hW => ⟨⟨_, w, rfl, hq, by rw [ht]; exact hR⟩, hS.F ht⟩) hS.2.2 d0 C.2.2.2.2.2.2.1))
/-- a call's run, to the caller's next step or to the exception over it -/
theorem z_run {p : Program} {e : Env} {R : Room} {s : State} {m : MethodId} {args a : Array Value} {below : List Frame} {meth : Method} {c : Code} {H : Heap} {locs : List Loc} {cells slots k' n' : Nat} {ls : Array Slot} {st0 rest : List Value} {Q : State → Prop}
    (hr : vx_Run p G.2.2.2.1 e R s m args below meth c H locs cells slots k' n' (F0 m pc ls st0) rest (z_Qc G QR a) (z_XC G QX) (z_A G)) (hS : va_S (z_A G) s.heap H locs)
    (kx : ∀ (E : String) (w' : z_W) (q : Addr) (ce : Cell) (H1 : Heap) (locs1 : List Loc), QX E w' → z_R G w' H1 → va_S (z_A G) s.heap H1 locs1 → H1[q]? = some ce → ce.vm = .none → s.vm.findClass E = some ce.cls → vx_W p G.2.2.2.1 e R s m args below meth c H1 locs1 (cells + k') (slots + n') Q (F0 m pc ls rest) q)
    (kk : ∀ (v : Option Value) (w' : z_W) (H1 : Heap) (locs1 : List Loc), QR v w' → z_R G w' H1 → va_S (z_A G) s.heap H1 locs1 → W p G.2.2.2.1 e R s m args below meth c H1 locs1 (cells + k') (slots + n') Q (F0 m (pc + 3) ls (v.toList ++ rest))) : W p G.2.2.2.1 e R s m args below meth c H locs cells slots Q (F0 m pc ls st0) := by
  intro T hT X
  rcases hr T hT X with ⟨v, st₀, t, T', L, h0, X', hL, e1, e2, ⟨⟨v', w', hv, hp, hb⟩, hF⟩, st⟩ | ⟨q, st₀, t, T', L, E, ce, h0, X', hL, e1, e2, ⟨⟨w', hp, hb⟩, hF⟩, hce, hcv, hcl, st⟩
  · cases hv
    obtain ⟨k1, k2, k3⟩ := vx_keep h0 e1 hS (fun _ _ h => h) (fun _ h => h) hL hF
    obtain ⟨t2, a1, b1⟩ := kk v w' T'.heap (locs ++ L) hp (by rw [e1]; exact hb) k3 T' rfl X'
    exact ⟨t2, st t2 a1, b1⟩
  · obtain ⟨k1, k2, k3⟩ := vx_keep h0 e1 hS (fun _ _ h => h) (fun _ h => h) hL hF
    obtain ⟨t2, a1, b1⟩ := kx E w' q ce T'.heap (locs ++ L) hp (by rw [e1]; exact hb) k3 (by rw [e1]; exact hce) hcv hcl T' rfl X'
    exact ⟨t2, st.trans a1, b1⟩
theorem z_blind {av : List Value} {w : z_W} : FrameBlind (va_Pc av (z_U G w)) := fun a U g mk h => ⟨h.1, h.2.1, z_F.same (s := U) rfl rfl h.2.2⟩
/-- what a method's name tells: n arguments, its locals -/
def z_ok (Y' : z_Mi) (j : Nat) : Prop := Y'.1.cls ≠ "java/lang/invoke/MethodHandle" ∧ Y'.1.cls ≠ "java/lang/invoke/VarHandle" ∧ (parseMethodDescriptor Y'.1.desc).map (fun d => d.parameters.length) = some j ∧ Y'.2.2.1 ≤ 16
/-- the words of a call -/
def z_cV (own : String) (idx : Nat) (Y' : z_Mi) : Prop := Cond.methodLink own idx Y'.1 ∈ z_T ∧ Cond.instanceMethod Y'.1 ∈ z_T ∧ Cond.selects Y'.1.cls Y'.1 Y'.1 ∈ z_T ∧ Cond.initialized Y'.1.cls ∈ z_T ∧ Cond.code Y'.1 Y'.2.1 Y'.2.2.1 Y'.2.2.2.1 ∈ z_T
def z_cS (own : String) (idx : Nat) (Y' : z_Mi) : Prop := Cond.methodLink own idx Y'.1 ∈ z_T ∧ Cond.static Y'.1 ∈ z_T ∧ Cond.initialized Y'.1.cls ∈ z_T ∧ Cond.code Y'.1 Y'.2.1 Y'.2.2.1 Y'.2.2.2.1 ∈ z_T
def z_cI (own : String) (idx : Nat) (Y' : z_Mi) : Prop := Cond.methodLink own idx Y'.1 ∈ z_T ∧ Cond.instanceMethod Y'.1 ∈ z_T ∧ Cond.initialized Y'.1.cls ∈ z_T ∧ Cond.code Y'.1 Y'.2.1 Y'.2.2.1 none ∈ z_T ∧ Y'.1.name = "<init>" ∧ Y'.2.2.2.1 = none
def z_cSN (own : String) (idx : Nat) (Y' : z_Mi) : Prop := (∃ host, (own, idx, Y'.1, host) ∈ z_nestN) ∧ Cond.static Y'.1 ∈ z_T ∧ Cond.initialized Y'.1.cls ∈ z_T ∧ Cond.code Y'.1 Y'.2.1 Y'.2.2.1 Y'.2.2.2.1 ∈ z_T
def z_cIN (own : String) (idx : Nat) (Y' : z_Mi) : Prop := (∃ host, (own, idx, Y'.1, host) ∈ z_nestN) ∧ Cond.instanceMethod Y'.1 ∈ z_T ∧ Cond.initialized Y'.1.cls ∈ z_T ∧ Cond.code Y'.1 Y'.2.1 Y'.2.2.1 none ∈ z_T ∧ Y'.1.name = "<init>" ∧ Y'.2.2.2.1 = none
theorem z_goodws {Y' : z_Mi} (h : Cond.code Y'.1 Y'.2.1 Y'.2.2.1 Y'.2.2.2.1 ∈ z_T) : GoodIn z_T (z_ws Y') := by
  intro w hw
  rcases List.mem_cons.mp hw with rfl | hw
  · exact ⟨h, z_Tgood h⟩
  · exact ⟨hw, z_Tgood hw⟩
theorem z_room {Y' : z_Mi} {d' d : Nat} {R : Room} (hd : d ≤ R.frames ∧ z_lb d ≤ R.locals) (h1 : d' + 1 ≤ d) (h2 : Y'.2.2.1 ≤ 16) {k' n' : Nat} : (z_rm d' k' n').frames + 1 ≤ R.frames ∧ 8 + (Y'.2.2.1 + 11) + (z_rm d' k' n').locals ≤ R.locals := by
  have a : 35 * d ≤ R.locals := hd.2
  refine ⟨Nat.le_trans h1 hd.1, ?_⟩
  show 8 + (Y'.2.2.1 + 11) + 35 * d' ≤ R.locals
  omega
theorem z_preS {p : Program} {s : State} {m : MethodId} {args : Array Value} {meth : Method} {c : Code} {H : Heap} {locs : List Loc} {As : List Value} (C : z_Cx G Y p s m args meth c) (hR : z_R G w H) (hS : va_S (z_A G) s.heap H locs) : PreS s H (va_Pc As (z_U G w)) As :=
  ⟨z_blind, fun U hU hW => ⟨rfl, by rw [hU]; exact hR, z_F.next C.2.2.2.2.2.2.2.2.2 hW hU hS⟩⟩
section
variable {Y' : z_Mi} {d' k' n' idx j : Nat} {As rest : List Value} {QR' : Option Value → z_W → Prop} {QX' : String → z_W → Prop}
theorem z_callV {b ci : Nat} {q : vw_C} {fs : List Value} (hM : z_M G Y' d' (.ref b :: As) w k' n' QR' QX') (d0 : decode Y.2.1 pc = .ok (.invokevirtual idx, 3)) (hw : z_cV Y.1.cls idx Y') (ho : z_ok Y' j) (hn : As.length = j) (hb : w b = some (.inr (ci, fs))) (hc : vwCl[ci]? = some q) (hq : q.1 = Y'.1.cls) (hdd : d' + 1 ≤ d) (hst : st = As.reverse ++ .ref b :: rest) (hre : (rest.map fun v => v.category).sum ≤ 8) (hk1 : k' ≤ k) (hn1 : n' ≤ n)
    (kx : ∀ E w', QX' E w' → z_X G Y d Z E pc L w' (k - k') (n - n')) (kk : ∀ v w', QR' v w' → z_E G Y d Z (pc + 3) L (v.toList ++ rest) w' (k - k') (n - n')) : z_E G Y d Z pc L st w k n := by
  intro p e R s m args below meth c H locs cells slots ls mc ms C hR hS hL hd hk
  obtain ⟨hP1, -⟩ := hR.one hb
  have hrc := va_recv C.2.2.2.2.2.2.2.2.2.1 hP1 hc (q0 := 0) rfl
  rw [hq] at hrc
  refine z_run (vx_runV (As := As) (rest := rest) ⟨C.1, C.2.1, C.2.2.1, C.2.2.2.1, C.2.2.2.2.1⟩ hM (cwV (C := Y'.1.cls) j C.2.2.2.2.1 (fun w hw2 => ?_) rfl rfl rfl ⟨rfl, ho.1, ho.2.1, ho.2.2.1⟩ (z_room hd hdd ho.2.2.2)) ⟨z_blind, hrc, fun U hU hW => ⟨rfl, by rw [hU]; exact hR, z_F.next C.2.2.2.2.2.2.2.2.2 hW hU hS⟩⟩ rfl hn hL.2.1 hst (lv_room hre) d0 ⟨by omega, by omega⟩) hS (fun E w' q ce H1 locs1 hX hR1 hS1 h1 h2 h3 => ?_) (fun v w' H1 locs1 hQ hR1 hS1 => ?_)
  · rcases List.mem_append.mp hw2 with h | h
    · have h4 : w = .methodLink Y.1.cls idx Y'.1 ∨ w = .instanceMethod Y'.1 ∨ w = .selects Y'.1.cls Y'.1 Y'.1 ∨ w = .initialized Y'.1.cls := by simpa using h
      rcases h4 with rfl | rfl | rfl | rfl
      · exact ⟨hw.1, z_Tgood hw.1⟩
      · exact ⟨hw.2.1, z_Tgood hw.2.1⟩
      · exact ⟨hw.2.2.1, z_Tgood hw.2.2.1⟩
      · exact ⟨hw.2.2.2.1, z_Tgood hw.2.2.2.1⟩
    · exact z_goodws hw.2.2.2.2 w h
  · exact kx E w' hX p e R s m args below meth c H1 locs1 (cells + k') (slots + n') ls mc ms rest q ce C hR1 hS1 hL hd ⟨by omega, by omega, hk.2.2⟩ h1 h2 h3
  · exact kk v w' hQ p e R s m args below meth c H1 locs1 (cells + k') (slots + n') ls mc ms C hR1 hS1 hL hd ⟨by omega, by omega, hk.2.2⟩
theorem z_callS (hM : z_M G Y' d' As w k' n' QR' QX') (d0 : decode Y.2.1 pc = .ok (.invokestatic idx, 3)) (hw : z_cS Y.1.cls idx Y') (ho : z_ok Y' j) (hn : As.length = j) (hdd : d' + 1 ≤ d) (hst : st = As.reverse ++ rest) (hre : (rest.map fun v => v.category).sum ≤ 8) (hk1 : k' ≤ k) (hn1 : n' ≤ n)
    (kx : ∀ E w', QX' E w' → z_X G Y d Z E pc L w' (k - k') (n - n')) (kk : ∀ v w', QR' v w' → z_E G Y d Z (pc + 3) L (v.toList ++ rest) w' (k - k') (n - n')) : z_E G Y d Z pc L st w k n := by
  intro p e R s m args below meth c H locs cells slots ls mc ms C hR hS hL hd hk
  refine z_run (vx_runS (As := As) (rest := rest) ⟨C.1, C.2.1, C.2.2.1, C.2.2.2.1, C.2.2.2.2.1⟩ hM (va_cwS j C.2.2.2.2.1 (fun w hw2 => ?_) rfl rfl rfl ⟨ho.1, ho.2.1, ho.2.2.1⟩ (z_room hd hdd ho.2.2.2)) (z_preS C hR hS) rfl hn hL.2.1 hst (lv_room hre) d0 ⟨by omega, by omega⟩) hS (fun E w' q ce H1 locs1 hX hR1 hS1 h1 h2 h3 => ?_) (fun v w' H1 locs1 hQ hR1 hS1 => ?_)
  · rcases List.mem_append.mp hw2 with h | h
    · have h4 : w = .methodLink Y.1.cls idx Y'.1 ∨ w = .static Y'.1 ∨ w = .initialized Y'.1.cls := by simpa using h
      rcases h4 with rfl | rfl | rfl
      · exact ⟨hw.1, z_Tgood hw.1⟩
      · exact ⟨hw.2.1, z_Tgood hw.2.1⟩
      · exact ⟨hw.2.2.1, z_Tgood hw.2.2.1⟩
    · exact z_goodws hw.2.2.2 w h
  · exact kx E w' hX p e R s m args below meth c H1 locs1 (cells + k') (slots + n') ls mc ms rest q ce C hR1 hS1 hL hd ⟨by omega, by omega, hk.2.2⟩ h1 h2 h3
  · exact kk v w' hQ p e R s m args below meth c H1 locs1 (cells + k') (slots + n') ls mc ms C hR1 hS1 hL hd ⟨by omega, by omega, hk.2.2⟩
theorem z_callI {b : Nat} (hM : z_M G Y' d' (.ref b :: As) w k' n' QR' QX') (d0 : decode Y.2.1 pc = .ok (.invokespecial idx, 3)) (hw : z_cI Y.1.cls idx Y') (ho : z_ok Y' j) (hn : As.length = j) (hdd : d' + 1 ≤ d) (hst : st = As.reverse ++ .ref b :: rest) (hre : (rest.map fun v => v.category).sum ≤ 8) (hk1 : k' ≤ k) (hn1 : n' ≤ n)
    (kx : ∀ E w', QX' E w' → z_X G Y d Z E pc L w' (k - k') (n - n')) (kk : ∀ v w', QR' v w' → z_E G Y d Z (pc + 3) L (v.toList ++ rest) w' (k - k') (n - n')) : z_E G Y d Z pc L st w k n := by
  intro p e R s m args below meth c H locs cells slots ls mc ms C hR hS hL hd hk
  have hgw : GoodIn z_T (z_ws Y') := z_goodws (by rw [hw.2.2.2.2.2]; exact hw.2.2.2.1)
  refine z_run (vx_runI (As := As) (rest := rest) ⟨C.1, C.2.1, C.2.2.1, C.2.2.2.1, C.2.2.2.2.1⟩ hM (cwI (ws' := z_T) j C.2.2.2.2.1 hgw (by rw [← hw.2.2.2.2.2]; rfl) rfl rfl (C.2.2.2.2.1 _ hw.2.2.1) (C.2.2.2.2.1 _ hw.1) (C.2.2.2.2.1 _ hw.2.1) hw.2.2.2.2.1 ⟨ho.1, ho.2.1, ho.2.2.1⟩ (z_room hd hdd ho.2.2.2)) (z_preS C hR hS) rfl hn hL.2.1 hst (lv_room hre) d0 ⟨by omega, by omega⟩) hS (fun E w' q ce H1 locs1 hX hR1 hS1 h1 h2 h3 => ?_) (fun v w' H1 locs1 hQ hR1 hS1 => ?_)
  · exact kx E w' hX p e R s m args below meth c H1 locs1 (cells + k') (slots + n') ls mc ms rest q ce C hR1 hS1 hL hd ⟨by omega, by omega, hk.2.2⟩ h1 h2 h3
  · exact kk v w' hQ p e R s m args below meth c H1 locs1 (cells + k') (slots + n') ls mc ms C hR1 hS1 hL hd ⟨by omega, by omega, hk.2.2⟩
theorem z_callSN (hM : z_M G Y' d' As w k' n' QR' QX') (d0 : decode Y.2.1 pc = .ok (.invokestatic idx, 3)) (hw : z_cSN Y.1.cls idx Y') (ho : z_ok Y' j) (hn : As.length = j) (hdd : d' + 1 ≤ d) (hst : st = As.reverse ++ rest) (hre : (rest.map fun v => v.category).sum ≤ 8) (hk1 : k' ≤ k) (hn1 : n' ≤ n)
    (kx : ∀ E w', QX' E w' → z_X G Y d Z E pc L w' (k - k') (n - n')) (kk : ∀ v w', QR' v w' → z_E G Y d Z (pc + 3) L (v.toList ++ rest) w' (k - k') (n - n')) : z_E G Y d Z pc L st w k n := by
  intro p e R s m args below meth c H locs cells slots ls mc ms C hR hS hL hd hk
  obtain ⟨⟨host, hh⟩, h2, h3, h4⟩ := hw
  refine z_run (vx_runSN (host := host) (As := As) (rest := rest) ⟨C.1, C.2.1, C.2.2.1, C.2.2.2.1, C.2.2.2.2.1⟩ hM ⟨va_cnB j C.2.2.2.2.1 (z_goodws h4) rfl rfl rfl (C.2.2.2.2.2.2.2.2.2.2.1 _ hh) (C.2.2.2.2.1 _ h3) ⟨ho.1, ho.2.1, ho.2.2.1⟩ (z_room hd hdd ho.2.2.2), C.2.2.2.2.1 _ h2, trivial⟩ (z_preS C hR hS) rfl hn hL.2.1 hst (lv_room hre) d0 ⟨by omega, by omega⟩) hS (fun E w' q ce H1 locs1 hX hR1 hS1 h1 h2 h3 => ?_) (fun v w' H1 locs1 hQ hR1 hS1 => ?_)
  · exact kx E w' hX p e R s m args below meth c H1 locs1 (cells + k') (slots + n') ls mc ms rest q ce C hR1 hS1 hL hd ⟨by omega, by omega, hk.2.2⟩ h1 h2 h3
  · exact kk v w' hQ p e R s m args below meth c H1 locs1 (cells + k') (slots + n') ls mc ms C hR1 hS1 hL hd ⟨by omega, by omega, hk.2.2⟩
theorem z_callIN {b : Nat} (hM : z_M G Y' d' (.ref b :: As) w k' n' QR' QX') (d0 : decode Y.2.1 pc = .ok (.invokespecial idx, 3)) (hw : z_cIN Y.1.cls idx Y') (ho : z_ok Y' j) (hn : As.length = j) (hdd : d' + 1 ≤ d) (hst : st = As.reverse ++ .ref b :: rest) (hre : (rest.map fun v => v.category).sum ≤ 8) (hk1 : k' ≤ k) (hn1 : n' ≤ n)
    (kx : ∀ E w', QX' E w' → z_X G Y d Z E pc L w' (k - k') (n - n')) (kk : ∀ v w', QR' v w' → z_E G Y d Z (pc + 3) L (v.toList ++ rest) w' (k - k') (n - n')) : z_E G Y d Z pc L st w k n := by
  intro p e R s m args below meth c H locs cells slots ls mc ms C hR hS hL hd hk
  obtain ⟨⟨host, hh⟩, h2, h3, h4, h5, h6⟩ := hw
  have hgw : GoodIn z_T (z_ws Y') := z_goodws (by rw [h6]; exact h4)
  refine z_run (vx_runIN (host := host) (As := As) (rest := rest) ⟨C.1, C.2.1, C.2.2.1, C.2.2.2.1, C.2.2.2.2.1⟩ hM ⟨va_cnB (ws' := z_T) j C.2.2.2.2.1 hgw (by rw [← h6]; rfl) rfl rfl (C.2.2.2.2.2.2.2.2.2.2.1 _ hh) (C.2.2.2.2.1 _ h3) ⟨ho.1, ho.2.1, ho.2.2.1⟩ (z_room hd hdd ho.2.2.2), h5, C.2.2.2.2.1 _ h2⟩ (z_preS C hR hS) rfl hn hL.2.1 hst (lv_room hre) d0 ⟨by omega, by omega⟩) hS (fun E w' q ce H1 locs1 hX hR1 hS1 h1 h2 h3 => ?_) (fun v w' H1 locs1 hQ hR1 hS1 => ?_)
  · exact kx E w' hX p e R s m args below meth c H1 locs1 (cells + k') (slots + n') ls mc ms rest q ce C hR1 hS1 hL hd ⟨by omega, by omega, hk.2.2⟩ h1 h2 h3
  · exact kk v w' hQ p e R s m args below meth c H1 locs1 (cells + k') (slots + n') ls mc ms C hR1 hS1 hL hd ⟨by omega, by omega, hk.2.2⟩
end
/-- not caught here: it goes on to the caller -/
theorem z_Xout {E : String} (hh : Y.2.2.2.2 = []) (hq : QX E w) : z_X G Y d (z_mq G QR QX) E pc L w k n := by
  intro p e R s m args below meth c H locs cells slots ls mc ms rest q ce C hR hS hL hd hk h1 h2 h3
  have hT : c.exceptionTable.toList = [] := by rw [C.2.2.2.2.2.2.2.2.1, hh]; rfl
  exact vx_out (fun x hx => by rw [hT] at hx; cases hx) C.2.2.2.2.2.2.1 h1 h2 h3 (fun t ht _ => ⟨⟨w, hq, by rw [ht]; exact hR⟩, hS.F ht⟩) hS.2.2 (by omega) (by omega)
theorem z_R.kept {H H1 : Heap} (h : z_R G w H) (h2 : H.size ≤ H1.size) (h3 : ∀ q : Nat, q < H.size → H1[q]? = H[q]?) : z_R G w H1 := by
  obtain ⟨ws, hP, hD, hw⟩ := h
  exact ⟨ws, hP.kept (fun k q hk => h3 q.1 (vx_lt hP hk)), hD, hw⟩
/-- the words of 'throw new cls(text)' in the class RX5 -/
def z_thr (ik ic : Nat) (cls : String) : Prop := Bundle.fit cls = true ∧ Cond.classLink RX5 ik cls ∈ z_T ∧ Cond.initialized cls ∈ z_T ∧ cls ∈ z_castN ∧ (∀ w ∈ (vx_atS RX5 ic cls ["java/lang/RuntimeException", "java/lang/Exception"]).filter goodWord, w ∈ z_T) ∧ (∀ w ∈ (vx_atS RX5 ic cls ["java/lang/RuntimeException", "java/lang/Exception"]).filter (fun w => !goodWord w), w ∈ Cond.castable cls cls :: z_declN.map Cond.declares) ∧ (∀ w ∈ Cond.classLink RX5 ik cls :: Cond.initialized cls :: vx_atS RX5 ic cls ["java/lang/RuntimeException", "java/lang/Exception"], vx_ot w = true)
theorem z_throw {ik ic is : Nat} {cls text : String} (hY : Y.1.cls = RX5) (hh : Y.2.2.2.2 = []) (ht : z_thr ik ic cls) (hs : (RX5, is, text) ∈ z_strs) (hdd : 6 ≤ d) (hst : (st.map fun v => v.category).sum ≤ 8) (hk1 : 1 ≤ k) (hn1 : 6 ≤ n)
    (d0 : decode Y.2.1 pc = .ok (.new ik, 3)) (d3 : decode Y.2.1 (pc + 3) = .ok (.dup, 1)) (d4 : decode Y.2.1 (pc + 4) = .ok (.ldc is, 2)) (d6 : decode Y.2.1 (pc + 6) = .ok (.invokespecial ic, 3)) (d9 : decode Y.2.1 (pc + 9) = .ok (.athrow, 1)) (hq : QX cls w) : z_E G Y d (z_mq G QR QX) pc L st w k n := by
  intro p e R s m args below meth c H locs cells slots ls mc ms C hR hS hL hd hk
  obtain ⟨t1, t2, t3, t4, t5, t6, t7⟩ := ht
  obtain ⟨F1, F2, F3, F4, F5, F6, F7, F8, F9, F10, -⟩ := C.2.2.2.2.2.2.2.2.2
  have hT : c.exceptionTable.toList = [] := by rw [C.2.2.2.2.2.2.2.2.1, hh]; rfl
  obtain ⟨sa, hsa⟩ := F4 _ hs
  have hown : s.vm.findClass RX5 = some m.cls := hY ▸ C.2.2.2.1
  have hd2 : 35 * d ≤ R.locals := hd.2
  have hd1 : d ≤ R.frames := hd.1
  refine vx_throwS (names := ["java/lang/RuntimeException", "java/lang/Exception"]) (A := z_A G) C.1 C.2.1 F9 hown t1 (by decide +kernel) (C.2.2.2.2.1 _ t2) (C.2.2.2.2.1 _ t3) hsa (vx_hat (B := Cond.castable cls cls :: z_declN.map Cond.declares) (fun w hw => C.2.2.2.2.1 _ (t5 w hw)) t6 (fun w hw => ?_)) t7 F6 F7 hS (hL.2.1.trans C.2.2.1.symm) d0 d3 d4 d6 d9 (fun x hx => by rw [hT] at hx; cases hx) ?_ ?_ (by omega) (by omega) C.2.2.2.2.2.2.1 (fun t _ hz hkp => ⟨⟨w, hq, hR.kept hz hkp⟩, ?_⟩) hS.2.2 (by omega) (by omega)
  · rcases List.mem_cons.mp hw with rfl | hw
    · exact va_Nw.use rfl (F3 cls t4)
    · obtain ⟨y, hy, rfl⟩ := List.mem_map.mp hw
      exact va_Nw.use rfl (F10 y hy)
  · show 2 + 3 < R.frames
    omega
  · show _ + (13 * (2 + 1) + 43) ≤ R.locals
    omega
  · exact ⟨Nat.le_trans hS.1 hz, fun q h1 h2 => by rw [hkp q (Nat.lt_of_lt_of_le h1 hS.1)]; exact hS.2.1 q h1 h2⟩
end ZCALLS
