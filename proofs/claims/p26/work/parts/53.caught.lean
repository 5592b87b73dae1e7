/-! methods of the law that catch; the script; the law's own end -/
def z_wsW (Y : z_Mi) : List Cond := .codeWith Y.1 Y.2.1 Y.2.2.1 Y.2.2.2.1 Y.2.2.2.2 :: z_T
def z_MW (G : z_G) (Y : z_Mi) (d : Nat) (av : List Value) (w : z_W) (k n : Nat) (QR : Option Value → z_W → Prop) (QX : String → z_W → Prop) : Prop :=
  vx_Met G.2.2.2.1 Y.1 (z_wsW Y) (z_rm d k n) (va_Pc av (z_U G w)) (z_Qc G QR) (z_XC G QX) k n (z_A G)
theorem z_MW.of {G : z_G} {Y : z_Mi} {d : Nat} {av : List Value} {w : z_W} {k n : Nat} {QR : Option Value → z_W → Prop} {QX : String → z_W → Prop} (hy : plainName Y.1.cls = true) (hc : ∀ v ∈ av, v.category = 1) (hn : av.length ≤ Y.2.2.1)
    (h : z_E G Y d (z_mq G QR QX) 0 (z_in av Y.2.2.1) [] w k n) : z_MW G Y d av w k n QR QX := by
  refine vx_ofWH (cc := Y.2.1) (maxL := Y.2.2.1) (ret := Y.2.2.2.1) (hh := Y.2.2.2.2) hy rfl ?_
  intro p e s m args below meth c s₁ B hml hv
  obtain ⟨rfl, hR, hF⟩ := hv
  have hts := atoms_spec (ws := z_wsW Y) B.pre
  have hl := z_entry av (nL := Y.2.2.1) hc hn
  rw [lg_entry_eq]
  have hT2 : c.exceptionTable.toList = tableOf Y.2.2.2.2 := vx_table (x := Y.1) B (hts _ List.mem_cons_self)
  exact h p e _ s m _ below meth c s.heap [] 0 0 _ k n ⟨B.exec, B.bytes, hml, findClass_of_methodNamed B.named, fun w hw => hts w (List.mem_cons_of_mem _ hw), B.returns, B.notSynchronized, (name_of_methodNamed B.named B.method).1, hT2, hF⟩ hR va_S.rf hl ⟨Nat.le_refl _, Nat.le_refl _⟩ ⟨by omega, by omega, Nat.le_refl _, Nat.le_refl _⟩
def z_cSW (own : String) (idx : Nat) (Y' : z_Mi) : Prop := Cond.methodLink own idx Y'.1 ∈ z_T ∧ Cond.static Y'.1 ∈ z_T ∧ Cond.initialized Y'.1.cls ∈ z_T ∧ Cond.codeWith Y'.1 Y'.2.1 Y'.2.2.1 Y'.2.2.2.1 Y'.2.2.2.2 ∈ z_T
theorem z_goodwsW {Y' : z_Mi} (h : Cond.codeWith Y'.1 Y'.2.1 Y'.2.2.1 Y'.2.2.2.1 Y'.2.2.2.2 ∈ z_T) : GoodIn z_T (z_wsW Y') := by
  intro w hw
  rcases List.mem_cons.mp hw with rfl | hw
  · exact ⟨h, z_Tgood h⟩
  · exact ⟨hw, z_Tgood hw⟩
section CAU
variable {G : z_G} {Y : z_Mi} {d : Nat} {Z : z_Gq} {pc : Nat} {L : List (Option Value)} {st : List Value} {w : z_W} {k n : Nat}
theorem z_callSX {Y' : z_Mi} {d' k' n' idx j : Nat} {As rest : List Value} {QR' : Option Value → z_W → Prop} (hM : z_MW G Y' d' As w k' n' QR' z_nx) (d0 : decode Y.2.1 pc = .ok (.invokestatic idx, 3)) (hw : z_cSW Y.1.cls idx Y') (ho : z_ok Y' j) (hn : As.length = j) (hdd : d' + 1 ≤ d) (hst : st = As.reverse ++ rest) (hre : (rest.map fun v => v.category).sum ≤ 8) (hk1 : k' ≤ k) (hn1 : n' ≤ n)
    (kk : ∀ v w', QR' v w' → z_E G Y d Z (pc + 3) L (v.toList ++ rest) w' (k - k') (n - n')) : z_E G Y d Z pc L st w k n := by
  intro p e R s m args below meth c H locs cells slots ls mc ms C hR hS hL hd hk
  refine z_run (vx_runSX (As := As) (rest := rest) ⟨C.1, C.2.1, C.2.2.1, C.2.2.2.1, C.2.2.2.2.1⟩ hM (vx_cwSW j C.2.2.2.2.1 (fun w hw2 => ?_) rfl rfl rfl ⟨ho.1, ho.2.1, ho.2.2.1⟩ (z_room hd hdd ho.2.2.2)) (z_preS C hR hS) rfl hn hL.2.1 hst (lv_room hre) d0 ⟨by omega, by omega⟩) hS (fun E w' q ce H1 locs1 hX _ _ _ _ _ => hX.elim) (fun v w' H1 locs1 hQ hR1 hS1 => ?_)
  · rcases List.mem_append.mp hw2 with h | h
    · have h4 : w = .methodLink Y.1.cls idx Y'.1 ∨ w = .static Y'.1 ∨ w = .initialized Y'.1.cls := by simpa using h
      rcases h4 with rfl | rfl | rfl
      · exact ⟨hw.1, z_Tgood hw.1⟩
      · exact ⟨hw.2.1, z_Tgood hw.2.1⟩
      · exact ⟨hw.2.2.1, z_Tgood hw.2.2.1⟩
    · exact z_goodwsW hw.2.2.2 w h
  · exact kk v w' hQ p e R s m args below meth c H1 locs1 (cells + k') (slots + n') ls mc ms C hR1 hS1 hL hd ⟨by omega, by omega, hk.2.2⟩
/-- caught here, by the row x of the table -/
theorem z_Xat {E : String} {pre suf : List ExceptionTableEntry} {x : ExceptionTableEntry} (hE : E ∈ z_castN) (hs : tableOf Y.2.2.2.2 = pre ++ x :: suf) (hp : ∀ z ∈ pre, z.catchType ≠ 0 ∧ ∃ nm, Cond.classLink Y.1.cls z.catchType nm ∈ z_T ∧ (E, nm) ∈ z_ncast) (hx : covers x pc = true) (h0 : x.catchType ≠ 0) (hl : Cond.classLink Y.1.cls x.catchType E ∈ z_T)
    (kk : ∀ q : Nat, z_E G Y d Z x.handlerPc L [.ref q] w k n) : z_X G Y d Z E pc L w k n := by
  intro p e R s m args below meth c H locs cells slots ls mc ms rest q ce C hR hS hL hd hk h1 h2 h3
  obtain ⟨F1, F2, F3, F4, F5, F6, F7, F8, F9, F10, F11, -⟩ := C.2.2.2.2.2.2.2.2.2
  refine vx_catch (own := Y.1.cls) (name := E) C.2.2.2.1 pre x suf (C.2.2.2.2.2.2.2.2.1.trans hs) (fun z hz => ?_) hx h0 (C.2.2.2.2.1 _ hl) (va_Nw.use rfl (F3 E hE)) h1 h2 h3 (kk q p e R s m args below meth c H locs cells slots ls mc ms C hR hS hL hd hk)
  obtain ⟨a, nm, b, c2⟩ := hp z hz
  exact Or.inr ⟨a, nm, C.2.2.2.2.1 _ b, F11 (E, nm) c2⟩
/-- the script: its length, its ints -/
theorem z_slen (d0 : decode Y.2.1 pc = .ok (.arraylength, 1)) (kk : z_E G Y d Z (pc + 1) L (.int (nI G.2.2.2.2.2.1) :: st) w k n) : z_E G Y d Z pc L (.ref G.2.2.2.2.1 :: st) w k n := by
  intro p e R s m args below meth c H locs cells slots ls mc ms C hR hS hL hd hk
  obtain ⟨F1, F2, F3, F4, F5, F6, F7, F8, F9, F10, F11, F12, F13⟩ := C.2.2.2.2.2.2.2.2.2
  exact va_slen C.1 C.2.1 F12 (Nat.lt_of_lt_of_le F13 F8) (Nat.not_le.mpr F13) hS d0 (kk p e R s m args below meth c H locs cells slots ls mc ms C hR hS hL hd hk)
theorem z_sld {i : Int32} (d0 : decode Y.2.1 pc = .ok (.iaload, 1)) (hin : vp_in i G.2.2.2.2.2.1) (kk : z_E G Y d Z (pc + 1) L (.int (G.2.2.2.2.2.2 i.toNatClampNeg) :: st) w k n) : z_E G Y d Z pc L (.int i :: .ref G.2.2.2.2.1 :: st) w k n := by
  intro p e R s m args below meth c H locs cells slots ls mc ms C hR hS hL hd hk
  obtain ⟨F1, F2, F3, F4, F5, F6, F7, F8, F9, F10, F11, F12, F13⟩ := C.2.2.2.2.2.2.2.2.2
  exact va_sld C.1 C.2.1 F12 (Nat.lt_of_lt_of_le F13 F8) (Nat.not_le.mpr F13) hS hin d0 (kk p e R s m args below meth c H locs cells slots ls mc ms C hR hS hL hd hk)
end CAU
theorem cwL_96 : z_cSW RL 96 zL_after := ⟨(z_Tof (List.mem_of_getElem? (i := 383) (by decide +kernel)) (by decide +kernel)), (z_Tof (List.mem_of_getElem? (i := 384) (by decide +kernel)) (by decide +kernel)), (z_Tof (List.mem_of_getElem? (i := 12) (by decide +kernel)) (by decide +kernel)), (z_Tof (List.mem_of_getElem? (i := 385) (by decide +kernel)) (by decide +kernel))⟩
theorem cwL_94 : z_cSW RL 94 zL_worth := ⟨(z_Tof (List.mem_of_getElem? (i := 376) (by decide +kernel)) (by decide +kernel)), (z_Tof (List.mem_of_getElem? (i := 377) (by decide +kernel)) (by decide +kernel)), (z_Tof (List.mem_of_getElem? (i := 12) (by decide +kernel)) (by decide +kernel)), (z_Tof (List.mem_of_getElem? (i := 378) (by decide +kernel)) (by decide +kernel))⟩
theorem cwL_89 : z_cSW RL 89 zL_best := ⟨(z_Tof (List.mem_of_getElem? (i := 353) (by decide +kernel)) (by decide +kernel)), (z_Tof (List.mem_of_getElem? (i := 354) (by decide +kernel)) (by decide +kernel)), (z_Tof (List.mem_of_getElem? (i := 12) (by decide +kernel)) (by decide +kernel)), (z_Tof (List.mem_of_getElem? (i := 355) (by decide +kernel)) (by decide +kernel))⟩
theorem cwL_130 : z_cSW RL 130 zL_enter := ⟨(z_Tof (List.mem_of_getElem? (i := 121) (by decide +kernel)) (by decide +kernel)), (z_Tof (List.mem_of_getElem? (i := 122) (by decide +kernel)) (by decide +kernel)), (z_Tof (List.mem_of_getElem? (i := 12) (by decide +kernel)) (by decide +kernel)), (z_Tof (List.mem_of_getElem? (i := 123) (by decide +kernel)) (by decide +kernel))⟩
theorem cwL_141 : z_cSW RL 141 zL_begin := ⟨(z_Tof (List.mem_of_getElem? (i := 232) (by decide +kernel)) (by decide +kernel)), (z_Tof (List.mem_of_getElem? (i := 233) (by decide +kernel)) (by decide +kernel)), (z_Tof (List.mem_of_getElem? (i := 12) (by decide +kernel)) (by decide +kernel)), (z_Tof (List.mem_of_getElem? (i := 234) (by decide +kernel)) (by decide +kernel))⟩
theorem cwL_139 : z_cSW RL 139 zL_move := ⟨(z_Tof (List.mem_of_getElem? (i := 525) (by decide +kernel)) (by decide +kernel)), (z_Tof (List.mem_of_getElem? (i := 526) (by decide +kernel)) (by decide +kernel)), (z_Tof (List.mem_of_getElem? (i := 12) (by decide +kernel)) (by decide +kernel)), (z_Tof (List.mem_of_getElem? (i := 527) (by decide +kernel)) (by decide +kernel))⟩
theorem cwL_143 : z_cSW RL 143 zL_end := ⟨(z_Tof (List.mem_of_getElem? (i := 546) (by decide +kernel)) (by decide +kernel)), (z_Tof (List.mem_of_getElem? (i := 547) (by decide +kernel)) (by decide +kernel)), (z_Tof (List.mem_of_getElem? (i := 12) (by decide +kernel)) (by decide +kernel)), (z_Tof (List.mem_of_getElem? (i := 548) (by decide +kernel)) (by decide +kernel))⟩
theorem cwL_101 : z_cSW RL 101 zL_score := ⟨(z_Tof (List.mem_of_getElem? (i := 397) (by decide +kernel)) (by decide +kernel)), (z_Tof (List.mem_of_getElem? (i := 398) (by decide +kernel)) (by decide +kernel)), (z_Tof (List.mem_of_getElem? (i := 12) (by decide +kernel)) (by decide +kernel)), (z_Tof (List.mem_of_getElem? (i := 399) (by decide +kernel)) (by decide +kernel))⟩
theorem cwL_108 : z_cSW RL 108 zL_puzzle := ⟨(z_Tof (List.mem_of_getElem? (i := 407) (by decide +kernel)) (by decide +kernel)), (z_Tof (List.mem_of_getElem? (i := 408) (by decide +kernel)) (by decide +kernel)), (z_Tof (List.mem_of_getElem? (i := 12) (by decide +kernel)) (by decide +kernel)), (z_Tof (List.mem_of_getElem? (i := 409) (by decide +kernel)) (by decide +kernel))⟩
theorem cwL_110 : z_cSW RL 110 zL_source := ⟨(z_Tof (List.mem_of_getElem? (i := 419) (by decide +kernel)) (by decide +kernel)), (z_Tof (List.mem_of_getElem? (i := 420) (by decide +kernel)) (by decide +kernel)), (z_Tof (List.mem_of_getElem? (i := 12) (by decide +kernel)) (by decide +kernel)), (z_Tof (List.mem_of_getElem? (i := 421) (by decide +kernel)) (by decide +kernel))⟩
theorem cwL_152 : z_cSW RL 152 zL_solve := ⟨(z_Tof (List.mem_of_getElem? (i := 622) (by decide +kernel)) (by decide +kernel)), (z_Tof (List.mem_of_getElem? (i := 623) (by decide +kernel)) (by decide +kernel)), (z_Tof (List.mem_of_getElem? (i := 12) (by decide +kernel)) (by decide +kernel)), (z_Tof (List.mem_of_getElem? (i := 624) (by decide +kernel)) (by decide +kernel))⟩
theorem cwL_112 : z_cSW RL 112 zL_offered := ⟨(z_Tof (List.mem_of_getElem? (i := 426) (by decide +kernel)) (by decide +kernel)), (z_Tof (List.mem_of_getElem? (i := 427) (by decide +kernel)) (by decide +kernel)), (z_Tof (List.mem_of_getElem? (i := 12) (by decide +kernel)) (by decide +kernel)), (z_Tof (List.mem_of_getElem? (i := 428) (by decide +kernel)) (by decide +kernel))⟩
theorem cwL_114 : z_cSW RL 114 zL_rating := ⟨(z_Tof (List.mem_of_getElem? (i := 445) (by decide +kernel)) (by decide +kernel)), (z_Tof (List.mem_of_getElem? (i := 446) (by decide +kernel)) (by decide +kernel)), (z_Tof (List.mem_of_getElem? (i := 12) (by decide +kernel)) (by decide +kernel)), (z_Tof (List.mem_of_getElem? (i := 447) (by decide +kernel)) (by decide +kernel))⟩
theorem cwL_116 : z_cSW RL 116 zL_results := ⟨(z_Tof (List.mem_of_getElem? (i := 457) (by decide +kernel)) (by decide +kernel)), (z_Tof (List.mem_of_getElem? (i := 458) (by decide +kernel)) (by decide +kernel)), (z_Tof (List.mem_of_getElem? (i := 12) (by decide +kernel)) (by decide +kernel)), (z_Tof (List.mem_of_getElem? (i := 459) (by decide +kernel)) (by decide +kernel))⟩
theorem cwL_118 : z_cSW RL 118 zL_points := ⟨(z_Tof (List.mem_of_getElem? (i := 480) (by decide +kernel)) (by decide +kernel)), (z_Tof (List.mem_of_getElem? (i := 481) (by decide +kernel)) (by decide +kernel)), (z_Tof (List.mem_of_getElem? (i := 12) (by decide +kernel)) (by decide +kernel)), (z_Tof (List.mem_of_getElem? (i := 482) (by decide +kernel)) (by decide +kernel))⟩
theorem cwL_122 : z_cSW RL 122 zL_isDropped := ⟨(z_Tof (List.mem_of_getElem? (i := 503) (by decide +kernel)) (by decide +kernel)), (z_Tof (List.mem_of_getElem? (i := 504) (by decide +kernel)) (by decide +kernel)), (z_Tof (List.mem_of_getElem? (i := 12) (by decide +kernel)) (by decide +kernel)), (z_Tof (List.mem_of_getElem? (i := 505) (by decide +kernel)) (by decide +kernel))⟩
theorem cwL_120 : z_cSW RL 120 zL_pointsOfGames := ⟨(z_Tof (List.mem_of_getElem? (i := 487) (by decide +kernel)) (by decide +kernel)), (z_Tof (List.mem_of_getElem? (i := 488) (by decide +kernel)) (by decide +kernel)), (z_Tof (List.mem_of_getElem? (i := 12) (by decide +kernel)) (by decide +kernel)), (z_Tof (List.mem_of_getElem? (i := 489) (by decide +kernel)) (by decide +kernel))⟩
theorem cwL_124 : z_cSW RL 124 zL_mean := ⟨(z_Tof (List.mem_of_getElem? (i := 514) (by decide +kernel)) (by decide +kernel)), (z_Tof (List.mem_of_getElem? (i := 515) (by decide +kernel)) (by decide +kernel)), (z_Tof (List.mem_of_getElem? (i := 12) (by decide +kernel)) (by decide +kernel)), (z_Tof (List.mem_of_getElem? (i := 516) (by decide +kernel)) (by decide +kernel))⟩
theorem cwL_99 : z_cSW RL 99 zL_opponent := ⟨(z_Tof (List.mem_of_getElem? (i := 311) (by decide +kernel)) (by decide +kernel)), (z_Tof (List.mem_of_getElem? (i := 312) (by decide +kernel)) (by decide +kernel)), (z_Tof (List.mem_of_getElem? (i := 12) (by decide +kernel)) (by decide +kernel)), (z_Tof (List.mem_of_getElem? (i := 313) (by decide +kernel)) (by decide +kernel))⟩
theorem cwL_103 : z_cSW RL 103 zL_hasWhite := ⟨(z_Tof (List.mem_of_getElem? (i := 338) (by decide +kernel)) (by decide +kernel)), (z_Tof (List.mem_of_getElem? (i := 339) (by decide +kernel)) (by decide +kernel)), (z_Tof (List.mem_of_getElem? (i := 12) (by decide +kernel)) (by decide +kernel)), (z_Tof (List.mem_of_getElem? (i := 340) (by decide +kernel)) (by decide +kernel))⟩
theorem z_cl16 : Cond.classLink RL 16 IAE ∈ z_T := (z_Tof (List.mem_of_getElem? (i := 236) (by decide +kernel)) (by decide +kernel))
theorem z_cl30 : Cond.classLink RL 30 ISE ∈ z_T := (z_Tof (List.mem_of_getElem? (i := 124) (by decide +kernel)) (by decide +kernel))
theorem z_cl36 : Cond.classLink RL 36 IOE ∈ z_T := (z_Tof (List.mem_of_getElem? (i := 235) (by decide +kernel)) (by decide +kernel))
theorem z_cIAE : IAE ∈ z_castN := by decide +kernel
theorem z_cISE : ISE ∈ z_castN := by decide +kernel
theorem z_cIOE : IOE ∈ z_castN := by decide +kernel
theorem z_n1 : (IAE, IOE) ∈ z_ncast := by decide +kernel
theorem z_n2 : (ISE, IOE) ∈ z_ncast := by decide +kernel
theorem z_n3 : (ISE, IAE) ∈ z_ncast := by decide +kernel
theorem z_n4 : (IAE, ISE) ∈ z_ncast := by decide +kernel

