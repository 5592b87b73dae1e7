/-! MY LAYER: a world is a map from addresses to cells; a judgement z_E says that a body goes on well from here; contracts z_M. -/
abbrev z_G : Type := va_G × (Nat → ClassId) × Nat × Launch × Nat × Nat × (Nat → Int32)
abbrev z_W : Type := Nat → Option va_E
def z_T : List Cond := lw_tbl.filter goodWord
theorem z_tb {w : Cond} (h : w ∈ tables_1) : w ∈ lw_tbl := List.mem_append_right _ h
theorem z_Tof {w : Cond} (h : w ∈ lw_tbl) (g : goodWord w = true) : w ∈ z_T := List.mem_filter.mpr ⟨h, g⟩
theorem z_Tgood {w : Cond} (h : w ∈ z_T) : (w.onTables && w.keeps) = true ∨ ∃ ty, w = .arrayClass ty := good_of_word (List.mem_filter.mp h).2
abbrev z_A (G : z_G) : Nat → Prop := fun q => G.2.2.1 ≤ q
def z_tys (G : z_G) : List (ClassId × FieldType) := [(G.2.1 0, .int), (G.2.1 1, .boolean), (G.2.1 2, .int), (G.2.1 3, .int), (G.2.1 4, .object RX3), (G.2.1 5, .object RX1), (G.2.1 6, .object RX4), (G.2.1 7, .object RX2)]
def z_nestN : List (String × Nat × MethodName × String) := [("ClubAcademy", 29, ({ cls := "ClubAcademy$Book", name := "<init>", desc := "()V" } : Jvm.MethodName), "ClubAcademy"), ("ClubAcademy$Book", 11, ({ cls := "ClubAcademy$Line", name := "<init>", desc := "()V" } : Jvm.MethodName), "ClubAcademy"), ("ClubAcademy$Book", 65, ({ cls := "ClubAcademy", name := "moveOfLine", desc := "(II)I" } : Jvm.MethodName), "ClubAcademy"), ("ClubAcademy$Game", 37, ({ cls := "ClubAcademy", name := "moveOfLine", desc := "(II)I" } : Jvm.MethodName), "ClubAcademy"), ("ClubAcademy$Game", 29, ({ cls := "ClubAcademy", name := "positionAfter", desc := "(II)I" } : Jvm.MethodName), "ClubAcademy")]
def z_castN : List String := ["java/lang/IllegalStateException", "java/lang/IndexOutOfBoundsException", "java/lang/IllegalArgumentException"]
def z_strs : List (String × Nat × String) := [("ClubAcademy", 58, "there are as many players as there may be"), ("ClubAcademy", 220, "there is no such player"), ("ClubAcademy", 71, "a game is of two unlike players"), ("ClubAcademy", 78, "a game goes on"), ("ClubAcademy", 83, "there were as many games as there may be"), ("ClubAcademy", 204, "the player would have no game"), ("ClubAcademy", 210, "position is out of range"), ("ClubAcademy", 212, "move is out of range"), ("ClubAcademy", 223, "there is no such puzzle"), ("ClubAcademy", 168, "theme is out of range"), ("ClubAcademy", 214, "moves is out of range"), ("ClubAcademy", 216, "line is out of range"), ("ClubAcademy", 88, "no game goes on"), ("ClubAcademy", 94, "the game has as many moves as it may have"), ("ClubAcademy", 106, "result is out of range"), ("ClubAcademy", 153, "the player has tried the puzzle")]
def z_declN : List MethodName := [({ cls := "java/lang/RuntimeException", name := "<init>", desc := "()V" } : Jvm.MethodName), ({ cls := "java/lang/RuntimeException", name := "<init>", desc := "(Ljava/lang/String;)V" } : Jvm.MethodName), ({ cls := "java/lang/Exception", name := "<init>", desc := "()V" } : Jvm.MethodName), ({ cls := "java/lang/Exception", name := "<init>", desc := "(Ljava/lang/String;)V" } : Jvm.MethodName), ({ cls := "java/lang/Throwable", name := "<init>", desc := "()V" } : Jvm.MethodName), ({ cls := "java/lang/Throwable", name := "<init>", desc := "(Ljava/lang/String;)V" } : Jvm.MethodName)]
def z_ncast : List (String × String) := [("java/lang/IndexOutOfBoundsException", "java/lang/IllegalArgumentException"), ("java/lang/IndexOutOfBoundsException", "java/lang/IllegalStateException"), ("java/lang/IllegalArgumentException", "java/lang/IndexOutOfBoundsException"), ("java/lang/IllegalArgumentException", "java/lang/IllegalStateException"), ("java/lang/IllegalStateException", "java/lang/IndexOutOfBoundsException"), ("java/lang/IllegalStateException", "java/lang/IllegalArgumentException")]
def z_over : List String := [RX3, RX1, RX4, RX2]
/-- what holds of the machine's tables and of the start's own cells, all along -/
def z_F (G : z_G) (U : State) : Prop :=
  va_K G.1 vwCl (z_tys G) U ∧ (∀ q ∈ z_nestN, va_Nw (.methodLinkNest q.1 q.2.1 q.2.2.1 q.2.2.2) U) ∧ (∀ q ∈ z_castN, va_Nw (.castable q q) U) ∧ (∀ q ∈ z_strs, ∃ a, vk_R q.1 q.2.1 q.2.2 a U) ∧ (∀ C ∈ z_over, va_AO C U) ∧
  vx_Zq Bundle.tN "UNASSIGNED_STACK" Bundle.steD (z_A G) U U.heap ∧ vx_Zq Bundle.tN "SUPPRESSED_SENTINEL" Bundle.listD (z_A G) U U.heap ∧ G.2.2.1 ≤ U.heap.size ∧ G.2.2.2.1.stackTraces = false ∧ (∀ y ∈ z_declN, va_Nw (.declares y) U) ∧ (∀ q ∈ z_ncast, va_Nc q.1 q.2 U) ∧ va_X G.2.2.2.2.1 G.2.2.2.2.2.1 G.2.2.2.2.2.2 U U.heap ∧ G.2.2.2.2.1 < G.2.2.1
theorem z_F.next {G : z_G} {s U : State} {H : Heap} {locs : List Loc} (h : z_F G s) (hW : s.WarmedH U.vm) (hH : U.heap = H) (hS : va_S (z_A G) s.heap H locs) : z_F G U := by
  obtain ⟨h1, h2, h2c, h3, h4, h5, h6, h7, h8, h9, h10, h11, h12⟩ := h
  refine ⟨h1.moved hW.alike, fun q hq => va_Nw.warmM hW (h2 q hq), fun q hq => va_Nw.warmC hW (h2c q hq), fun q hq => ?_, fun C hC => (h4 C hC).moved hW.alike, ?_, ?_, ?_, h8, fun y hy => va_Nw.warmD hW (h9 y hy), fun q hq => (h10 q hq).moved hW.alike, ?_, h12⟩
  · obtain ⟨a, ha⟩ := h3 q hq
    exact ⟨a, ha.warm hW⟩
  · rw [hH]; exact vx_Zq.moved hW.alike (h5.kept hS.2.1)
  · rw [hH]; exact vx_Zq.moved hW.alike (h6.kept hS.2.1)
  · rw [hH]; exact Nat.le_trans h7 hS.1
  · rw [hH]; exact va_X.moved hW.alike (h11.kept (hS.2.1 _ (Nat.lt_of_lt_of_le h12 h7) (Nat.not_le.mpr h12)))
theorem z_F.same {G : z_G} {s U : State} (hv : U.vm = s.vm) (hH : U.heap = s.heap) (h : z_F G s) : z_F G U :=
  h.next (by rw [hv]; exact State.WarmedH.refl s) hH (va_S.rf (A := z_A G))
/-- the world lies in the heap -/
def z_R (G : z_G) (w : z_W) (H : Heap) : Prop := ∃ ws : va_W, va_P G.1 vwCl ws H ∧ va_D (z_A G) ws ∧ ∀ a e, w a = some e → ∃ k : Nat, ws[k]? = some (a, e)
def z_up (w : z_W) (a : Nat) (e : va_E) : z_W := fun b => if b = a then some e else w b
theorem z_upS (w : z_W) (a : Nat) (e : va_E) : z_up w a e a = some e := if_pos rfl
theorem z_upN (w : z_W) {a b : Nat} (e : va_E) (h : b ≠ a) : z_up w a e b = w b := if_neg h
theorem z_R_set {G : z_G} {w : z_W} {ws : va_W} {a k : Nat} {e e' : va_E} {H1 : Heap} (hD : va_D (z_A G) ws) (hk : ws[k]? = some (a, e)) (hw : ∀ a e, w a = some e → ∃ k : Nat, ws[k]? = some (a, e)) (hP1 : va_P G.1 vwCl (ws.set k (a, e')) H1) (hD1 : va_D (z_A G) (ws.set k (a, e'))) : z_R G (z_up w a e') H1 := by
  refine ⟨_, hP1, hD1, fun b f hb => ?_⟩
  have hl := (List.getElem?_eq_some_iff.mp hk).1
  by_cases hba : b = a
  · subst hba
    rw [z_upS] at hb
    cases hb
    exact ⟨k, by rw [List.getElem?_set_self hl]⟩
  · rw [z_upN _ _ hba] at hb
    obtain ⟨j, hj⟩ := hw b f hb
    refine ⟨j, ?_⟩
    rw [List.getElem?_set_ne]
    · exact hj
    · intro q
      subst q
      rw [hk] at hj
      cases hj
      exact hba rfl
theorem z_R_new {G : z_G} {w : z_W} {ws : va_W} {q : Nat} {e : va_E} {H1 : Heap} (hw : ∀ a e, w a = some e → ∃ k : Nat, ws[k]? = some (a, e)) (hP1 : va_P G.1 vwCl (ws ++ [(q, e)]) H1) (hD1 : va_D (z_A G) (ws ++ [(q, e)])) : z_R G (z_up w q e) H1 ∧ w q = none := by
  have hlast : (ws ++ [(q, e)])[ws.length]? = some (q, e) := by simp
  refine ⟨⟨_, hP1, hD1, fun b f hb => ?_⟩, ?_⟩
  · by_cases hba : b = q
    · subst hba
      rw [z_upS] at hb
      cases hb
      exact ⟨_, hlast⟩
    · rw [z_upN _ _ hba] at hb
      obtain ⟨j, hj⟩ := hw b f hb
      exact ⟨j, by rw [List.getElem?_append_left (List.getElem?_eq_some_iff.mp hj).1]; exact hj⟩
  · cases hq : w q with
    | none => rfl
    | some f =>
      obtain ⟨j, hj⟩ := hw q f hq
      have hjl := (List.getElem?_eq_some_iff.mp hj).1
      have h1 : (ws ++ [(q, e)])[j]? = some (q, f) := by rw [List.getElem?_append_left hjl]; exact hj
      have := hD1.1 j ws.length (q, f) (q, e) h1 hlast rfl
      omega
theorem z_R.one {G : z_G} {w : z_W} {H : Heap} (h : z_R G w H) {a : Nat} {e : va_E} (he : w a = some e) : va_P G.1 vwCl [(a, e)] H ∧ va_D (z_A G) [(a, e)] := by
  obtain ⟨ws, hP, hD, hw⟩ := h
  obtain ⟨k, hk⟩ := hw a e he
  exact ⟨hP.sub [k] (by simp [hk]), hD.sub [k] (by rfl) (by simp [hk])⟩
def z_U (G : z_G) (w : z_W) (U : State) : Prop := z_R G w U.heap ∧ z_F G U
abbrev z_Mi : Type := MethodName × ByteArray × Nat × Option FieldType × List (Nat × Nat × Nat × Nat)
def z_lb (d : Nat) : Nat := 35 * d
def z_Qc (G : z_G) (QR : Option Value → z_W → Prop) : Array Value → State → Outcome → State → Prop := fun _ st oc t => (∃ v w, oc = .returned v ∧ QR v w ∧ z_R G w t.heap) ∧ va_F (z_A G) st t
def z_XC (G : z_G) (QX : String → z_W → Prop) : String → State → State → Prop := fun E st t => (∃ w, QX E w ∧ z_R G w t.heap) ∧ va_F (z_A G) st t
def z_Cx (G : z_G) (Y : z_Mi) (p : Program) (s : State) (m : MethodId) (args : Array Value) (meth : Method) (c : Code) : Prop :=
  p.tables.exec = Jvm.exec ∧ c.code = Y.2.1 ∧ c.maxLocals = Y.2.2.1 ∧ s.vm.findClass Y.1.cls = some m.cls ∧ (∀ w ∈ z_T, w.before args s = true) ∧ meth.sig.returnType = Y.2.2.2.1 ∧ meth.locks = false ∧ meth.name = Y.1.name ∧ c.exceptionTable.toList = tableOf Y.2.2.2.2 ∧ z_F G s
/-- locals: what is known of them, place by place -/
def z_L (ls : Array Slot) (L : List (Option Value)) (nL : Nat) : Prop := L.length = nL ∧ ls.size = nL ∧ lv_wf ls ∧ ∀ (i : Nat) (v : Value), L[i]? = some (some v) → ls[i]? = some (.val v) ∧ v.category = 1
def z_en (L : List (Option Value)) : List (Nat × Value) := (List.range L.length).filterMap (fun j => (L[j]?.join).map (fun v => (j, v)))
theorem z_en_mem {L : List (Option Value)} {i : Nat} {v : Value} : (i, v) ∈ z_en L ↔ L[i]? = some (some v) := by
  unfold z_en
  rw [List.mem_filterMap]
  constructor
  · rintro ⟨j, -, h⟩
    cases hj : L[j]? with
    | none => simp [hj] at h
    | some x =>
      cases x with
      | none => simp [hj] at h
      | some y =>
        simp [hj] at h
        obtain ⟨rfl, rfl⟩ := h
        exact hj
  · intro h
    refine ⟨i, List.mem_range.mpr (List.getElem?_eq_some_iff.mp h).1, by simp [h]⟩
theorem z_L.has {ls : Array Slot} {L : List (Option Value)} {nL : Nat} (h : z_L ls L nL) : lv_has ls nL (z_en L) :=
  ⟨h.2.1, h.2.2.1, fun q hq => (h.2.2.2 q.1 q.2 (z_en_mem.mp hq)).1⟩
theorem z_L.set {ls ls' : Array Slot} {L : List (Option Value)} {nL i : Nat} {v : Value} (h : z_L ls L nL) (hi : i < nL) (hv : v.category = 1) (h' : lv_has ls' nL ((i, v) :: (z_en L).filter (fun q => !(q.1 == i) && !(q.1 + 1 == i && q.2.category == 2)))) : z_L ls' (L.set i (some v)) nL := by
  refine ⟨by rw [List.length_set]; exact h.1, h'.1, h'.2.1, fun j x hx => ?_⟩
  by_cases hj : j = i
  · subst hj
    rw [List.getElem?_set_self (by rw [h.1]; exact hi)] at hx
    cases hx
    exact ⟨h'.2.2 (j, v) List.mem_cons_self, hv⟩
  · rw [List.getElem?_set_ne (Ne.symm hj)] at hx
    have hc := (h.2.2.2 j x hx).2
    refine ⟨h'.2.2 (j, x) (List.mem_cons_of_mem _ (List.mem_filter.mpr ⟨z_en_mem.mpr hx, ?_⟩)), hc⟩
    have h2 : (x.category == 2) = false := by rw [hc]; rfl
    simp [hj, h2]
theorem z_L.at {ls : Array Slot} {L : List (Option Value)} {nL : Nat} (h : z_L ls L nL) {i : Nat} {v : Value} (hi : L[i]? = some (some v)) : ls[i]? = some (.val v) := (h.2.2.2 i v hi).1
abbrev z_Gq : Type := List Frame → Array Value → State → Nat → Nat → State → Prop
def z_mq (G : z_G) (QR : Option Value → z_W → Prop) (QX : String → z_W → Prop) : z_Gq := fun below args s mc ms => vx_MQ below (z_Qc G QR) (z_XC G QX) args s mc ms (z_A G)
/-- THE JUDGEMENT: the body Y goes on well from pc, locals L, stack st, world w; d calls deep, k cells and n slots still to make -/
def z_E (G : z_G) (Y : z_Mi) (d : Nat) (Z : z_Gq) (pc : Nat) (L : List (Option Value)) (st : List Value) (w : z_W) (k n : Nat) : Prop :=
  ∀ (p : Program) (e : Env) (R : Room) (s : State) (m : MethodId) (args : Array Value) (below : List Frame) (meth : Method) (c : Code) (H : Heap) (locs : List Loc) (cells slots : Nat) (ls : Array Slot) (mc ms : Nat),
    z_Cx G Y p s m args meth c → z_R G w H → va_S (z_A G) s.heap H locs → z_L ls L Y.2.2.1 → (d ≤ R.frames ∧ z_lb d ≤ R.locals) → (cells + k ≤ mc ∧ slots + n ≤ ms ∧ mc ≤ R.cells ∧ ms ≤ R.slots) →
    W p G.2.2.2.1 e R s m args below meth c H locs cells slots (Z below args s mc ms) (F0 m pc ls st)
/-- .. with an exception of class E thrown at pc -/
def z_X (G : z_G) (Y : z_Mi) (d : Nat) (Z : z_Gq) (E : String) (pc : Nat) (L : List (Option Value)) (w : z_W) (k n : Nat) : Prop :=
  ∀ (p : Program) (e : Env) (R : Room) (s : State) (m : MethodId) (args : Array Value) (below : List Frame) (meth : Method) (c : Code) (H : Heap) (locs : List Loc) (cells slots : Nat) (ls : Array Slot) (mc ms : Nat) (rest : List Value) (q : Addr) (ce : Cell),
    z_Cx G Y p s m args meth c → z_R G w H → va_S (z_A G) s.heap H locs → z_L ls L Y.2.2.1 → (d ≤ R.frames ∧ z_lb d ≤ R.locals) → (cells + k ≤ mc ∧ slots + n ≤ ms ∧ mc ≤ R.cells ∧ ms ≤ R.slots) →
    H[q]? = some ce → ce.vm = .none → s.vm.findClass E = some ce.cls → vx_W p G.2.2.2.1 e R s m args below meth c H locs cells slots (Z below args s mc ms) (F0 m pc ls rest) q
def z_ws (Y : z_Mi) : List Cond := .code Y.1 Y.2.1 Y.2.2.1 Y.2.2.2.1 :: z_T
def z_rm (d k n : Nat) : Room := { frames := d, cells := k, slots := n, locals := z_lb d }
/-- A CONTRACT -/
def z_M (G : z_G) (Y : z_Mi) (d : Nat) (av : List Value) (w : z_W) (k n : Nat) (QR : Option Value → z_W → Prop) (QX : String → z_W → Prop) : Prop :=
  vx_Met G.2.2.2.1 Y.1 (z_ws Y) (z_rm d k n) (va_Pc av (z_U G w)) (z_Qc G QR) (z_XC G QX) k n (z_A G)
def z_in (av : List Value) (nL : Nat) : List (Option Value) := av.map some ++ List.replicate (nL - av.length) none
theorem lv_args_1 : ∀ (av : List Value) (j : Nat), (∀ v ∈ av, v.category = 1) → ∀ i v, av[i]? = some v → (j + i, v) ∈ lv_args j av
  | [], j, _, i, v, h => by simp at h
  | x :: t, j, hc, i, v, h => by
    have hx : ¬ x.category = 2 := by rw [hc x List.mem_cons_self]; decide
    unfold lv_args
    rw [if_neg hx]
    cases i with
    | zero =>
      simp at h
      subst h
      exact List.mem_cons_self
    | succ i =>
      have h2 : t[i]? = some v := by simpa using h
      have := lv_args_1 t (j + 1) (fun v hv => hc v (List.mem_cons_of_mem _ hv)) i v h2
      rw [show j + (i + 1) = j + 1 + i by omega]
      exact List.mem_cons_of_mem _ this
theorem lg_sl_1 : ∀ (av : List Value), (∀ v ∈ av, v.category = 1) → (lg_sl av).length = av.length
  | [], _ => rfl
  | x :: t, hc => by
    have hx : ¬ x.category = 2 := by rw [hc x List.mem_cons_self]; decide
    have := lg_sl_1 t (fun v hv => hc v (List.mem_cons_of_mem _ hv))
    simp only [lg_sl, List.flatMap_cons, if_neg hx, List.length_append, List.length_cons, List.length_nil] at this ⊢
    omega
theorem z_entry (av : List Value) {nL : Nat} (hc : ∀ v ∈ av, v.category = 1) (hn : av.length ≤ nL) : z_L ((lg_sl av ++ List.replicate (nL - (lg_sl av).length) Slot.unset).toArray) (z_in av nL) nL := by
  have h := lv_entry av (n := nL) (by rw [lg_sl_1 av hc]; exact hn)
  refine ⟨by simp [z_in]; omega, h.1, h.2.1, fun i v hi => ?_⟩
  have hav : av[i]? = some v := by
    unfold z_in at hi
    by_cases hl : i < av.length
    · rw [List.getElem?_append_left (by rw [List.length_map]; exact hl), List.getElem?_map] at hi
      cases hq : av[i]? with
      | none => rw [hq] at hi; cases hi
      | some x => rw [hq] at hi; cases hi; rfl
    · rw [List.getElem?_append_right (by rw [List.length_map]; omega)] at hi
      rw [List.getElem?_replicate] at hi
      split at hi <;> cases hi
  refine ⟨h.2.2 (i, v) ?_, hc v (List.mem_of_getElem? hav)⟩
  have := lv_args_1 av 0 hc i v hav
  rwa [Nat.zero_add] at this
theorem z_M.of {G : z_G} {Y : z_Mi} {d : Nat} {av : List Value} {w : z_W} {k n : Nat} {QR : Option Value → z_W → Prop} {QX : String → z_W → Prop} (hy : plainName Y.1.cls = true) (hh : Y.2.2.2.2 = []) (hc : ∀ v ∈ av, v.category = 1) (hn : av.length ≤ Y.2.2.1)
    (h : z_E G Y d (z_mq G QR QX) 0 (z_in av Y.2.2.1) [] w k n) : z_M G Y d av w k n QR QX := by
  refine vx_ofW (cc := Y.2.1) (maxL := Y.2.2.1) (ret := Y.2.2.2.1) hy rfl ?_
  intro p e s m args below meth c s₁ B hml hT hv
  obtain ⟨rfl, hR, hF⟩ := hv
  have hts := atoms_spec (ws := z_ws Y) B.pre
  have hl := z_entry av (nL := Y.2.2.1) hc hn
  rw [lg_entry_eq]
  have hT2 : c.exceptionTable.toList = tableOf Y.2.2.2.2 := by
    rw [hh]
    cases hx : c.exceptionTable.toList with
    | nil => rfl
    | cons x t => exact absurd (hT x (by rw [hx]; exact List.mem_cons_self)) id
  exact h p e _ s m _ below meth c s.heap [] 0 0 _ k n ⟨B.exec, B.bytes, hml, findClass_of_methodNamed B.named, fun w hw => hts w (List.mem_cons_of_mem _ hw), B.returns, B.notSynchronized, (name_of_methodNamed B.named B.method).1, hT2, hF⟩ hR va_S.rf hl ⟨Nat.le_refl _, Nat.le_refl _⟩ ⟨by omega, by omega, Nat.le_refl _, Nat.le_refl _⟩
