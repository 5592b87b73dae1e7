section
-- ===== PART A: goes FIRST, ahead of the names: the tables' words, and 'selects' of the private methods out of them =====
/-- a private method of a class that the tables say can be made, by its rows of tables_1 -/
def lw_okq (q : MethodName × Nat) : Prop := (q.1.cls ≠ "java/lang/invoke/MethodHandle" ∧ q.1.cls ≠ "java/lang/invoke/VarHandle") ∧ Cond.instantiable q.1.cls q.2 ∈ tables_1 ∧ Cond.privateMethod q.1 ∈ tables_1 ∧ Cond.instanceMethod q.1 ∈ tables_1
theorem lw_p0 : lw_okq (⟨"java/lang/Throwable", "fillInStackTrace", "(I)Ljava/lang/Throwable;"⟩, 6) := ⟨⟨by decide +kernel, by decide +kernel⟩, List.mem_of_getElem? (i := 151) (by decide +kernel), List.mem_of_getElem? (i := 149) (by decide +kernel), List.mem_of_getElem? (i := 150) (by decide +kernel)⟩
theorem lw_p1 : lw_okq (⟨"ClubAcademy", "knownPlayer", "(I)LClubAcademy$Player;"⟩, 8) := ⟨⟨by decide +kernel, by decide +kernel⟩, List.mem_of_getElem? (i := 16) (by decide +kernel), List.mem_of_getElem? (i := 277) (by decide +kernel), List.mem_of_getElem? (i := 278) (by decide +kernel)⟩
theorem lw_p2 : lw_okq (⟨"ClubAcademy$Player", "endGame", "(LClubAcademy$Player;I)V"⟩, 8) := ⟨⟨by decide +kernel, by decide +kernel⟩, List.mem_of_getElem? (i := 234) (by decide +kernel), List.mem_of_getElem? (i := 363) (by decide +kernel), List.mem_of_getElem? (i := 364) (by decide +kernel)⟩
theorem lw_p3 : lw_okq (⟨"ClubAcademy$Book", "addResult", "(LClubAcademy$Game;I)V"⟩, 1) := ⟨⟨by decide +kernel, by decide +kernel⟩, List.mem_of_getElem? (i := 30) (by decide +kernel), List.mem_of_getElem? (i := 378) (by decide +kernel), List.mem_of_getElem? (i := 379) (by decide +kernel)⟩
theorem lw_p4 : lw_okq (⟨"ClubAcademy$Book", "dropBadLine", "(LClubAcademy$Game;I)V"⟩, 1) := ⟨⟨by decide +kernel, by decide +kernel⟩, List.mem_of_getElem? (i := 30) (by decide +kernel), List.mem_of_getElem? (i := 391) (by decide +kernel), List.mem_of_getElem? (i := 392) (by decide +kernel)⟩
theorem lw_p5 : lw_okq (⟨"ClubAcademy", "makePuzzles", "(LClubAcademy$Game;I)I"⟩, 8) := ⟨⟨by decide +kernel, by decide +kernel⟩, List.mem_of_getElem? (i := 16) (by decide +kernel), List.mem_of_getElem? (i := 403) (by decide +kernel), List.mem_of_getElem? (i := 404) (by decide +kernel)⟩
theorem lw_p6 : lw_okq (⟨"ClubAcademy", "addPuzzle", "(II)Z"⟩, 8) := ⟨⟨by decide +kernel, by decide +kernel⟩, List.mem_of_getElem? (i := 16) (by decide +kernel), List.mem_of_getElem? (i := 408) (by decide +kernel), List.mem_of_getElem? (i := 409) (by decide +kernel)⟩
theorem lw_p7 : lw_okq (⟨"ClubAcademy", "hasPuzzleFor", "(I)Z"⟩, 8) := ⟨⟨by decide +kernel, by decide +kernel⟩, List.mem_of_getElem? (i := 16) (by decide +kernel), List.mem_of_getElem? (i := 412) (by decide +kernel), List.mem_of_getElem? (i := 413) (by decide +kernel)⟩
theorem lw_p8 : lw_okq (⟨"ClubAcademy", "knownPuzzle", "(I)LClubAcademy$Puzzle;"⟩, 8) := ⟨⟨by decide +kernel, by decide +kernel⟩, List.mem_of_getElem? (i := 16) (by decide +kernel), List.mem_of_getElem? (i := 448) (by decide +kernel), List.mem_of_getElem? (i := 449) (by decide +kernel)⟩
theorem lw_p9 : lw_okq (⟨"ClubAcademy", "pairPlayers", "()V"⟩, 8) := ⟨⟨by decide +kernel, by decide +kernel⟩, List.mem_of_getElem? (i := 16) (by decide +kernel), List.mem_of_getElem? (i := 575) (by decide +kernel), List.mem_of_getElem? (i := 576) (by decide +kernel)⟩
theorem lw_p10 : lw_okq (⟨"ClubAcademy", "firstUnpaired", "()LClubAcademy$Player;"⟩, 8) := ⟨⟨by decide +kernel, by decide +kernel⟩, List.mem_of_getElem? (i := 16) (by decide +kernel), List.mem_of_getElem? (i := 579) (by decide +kernel), List.mem_of_getElem? (i := 580) (by decide +kernel)⟩
theorem lw_p11 : lw_okq (⟨"ClubAcademy", "partnerFor", "(LClubAcademy$Player;)LClubAcademy$Player;"⟩, 8) := ⟨⟨by decide +kernel, by decide +kernel⟩, List.mem_of_getElem? (i := 16) (by decide +kernel), List.mem_of_getElem? (i := 587) (by decide +kernel), List.mem_of_getElem? (i := 588) (by decide +kernel)⟩
theorem lw_p12 : lw_okq (⟨"ClubAcademyModel", "goes", "(ZZZ)Z"⟩, 22) := ⟨⟨by decide +kernel, by decide +kernel⟩, List.mem_of_getElem? (i := 607) (by decide +kernel), List.mem_of_getElem? (i := 697) (by decide +kernel), List.mem_of_getElem? (i := 698) (by decide +kernel)⟩
theorem lw_p13 : lw_okq (⟨"ClubAcademyModel", "isPlayer", "(I)Z"⟩, 22) := ⟨⟨by decide +kernel, by decide +kernel⟩, List.mem_of_getElem? (i := 607) (by decide +kernel), List.mem_of_getElem? (i := 726) (by decide +kernel), List.mem_of_getElem? (i := 727) (by decide +kernel)⟩
theorem lw_p14 : lw_okq (⟨"ClubAcademyModel", "notes", "(I)V"⟩, 22) := ⟨⟨by decide +kernel, by decide +kernel⟩, List.mem_of_getElem? (i := 607) (by decide +kernel), List.mem_of_getElem? (i := 741) (by decide +kernel), List.mem_of_getElem? (i := 742) (by decide +kernel)⟩
theorem lw_p15 : lw_okq (⟨"ClubAcademyModel", "lineOf", "(II)I"⟩, 22) := ⟨⟨by decide +kernel, by decide +kernel⟩, List.mem_of_getElem? (i := 607) (by decide +kernel), List.mem_of_getElem? (i := 745) (by decide +kernel), List.mem_of_getElem? (i := 746) (by decide +kernel)⟩
def lw_privs_1 : List (MethodName × Nat) := [(⟨"java/lang/Throwable", "fillInStackTrace", "(I)Ljava/lang/Throwable;"⟩, 6), (⟨"ClubAcademy", "knownPlayer", "(I)LClubAcademy$Player;"⟩, 8), (⟨"ClubAcademy$Player", "endGame", "(LClubAcademy$Player;I)V"⟩, 8), (⟨"ClubAcademy$Book", "addResult", "(LClubAcademy$Game;I)V"⟩, 1), (⟨"ClubAcademy$Book", "dropBadLine", "(LClubAcademy$Game;I)V"⟩, 1), (⟨"ClubAcademy", "makePuzzles", "(LClubAcademy$Game;I)I"⟩, 8), (⟨"ClubAcademy", "addPuzzle", "(II)Z"⟩, 8), (⟨"ClubAcademy", "hasPuzzleFor", "(I)Z"⟩, 8), (⟨"ClubAcademy", "knownPuzzle", "(I)LClubAcademy$Puzzle;"⟩, 8), (⟨"ClubAcademy", "pairPlayers", "()V"⟩, 8), (⟨"ClubAcademy", "firstUnpaired", "()LClubAcademy$Player;"⟩, 8), (⟨"ClubAcademy", "partnerFor", "(LClubAcademy$Player;)LClubAcademy$Player;"⟩, 8), (⟨"ClubAcademyModel", "goes", "(ZZZ)Z"⟩, 22), (⟨"ClubAcademyModel", "isPlayer", "(I)Z"⟩, 22), (⟨"ClubAcademyModel", "notes", "(I)V"⟩, 22), (⟨"ClubAcademyModel", "lineOf", "(II)I"⟩, 22)]
theorem lw_r1 : ∀ q ∈ lw_privs_1, lw_okq q := List.forall_mem_cons.mpr ⟨lw_p0, List.forall_mem_cons.mpr ⟨lw_p1, List.forall_mem_cons.mpr ⟨lw_p2, List.forall_mem_cons.mpr ⟨lw_p3, List.forall_mem_cons.mpr ⟨lw_p4, List.forall_mem_cons.mpr ⟨lw_p5, List.forall_mem_cons.mpr ⟨lw_p6, List.forall_mem_cons.mpr ⟨lw_p7, List.forall_mem_cons.mpr ⟨lw_p8, List.forall_mem_cons.mpr ⟨lw_p9, List.forall_mem_cons.mpr ⟨lw_p10, List.forall_mem_cons.mpr ⟨lw_p11, List.forall_mem_cons.mpr ⟨lw_p12, List.forall_mem_cons.mpr ⟨lw_p13, List.forall_mem_cons.mpr ⟨lw_p14, List.forall_mem_cons.mpr ⟨lw_p15, fun _ h => absurd h List.not_mem_nil⟩⟩⟩⟩⟩⟩⟩⟩⟩⟩⟩⟩⟩⟩⟩⟩
theorem lw_p16 : lw_okq (⟨"ClubAcademyModel", "isGone", "(II)Z"⟩, 22) := ⟨⟨by decide +kernel, by decide +kernel⟩, List.mem_of_getElem? (i := 607) (by decide +kernel), List.mem_of_getElem? (i := 749) (by decide +kernel), List.mem_of_getElem? (i := 750) (by decide +kernel)⟩
theorem lw_p17 : lw_okq (⟨"ClubAcademyModel", "makes", "(I)I"⟩, 22) := ⟨⟨by decide +kernel, by decide +kernel⟩, List.mem_of_getElem? (i := 607) (by decide +kernel), List.mem_of_getElem? (i := 756) (by decide +kernel), List.mem_of_getElem? (i := 757) (by decide +kernel)⟩
theorem lw_p18 : lw_okq (⟨"ClubAcademyModel", "hasPuzzle", "(I)Z"⟩, 22) := ⟨⟨by decide +kernel, by decide +kernel⟩, List.mem_of_getElem? (i := 607) (by decide +kernel), List.mem_of_getElem? (i := 760) (by decide +kernel), List.mem_of_getElem? (i := 761) (by decide +kernel)⟩
theorem lw_p19 : lw_okq (⟨"ClubAcademyModel", "told", "(I)I"⟩, 22) := ⟨⟨by decide +kernel, by decide +kernel⟩, List.mem_of_getElem? (i := 607) (by decide +kernel), List.mem_of_getElem? (i := 768) (by decide +kernel), List.mem_of_getElem? (i := 769) (by decide +kernel)⟩
theorem lw_p20 : lw_okq (⟨"ClubAcademyModel", "ended", "()I"⟩, 22) := ⟨⟨by decide +kernel, by decide +kernel⟩, List.mem_of_getElem? (i := 607) (by decide +kernel), List.mem_of_getElem? (i := 776) (by decide +kernel), List.mem_of_getElem? (i := 777) (by decide +kernel)⟩
theorem lw_p21 : lw_okq (⟨"ClubAcademyModel", "isPuzzle", "(I)Z"⟩, 22) := ⟨⟨by decide +kernel, by decide +kernel⟩, List.mem_of_getElem? (i := 607) (by decide +kernel), List.mem_of_getElem? (i := 792) (by decide +kernel), List.mem_of_getElem? (i := 793) (by decide +kernel)⟩
theorem lw_p22 : lw_okq (⟨"ClubAcademyModel", "asks", "(II)Z"⟩, 22) := ⟨⟨by decide +kernel, by decide +kernel⟩, List.mem_of_getElem? (i := 607) (by decide +kernel), List.mem_of_getElem? (i := 816) (by decide +kernel), List.mem_of_getElem? (i := 817) (by decide +kernel)⟩
theorem lw_p23 : lw_okq (⟨"ClubAcademyModel", "pairs", "()V"⟩, 22) := ⟨⟨by decide +kernel, by decide +kernel⟩, List.mem_of_getElem? (i := 607) (by decide +kernel), List.mem_of_getElem? (i := 840) (by decide +kernel), List.mem_of_getElem? (i := 841) (by decide +kernel)⟩
theorem lw_p24 : lw_okq (⟨"ClubAcademyModel", "sorts", "()V"⟩, 22) := ⟨⟨by decide +kernel, by decide +kernel⟩, List.mem_of_getElem? (i := 607) (by decide +kernel), List.mem_of_getElem? (i := 844) (by decide +kernel), List.mem_of_getElem? (i := 845) (by decide +kernel)⟩
theorem lw_p25 : lw_okq (⟨"ClubAcademyModel", "havePlayed", "(II)Z"⟩, 22) := ⟨⟨by decide +kernel, by decide +kernel⟩, List.mem_of_getElem? (i := 607) (by decide +kernel), List.mem_of_getElem? (i := 848) (by decide +kernel), List.mem_of_getElem? (i := 849) (by decide +kernel)⟩
def lw_privs_2 : List (MethodName × Nat) := [(⟨"ClubAcademyModel", "isGone", "(II)Z"⟩, 22), (⟨"ClubAcademyModel", "makes", "(I)I"⟩, 22), (⟨"ClubAcademyModel", "hasPuzzle", "(I)Z"⟩, 22), (⟨"ClubAcademyModel", "told", "(I)I"⟩, 22), (⟨"ClubAcademyModel", "ended", "()I"⟩, 22), (⟨"ClubAcademyModel", "isPuzzle", "(I)Z"⟩, 22), (⟨"ClubAcademyModel", "asks", "(II)Z"⟩, 22), (⟨"ClubAcademyModel", "pairs", "()V"⟩, 22), (⟨"ClubAcademyModel", "sorts", "()V"⟩, 22), (⟨"ClubAcademyModel", "havePlayed", "(II)Z"⟩, 22)]
theorem lw_r2 : ∀ q ∈ lw_privs_2, lw_okq q := List.forall_mem_cons.mpr ⟨lw_p16, List.forall_mem_cons.mpr ⟨lw_p17, List.forall_mem_cons.mpr ⟨lw_p18, List.forall_mem_cons.mpr ⟨lw_p19, List.forall_mem_cons.mpr ⟨lw_p20, List.forall_mem_cons.mpr ⟨lw_p21, List.forall_mem_cons.mpr ⟨lw_p22, List.forall_mem_cons.mpr ⟨lw_p23, List.forall_mem_cons.mpr ⟨lw_p24, List.forall_mem_cons.mpr ⟨lw_p25, fun _ h => absurd h List.not_mem_nil⟩⟩⟩⟩⟩⟩⟩⟩⟩⟩
def lw_privs : List (MethodName × Nat) := lw_privs_1 ++ (lw_privs_2)
def lw_tbl : List Cond := k2_sels lw_privs ++ tables_1
theorem lw_privs_ok : ∀ q ∈ lw_privs, lw_okq q := by
  show ∀ q ∈ lw_privs_1 ++ (lw_privs_2), lw_okq q
  exact List.forall_mem_append.mpr ⟨lw_r1, lw_r2⟩
/-- the streams that the claim lets the run draw from -/
abbrev lw_cs : List Choice := [Jvm.Choice.named "NaN.bits"]
theorem lw_bits : nanBits ∈ lw_cs := by first | decide | exact List.mem_cons_self | simp [lw_cs, nanBits]
-- ===== end of PART A; then your names; then what follows =====
/-! ===== BEGIN words of one list among another's, by their places ===== -/
theorem goodIn_r {big : List Cond} (ws : List Cond) (ps : List Nat) (hp : ws = ps.filterMap (fun i => big[i]?)) (h : ws.all goodWord = true) : GoodIn big ws := by
  intro w hw
  have h1 := List.all_eq_true.mp h w hw
  rw [hp] at hw
  obtain ⟨i, -, hi⟩ := List.mem_filterMap.mp hw
  have hm : w ∈ big := by first | exact List.mem_of_getElem? hi | exact List.getElem?_mem hi
  exact ⟨hm, good_of_word h1⟩
theorem goodIn_app {big a b : List Cond} (ha : GoodIn big a) (hb : GoodIn big b) : GoodIn big (a ++ b) := fun w h => (List.mem_append.mp h).elim (ha w) (hb w)
theorem goodIn_ca {big a b : List Cond} {c : Cond} (ha : GoodIn big (c :: a)) (hb : GoodIn big b) : GoodIn big (c :: (a ++ b)) := fun w h => (List.mem_cons.mp h).elim (fun e => ha w (List.mem_cons.mpr (Or.inl e))) (fun h => (List.mem_append.mp h).elim (fun h => ha w (List.mem_cons.mpr (Or.inr h))) (hb w))
theorem goodIn_sub {big ws : List Cond} (hm : ∀ w ∈ ws, w ∈ big) (h : ws.all goodWord = true) : GoodIn big ws := fun w hw => ⟨hm w hw, good_of_word (List.all_eq_true.mp h w hw)⟩
/-! ===== END ===== -/

/-! ===== BEGIN exceptions that leave a method, and their catching by the caller (launches without stack traces) ===== -/
section VXA
/-! The laws vx_back, vx_callV, vx_callS, vx_callSW, vx_throw0, vx_throwS follow proofs of the library, with one case more: JvmDerived/Free/Laws.lean (Back.of_free), Shelf42/LK1.lean (callV, callS), Shelf/KitTraced.lean (throwNew0V, throwNewS). -/
/-- where a method has thrown q: the class by its name, the cell, what was written, the world -/
def vx_T (XC : String → State → State → Prop) (st : State) (q : Addr) (t : State) (mc ms : Nat) (free : Addr → Prop) : Prop :=
  ∃ (E : String) (ce : Cell) (L : List Loc), XC E st t ∧ t.heap[q]? = some ce ∧ ce.vm = .none ∧ st.vm.findClass E = some ce.cls ∧ st.WarmedH t.vm ∧ st.sameButNew ({ t with vm := st.vm } : State) L mc ms ∧ ∀ z ∈ L, free z.base
def vx_Q (Qc : Array Value → State → Outcome → State → Prop) (XC : String → State → State → Prop) (mc ms : Nat) (free : Addr → Prop) : Array Value → State → Outcome → State → Prop := fun a st o t =>
  (Qc a st o t ∧ ∃ L, FrameEnd st o t L mc ms ∧ ∀ q ∈ L, free q.base) ∨ ∃ q, o = .threw q ∧ vx_T XC st q t mc ms free
/-- a callee that returns or throws -/
def vx_Met (l : Launch) (y : MethodName) (ws : List Cond) (rm : Room) (Pc : Array Value → State → Prop) (Qc : Array Value → State → Outcome → State → Prop) (XC : String → State → State → Prop) (mc ms : Nat) (free : Addr → Prop) : Prop :=
  MetFree l y (headSpec ws rm) Pc (fun _ _ _ _ _ => True) (vx_Q Qc XC mc ms free)
def vx_Post (XC : String → State → State → Prop) (mc ms : Nat) (free : Addr → Prop) : Pt → Array Value → Addr → Pt → Prop := fun A a q B =>
  ∃ (g : JFrame) (mk : MethodId) (t : State) (L : List Loc) (E : String) (ce : Cell), B.U.heap = t.heap ∧ B.U.vm = t.vm ∧ XC E (A.U.calling g mk a) t ∧ t.heap[q]? = some ce ∧ ce.vm = .none ∧ A.U.vm.findClass E = some ce.cls ∧ B.locs = A.locs ++ L ∧ (∀ z ∈ L, free z.base) ∧ B.cells = A.cells + mc ∧ B.slots = A.slots + ms
def vx_Back (l : Launch) (R : Room) (p : Program) (e : Env) (below : List Frame) (s : State) (sargs : Array Value) (y : MethodName) (len W9 : Nat)
    (Pre : Pt → Array Value → Prop) (Post : Pt → Array Value → Option Value → Pt → Prop) (PostX : Pt → Array Value → Addr → Pt → Prop) : Prop :=
  ∀ (m : MethodId) (meth : Method) (c : Code) (A : Pt) (g : JFrame) (ig : Instr) (mk : MethodId) (a : Array Value),
    Stand p l e R s m sargs below meth c A.U A.locs A.cells A.slots → g.method = m → g.locals.size = c.maxLocals → decode c.code g.pc = .ok (ig, len) →
    2 * g.monitorRoom + (g.stack.map fun v => v.category).sum ≤ W9 → A.U.methodNamed? y = some mk → Pre A a →
    (∃ (v : Option Value) (B : Pt), Stand p l e R s m sargs below meth c B.U B.locs B.cells B.slots ∧ Post A a v B ∧
      Steps p.tables e below (doInvoke e (A.U.setTop g) [] mk a).1 (B.U.setTop { g with pc := g.pc + len, stack := v.toList ++ g.stack })) ∨
    (∃ (q : Addr) (B : Pt), Stand p l e R s m sargs below meth c B.U B.locs B.cells B.slots ∧ PostX A a q B ∧
      Steps p.tables e below (doInvoke e (A.U.setTop g) [] mk a).1 ((B.U.setTop g).pushFrame (.throwing q)))
section Payer
variable {l : Launch} {R : Room} {p : Program} {e : Env} {below : List Frame} {s : State} {sargs : Array Value} {y : MethodName} {len W9 : Nat}
theorem vx_back {ws : List Cond} {rm : Room} {Pc : Array Value → State → Prop} {Qc : Array Value → State → Outcome → State → Prop} {XC : String → State → State → Prop} {mc ms : Nat} {free : Addr → Prop} {bytes : ByteArray} {maxL : Nat} {ret : Option FieldType}
    (hM : vx_Met l y ws rm Pc Qc XC mc ms free) (hblind : FrameBlind Pc) (hrc : rm.cells = mc) (hrs : rm.slots = ms)
    (hframes : rm.frames + 1 ≤ R.frames) (hlocals : W9 + (maxL + 11) + rm.locals ≤ R.locals)
    (hws : ∀ w ∈ ws, ∀ a' U, s.WarmedH U.vm → w.before a' U = true) (hcode : Cond.code y bytes maxL ret ∈ ws) (hinit : ∀ a' U, s.WarmedH U.vm → (Cond.initialized y.cls).before a' U = true) :
    vx_Back l R p e below s sargs y len W9 (PreOf R mc ms Pc) (PostOf Qc mc ms free) (vx_Post XC mc ms free) := by
  intro m meth c A g ig mk a X hg hsize hdg hW hn hp
  have h1 : (headSpec ws rm).pre.before a A.U = true := atoms_intro fun w hw => hws w hw _ _ X.warmed
  have h2 : (Cond.code y bytes maxL ret).before a A.U = true := hws _ hcode _ _ X.warmed
  have h3 : (Cond.initialized y.cls).before a A.U = true := hinit _ _ X.warmed
  have h4 : A.cells + (headSpec ws rm).room.cells ≤ R.cells := by rw [show (headSpec ws rm).room.cells = mc from hrc]; exact hp.1
  have h5 : A.slots + (headSpec ws rm).room.slots ≤ R.slots := by rw [show (headSpec ws rm).room.slots = ms from hrs]; exact hp.2.1
  have hPc : Pc a (A.U.calling g mk a) := hblind _ _ _ _ hp.2.2
  obtain ⟨U, Ls, c0, s0⟩ := A
  dsimp only [Pt.U, Pt.locs, Pt.cells, Pt.slots] at h1 h2 h3 h4 h5 X hn hPc ⊢
  obtain ⟨methY, cY, hmY, hcY, -, hlY, -, -, -, -⟩ := Cond.code_spec hn h2
  obtain ⟨kY, hkY, -⟩ := className_of_methodNamed hn
  have hinitY : kY.init = .initialized := Cond.initialized_spec (findClass_of_methodNamed hn) hkY h3
  have h : At U g.method c below := by rw [hg]; exact X.here
  have hlocals9 : W9 + (maxL + 11) + (headSpec ws rm).room.locals ≤ R.locals := hlocals
  have happ : (headSpec ws rm).appliesLoose y e.platform (U.calling g mk a) = true :=
    Spec.appliesLoose_calling (g := g) h hdg hn hkY hinitY
      (X.room_calling (g := g) (R' := (headSpec ws rm).room) hsize hmY hcY hframes (by rw [hlY]; omega) h4 h5) h1
  obtain ⟨mid, hmid⟩ := h.above
  have hfr : (U.setTop g).frames = (.java g :: mid) ++ below := by rw [State.frames_setTop' g h.top, hmid]; rfl
  obtain ⟨o, s₂, hsteps, -, hend, hq⟩ := Steps.callFree hM p X.admits X.cas X.clock (acts := []) hfr happ hPc trivial
  have hq' : vx_Q Qc XC mc ms free a (U.calling g mk a) o s₂ := hq
  rw [State.frames_setTop' g h.top] at hend
  obtain ⟨g₀, hg0⟩ := Option.isSome_iff_exists.mp h.top
  obtain ⟨r, hr⟩ := State.topJava?_eq_some.mp hg0
  have hr' : (({ U with heap := s₂.heap, slotsUsed := s₂.slotsUsed } : State).setVm s₂.vm).frames = .java g₀ :: r := hr
  rcases hq' with ⟨hqc, L, hfe, hL⟩ | ⟨q, rfl, E, ce, L, hx, hce, hcv, hcl, hW₂, hsm, hL⟩
  · obtain ⟨⟨v, rfl⟩, hW₂, e2, q2, q3, q4, q5, q6⟩ := id hfe
    have e3 : s₂ = ({ (U.calling g mk a).setFrames s₂.frames with heap := s₂.heap, slotsUsed := s₂.slotsUsed } : State).setVm s₂.vm := by
      have : s₂ = ({ s₂ with vm := (U.calling g mk a).vm } : State).setVm s₂.vm := rfl
      rw [e2] at this
      exact this
    obtain ⟨c₂, i₂, len₂, hc₂, hd₂, hf₂⟩ := hend
    have hW' : U.WarmedH s₂.vm := hW₂
    have hcc : c₂ = c := by
      have h1 : s₂.code? g.method = U.code? g.method := by
        rw [State.code?_eq, State.code?_eq, hW'.alike.method?]
      exact Option.some.inj (hc₂.symm.trans (h1.trans h.code))
    subst hcc
    have hlen : len₂ = len := by rw [hdg] at hd₂; cases hd₂; rfl
    subst hlen
    have hs₂ : s₂ = (({ U with heap := s₂.heap, slotsUsed := s₂.slotsUsed } : State).setVm s₂.vm).setTop { g with pc := g.pc + len₂, stack := v.toList ++ g.stack } := by
      refine e3.trans ?_
      rw [hf₂, State.calling_eq h.top, State.setFrames_setFrames, State.setTop_of_frames _ hr', hr]
      rfl
    have hsame : U.sameButNew ({ U with heap := s₂.heap, slotsUsed := s₂.slotsUsed } : State) L mc ms := by
      refine ⟨?_, q2, q3, q4, q5, q6⟩
      obtain ⟨t, ht, -⟩ := State.frames_cons hr
      show ({ U with heap := s₂.heap, slotsUsed := s₂.slotsUsed } : State) = { U.setFrames U.frames with heap := s₂.heap, slotsUsed := s₂.slotsUsed }
      rw [State.setFrames_self ht]
    subst hg
    refine Or.inl ⟨v, ⟨(({ U with heap := s₂.heap, slotsUsed := s₂.slotsUsed } : State).setVm s₂.vm), Ls ++ L, c0 + mc, s0 + ms⟩,
      ⟨X.admits, X.cas, X.clock, X.frames, X.room, X.hears, X.method, X.code, (X.here.setHeapUsed s₂.heap s₂.slotsUsed).setVm hW'.alike, X.tail, State.WarmedH.trans X.warmed hW', X.limits, X.bytes, X.same.trans (hsame.setVm s.vm)⟩,
      ⟨g, mk, s₂, L, rfl, rfl, hqc, rfl, hL, rfl, rfl⟩, ?_⟩
    show Steps p.tables e below _ ((({ U with heap := s₂.heap, slotsUsed := s₂.slotsUsed } : State).setVm s₂.vm).setTop { g with pc := g.pc + len₂, stack := v.toList ++ g.stack })
    rw [← hs₂]
    exact hsteps
  · obtain ⟨e2, q2, q3, q4, q5, q6⟩ := id hsm
    have e3 : s₂ = ({ (U.calling g mk a).setFrames s₂.frames with heap := s₂.heap, slotsUsed := s₂.slotsUsed } : State).setVm s₂.vm := by
      have : s₂ = ({ s₂ with vm := (U.calling g mk a).vm } : State).setVm s₂.vm := rfl
      rw [e2] at this
      exact this
    have hf₂ : s₂.frames = .throwing q :: .java g :: U.frames.tail := hend
    have hW' : U.WarmedH s₂.vm := hW₂
    have hs₂ : s₂ = ((({ U with heap := s₂.heap, slotsUsed := s₂.slotsUsed } : State).setVm s₂.vm).setTop g).pushFrame (.throwing q) := by
      refine e3.trans ?_
      rw [hf₂, State.calling_eq h.top, State.setFrames_setFrames, State.pushFrame, State.frames_setTop _ hr', State.setTop_of_frames _ hr', State.setFrames_setFrames, hr]
      rfl
    have hsame : U.sameButNew ({ U with heap := s₂.heap, slotsUsed := s₂.slotsUsed } : State) L mc ms := by
      refine ⟨?_, q2, q3, q4, q5, q6⟩
      obtain ⟨t, ht, -⟩ := State.frames_cons hr
      show ({ U with heap := s₂.heap, slotsUsed := s₂.slotsUsed } : State) = { U.setFrames U.frames with heap := s₂.heap, slotsUsed := s₂.slotsUsed }
      rw [State.setFrames_self ht]
    subst hg
    refine Or.inr ⟨q, ⟨(({ U with heap := s₂.heap, slotsUsed := s₂.slotsUsed } : State).setVm s₂.vm), Ls ++ L, c0 + mc, s0 + ms⟩,
      ⟨X.admits, X.cas, X.clock, X.frames, X.room, X.hears, X.method, X.code, (X.here.setHeapUsed s₂.heap s₂.slotsUsed).setVm hW'.alike, X.tail, State.WarmedH.trans X.warmed hW', X.limits, X.bytes, X.same.trans (hsame.setVm s.vm)⟩,
      ⟨g, mk, s₂, L, E, ce, rfl, rfl, hx, hce, hcv, hcl, rfl, hL, rfl, rfl⟩, ?_⟩
    show Steps p.tables e below _ (((({ U with heap := s₂.heap, slotsUsed := s₂.slotsUsed } : State).setVm s₂.vm).setTop g).pushFrame (.throwing q))
    rw [← hs₂]
    exact hsteps
end Payer
section Calls
variable {p : Program} {l : Launch} {e : Env} {R : Room} {s : State} {m : MethodId} {args : Array Value} {below : List Frame} {meth : Method} {c : Code} {T : State} {locs : List Loc} {cells slots : Nat}
theorem vx_callV (X : Stand p l e R s m args below meth c T locs cells slots) (hexec : p.tables.exec = Jvm.exec) {own C : String} {index : Nat} {y : MethodName} {bytes : ByteArray} {maxL : Nat} {ret : Option FieldType}
    (hown : s.vm.findClass own = some m.cls) (hlink : (Cond.methodLink own index y).before args s = true) (hinst : (Cond.instanceMethod y).before args s = true) (hsel : (Cond.selects C y y).before args s = true)
    (hcode : (Cond.code y bytes maxL ret).before args s = true) (hy : y.cls ≠ "java/lang/invoke/MethodHandle" ∧ y.cls ≠ "java/lang/invoke/VarHandle")
    {W9 : Nat} {Pre : Pt → Array Value → Prop} {Post : Pt → Array Value → Option Value → Pt → Prop} {PostX : Pt → Array Value → Addr → Pt → Prop} (hK : vx_Back l R p e below s args y 3 W9 Pre Post PostX)
    {b : Addr} {cellB : Cell} (hcell : T.heap[b]? = some cellB) (hobj : cellB.vm.isStatics = false) (hcls : s.vm.findClass C = some cellB.cls)
    {g : JFrame} (hg : g.method = m) (hsize : g.locals.size = c.maxLocals) {argsL rest : List Value} (hlen : ∀ sig, parseMethodDescriptor y.desc = some sig → argsL.length = sig.parameters.length)
    (hstack : g.stack = argsL.reverse ++ .ref b :: rest) (hW : 2 * g.monitorRoom + (rest.map fun v => v.category).sum ≤ W9) (hdg : decode c.code g.pc = .ok (.invokevirtual index, 3))
    (hpre : ∀ vm₁, s.WarmedH vm₁ → Pre ⟨T.setVm vm₁, locs, cells, slots⟩ (Value.ref b :: argsL).toArray) :
    (∃ (v : Option Value) (vm₁ : Vm) (B : Pt), s.WarmedH vm₁ ∧ Stand p l e R s m args below meth c B.U B.locs B.cells B.slots ∧ Post ⟨T.setVm vm₁, locs, cells, slots⟩ (Value.ref b :: argsL).toArray v B ∧
      ∀ target, Steps p.tables e below (B.U.setTop { g with pc := g.pc + 3, stack := v.toList ++ rest }) target → Steps p.tables e below (T.setTop g) target) ∨
    (∃ (q : Addr) (vm₁ : Vm) (B : Pt), s.WarmedH vm₁ ∧ Stand p l e R s m args below meth c B.U B.locs B.cells B.slots ∧ PostX ⟨T.setVm vm₁, locs, cells, slots⟩ (Value.ref b :: argsL).toArray q B ∧
      Steps p.tables e below (T.setTop g) ((B.U.setTop { g with stack := rest }).pushFrame (.throwing q))) := by
  obtain ⟨mk, methM, hnamed, hmethM, hstM, habM⟩ := Cond.instanceMethod_spec hinst
  obtain ⟨methM', cM, hmethM', -, -, -, -, -, -, hsigM⟩ := Cond.code_spec hnamed hcode
  cases hmethM.symm.trans hmethM'
  obtain ⟨c2, r2, m2, q1, q2, q3, q4, kP, hkP, hkPi⟩ := Cond.selects_spec hsel
  cases hcls.symm.trans q1
  cases (State.methodFound?_of_named hnamed hy).symm.trans q2
  cases hnamed.symm.trans q3
  have hselP : selectMethod e.platform s.vm cellB.cls mk = .method mk := by rw [Launch.admits_selectMethod X.admits]; exact q4
  obtain ⟨vm₁, X₁, hstep₁⟩ := X.invokevirtual hexec hown hlink hnamed hmethM hstM hkP hkPi hy (a := b) (cell := cellB) hcell
    (fun z h => by rw [h] at hobj; cases hobj) hselP hmethM habM hkP hkPi (g := g) hg (argsL := argsL) (rest := rest) (hlen _ hsigM) hstack hdg
  rcases hK m meth c ⟨T.setVm vm₁, locs, cells, slots⟩ { g with stack := rest } (.invokevirtual index) mk (Value.ref b :: argsL).toArray X₁ hg hsize hdg hW (X₁.named hnamed) (hpre vm₁ X₁.warmed) with ⟨v, B, X', hpost, hsteps⟩ | ⟨q, B, X', hpost, hsteps⟩
  · exact Or.inl ⟨v, vm₁, B, X₁.warmed, X', hpost, fun target h => hstep₁ _ fun acts => by rw [doInvoke_state]; exact hsteps.trans h⟩
  · exact Or.inr ⟨q, vm₁, B, X₁.warmed, X', hpost, hstep₁ _ fun acts => by rw [doInvoke_state]; exact hsteps⟩
theorem vx_callS (X : Stand p l e R s m args below meth c T locs cells slots) (hexec : p.tables.exec = Jvm.exec) {own : String} {index : Nat} {y : MethodName} {bytes : ByteArray} {maxL : Nat} {ret : Option FieldType}
    (hown : s.vm.findClass own = some m.cls) (hlink : (Cond.methodLink own index y).before args s = true) (hstat : (Cond.static y).before args s = true) (hinit : (Cond.initialized y.cls).before args s = true)
    (hcode : (Cond.code y bytes maxL ret).before args s = true) (hy : y.cls ≠ "java/lang/invoke/MethodHandle" ∧ y.cls ≠ "java/lang/invoke/VarHandle")
    {W9 : Nat} {Pre : Pt → Array Value → Prop} {Post : Pt → Array Value → Option Value → Pt → Prop} {PostX : Pt → Array Value → Addr → Pt → Prop} (hK : vx_Back l R p e below s args y 3 W9 Pre Post PostX)
    {g : JFrame} (hg : g.method = m) (hsize : g.locals.size = c.maxLocals) {argsL rest : List Value} (hlen : ∀ sig, parseMethodDescriptor y.desc = some sig → argsL.length = sig.parameters.length)
    (hstack : g.stack = argsL.reverse ++ rest) (hW : 2 * g.monitorRoom + (rest.map fun v => v.category).sum ≤ W9) (hdg : decode c.code g.pc = .ok (.invokestatic index, 3))
    (hpre : ∀ vm₁, s.WarmedH vm₁ → Pre ⟨T.setVm vm₁, locs, cells, slots⟩ argsL.toArray) :
    (∃ (v : Option Value) (vm₁ : Vm) (B : Pt), s.WarmedH vm₁ ∧ Stand p l e R s m args below meth c B.U B.locs B.cells B.slots ∧ Post ⟨T.setVm vm₁, locs, cells, slots⟩ argsL.toArray v B ∧
      ∀ target, Steps p.tables e below (B.U.setTop { g with pc := g.pc + 3, stack := v.toList ++ rest }) target → Steps p.tables e below (T.setTop g) target) ∨
    (∃ (q : Addr) (vm₁ : Vm) (B : Pt), s.WarmedH vm₁ ∧ Stand p l e R s m args below meth c B.U B.locs B.cells B.slots ∧ PostX ⟨T.setVm vm₁, locs, cells, slots⟩ argsL.toArray q B ∧
      Steps p.tables e below (T.setTop g) ((B.U.setTop { g with stack := rest }).pushFrame (.throwing q))) := by
  obtain ⟨mk, hnamed⟩ := Cond.code_named hcode
  obtain ⟨methM, cM, hmethM, -, -, -, -, -, -, hsigM⟩ := Cond.code_spec hnamed hcode
  have hstatic : methM.isStatic = true := Cond.static_spec hnamed hmethM hstat
  obtain ⟨kP, hkP, -⟩ := className_of_methodNamed hnamed
  have hinitP : kP.init = .initialized := Cond.initialized_spec (findClass_of_methodNamed hnamed) hkP hinit
  obtain ⟨vm₁, X₁, hstep₁⟩ := X.invokestatic hexec hown hlink hnamed hmethM hstatic hkP hinitP hy (g := g) hg (argsL := argsL) (rest := rest) (hlen _ hsigM) hstack hdg
  rcases hK m meth c ⟨T.setVm vm₁, locs, cells, slots⟩ { g with stack := rest } (.invokestatic index) mk argsL.toArray X₁ hg hsize hdg hW (X₁.named hnamed) (hpre vm₁ X₁.warmed) with ⟨v, B, X', hpost, hsteps⟩ | ⟨q, B, X', hpost, hsteps⟩
  · exact Or.inl ⟨v, vm₁, B, X₁.warmed, X', hpost, fun target h => hstep₁ _ fun acts => by rw [doInvoke_state]; exact hsteps.trans h⟩
  · exact Or.inr ⟨q, vm₁, B, X₁.warmed, X', hpost, hstep₁ _ fun acts => by rw [doInvoke_state]; exact hsteps⟩
end Calls
theorem vx_cls {s : State} {T : State} {vm₁ : Vm} {E : String} {k : ClassId} (hW : s.WarmedH vm₁) (h : (T.setVm vm₁).vm.findClass E = some k) : s.vm.findClass E = some k := by
  have h1 : vm₁.findClass E = some k := h
  rw [hW.alike.findClass] at h1
  exact h1
/-- the method's frame g, with q thrown over it -/
def vx_W (p : Program) (l : Launch) (e : Env) (R : Room) (s : State) (m : MethodId) (args : Array Value) (below : List Frame) (meth : Method) (c : Code) (H : Heap) (locs : List Loc) (cells slots : Nat) (Q : State → Prop) (g : JFrame) (q : Addr) : Prop :=
  ∀ T : State, T.heap = H → Stand p l e R s m args below meth c T locs cells slots → ∃ t, Steps p.tables e below ((T.setTop g).pushFrame (.throwing q)) t ∧ Q t
def vx_Run (p : Program) (l : Launch) (e : Env) (R : Room) (s : State) (m : MethodId) (args : Array Value) (below : List Frame) (meth : Method) (c : Code) (H : Heap) (locs : List Loc) (cells slots mc ms : Nat) (g : JFrame) (rest : List Value) (Qa : State → Outcome → State → Prop) (XC : String → State → State → Prop) (free : Addr → Prop) : Prop :=
  ∀ T : State, T.heap = H → Stand p l e R s m args below meth c T locs cells slots →
    (∃ (v : Option Value) (st₀ t T' : State) (L : List Loc), st₀.heap = H ∧ Stand p l e R s m args below meth c T' (locs ++ L) (cells + mc) (slots + ms) ∧ (∀ q ∈ L, free q.base) ∧ T'.heap = t.heap ∧ T'.vm = t.vm ∧ Qa st₀ (.returned v) t ∧
      Goes p e below T g T' { g with pc := g.pc + 3, stack := v.toList ++ rest }) ∨
    (∃ (q : Addr) (st₀ t T' : State) (L : List Loc) (E : String) (ce : Cell), st₀.heap = H ∧ Stand p l e R s m args below meth c T' (locs ++ L) (cells + mc) (slots + ms) ∧ (∀ z ∈ L, free z.base) ∧ T'.heap = t.heap ∧ T'.vm = t.vm ∧ XC E st₀ t ∧ t.heap[q]? = some ce ∧ ce.vm = .none ∧ s.vm.findClass E = some ce.cls ∧
      Steps p.tables e below (T.setTop g) ((T'.setTop { g with stack := rest }).pushFrame (.throwing q)))
def vx_X {S : Type} (px : S → Prop) (B : String → S → State → Prop) (A : Nat → Prop) : String → State → State → Prop := fun E st t => ∃ u : S, px u ∧ B E u t ∧ va_F A st t
section Runs
variable {p : Program} {l : Launch} {e : Env} {R : Room} {s : State} {m : MethodId} {args : Array Value} {below : List Frame} {meth : Method} {c : Code} {H : Heap} {locs : List Loc} {cells slots : Nat}
variable {y : MethodName} {bytes cc : ByteArray} {maxL nL mc ms n index : Nat} {ret : Option FieldType} {ws : List Cond} {rm : Room} {Pc : Array Value → State → Prop} {Qc : Array Value → State → Outcome → State → Prop} {XC : String → State → State → Prop} {free : Addr → Prop} {Ts : List Cond} {own C : String} {b : Addr} {As rest : List Value} {g : JFrame}
theorem vx_callBack (cb : CallB R s args own index y bytes maxL ret ws rm mc ms n) (hM : vx_Met l y ws rm Pc Qc XC mc ms free) (hbl : FrameBlind Pc) : vx_Back l R p e below s args y 3 8 (PreOf R mc ms Pc) (PostOf Qc mc ms free) (vx_Post XC mc ms free) := by
  obtain ⟨hrc, hrs, hfr, hlo, hws, hcw, -, hini, -⟩ := cb
  exact vx_back (bytes := bytes) (maxL := maxL) (ret := ret) hM hbl hrc hrs hfr hlo hws hcw (fun a' U hW => word_at hW (Or.inl (by first | rfl | simp [Cond.onTables, Cond.keeps, Cond.steady])) hini)
theorem vx_runV (S : CallFix p m c cc nL s args Ts own) (hM : vx_Met l y ws rm Pc Qc XC mc ms free) (cw : CallW R s args own C index y bytes maxL ret ws rm mc ms n) (hp : PreV s H C b Pc As)
    (hg : g.method = m) (hn : As.length = n) (hsize : g.locals.size = nL) (hstack : g.stack = As.reverse ++ .ref b :: rest) (hW : 2 * g.monitorRoom + (rest.map fun v => v.category).sum ≤ 8) (hdg : decode cc g.pc = .ok (.invokevirtual index, 3)) (hf : cells + mc ≤ R.cells ∧ slots + ms ≤ R.slots) :
    vx_Run p l e R s m args below meth c H locs cells slots mc ms g rest (Qc (Value.ref b :: As).toArray) XC free := by
  have hK : vx_Back l R p e below s args y 3 8 (PreOf R mc ms Pc) (PostOf Qc mc ms free) (vx_Post XC mc ms free) := vx_callBack cw.1 hM hp.1
  obtain ⟨⟨-, -, -, -, -, -, hcode, -, hy, hlen, hl⟩, hin, hse⟩ := cw
  obtain ⟨hx, hb, hml, ho, -⟩ := S
  obtain ⟨-, ⟨cellB, hcB, hoB, hclB⟩, hPc⟩ := hp
  intro T hT X
  rcases vx_callV X hx (C := C) (bytes := bytes) (maxL := maxL) (ret := ret) ho hl hin hse hcode hy hK (by rw [hT]; exact hcB) hoB hclB hg (hsize.trans hml.symm) (argsL := As) (rest := rest) (fun sig h => hn.trans (hlen sig h)) hstack hW (by rw [hb]; exact hdg)
    (fun vm₁ hW₁ => ⟨hf.1, hf.2, hPc (T.setVm vm₁) hT hW₁⟩) with ⟨v, vm₁, ⟨U', l2, c2, s2⟩, hW₁, X', ⟨g', mk, t, L, e1, e2, hq, h1, hL, h2, h3⟩, st⟩ | ⟨q, vm₁, ⟨U', l2, c2, s2⟩, hW₁, X', ⟨g', mk, t, L, E, ce, e1, e2, hq, hce, hcv, hcl, h1, hL, h2, h3⟩, st⟩
  · dsimp only [Pt.U, Pt.locs, Pt.cells, Pt.slots] at X' e1 e2 h1 h2 h3 st
    subst h1; subst h2; subst h3
    exact Or.inl ⟨v, (T.setVm vm₁).calling g' mk (Value.ref b :: As).toArray, t, U', L, hT, X', hL, e1, e2, hq, st⟩
  · dsimp only [Pt.U, Pt.locs, Pt.cells, Pt.slots] at X' e1 e2 h1 h2 h3 st hcl
    subst h1; subst h2; subst h3
    exact Or.inr ⟨q, (T.setVm vm₁).calling g' mk (Value.ref b :: As).toArray, t, U', L, E, ce, hT, X', hL, e1, e2, hq, hce, hcv, vx_cls hW₁ hcl, st⟩
theorem vx_runS (S : CallFix p m c cc nL s args Ts own) (hM : vx_Met l y ws rm Pc Qc XC mc ms free) (cw : CallB R s args own index y bytes maxL ret ws rm mc ms n ∧ (Cond.static y).before args s = true) (hp : PreS s H Pc As)
    (hg : g.method = m) (hn : As.length = n) (hsize : g.locals.size = nL) (hstack : g.stack = As.reverse ++ rest) (hW : 2 * g.monitorRoom + (rest.map fun v => v.category).sum ≤ 8) (hdg : decode cc g.pc = .ok (.invokestatic index, 3)) (hf : cells + mc ≤ R.cells ∧ slots + ms ≤ R.slots) :
    vx_Run p l e R s m args below meth c H locs cells slots mc ms g rest (Qc As.toArray) XC free := by
  have hK : vx_Back l R p e below s args y 3 8 (PreOf R mc ms Pc) (PostOf Qc mc ms free) (vx_Post XC mc ms free) := vx_callBack cw.1 hM hp.1
  obtain ⟨⟨-, -, -, -, -, -, hcode, hini, hy, hlen, hl⟩, hstt⟩ := cw
  obtain ⟨hx, hb, hml, ho, -⟩ := S
  intro T hT X
  rcases vx_callS X hx (bytes := bytes) (maxL := maxL) (ret := ret) ho hl hstt hini hcode hy hK hg (hsize.trans hml.symm) (argsL := As) (rest := rest) (fun sig h => hn.trans (hlen sig h)) hstack hW (by rw [hb]; exact hdg)
    (fun vm₁ hW₁ => ⟨hf.1, hf.2, hp.2 (T.setVm vm₁) hT hW₁⟩) with ⟨v, vm₁, ⟨U', l2, c2, s2⟩, hW₁, X', ⟨g', mk, t, L, e1, e2, hq, h1, hL, h2, h3⟩, st⟩ | ⟨q, vm₁, ⟨U', l2, c2, s2⟩, hW₁, X', ⟨g', mk, t, L, E, ce, e1, e2, hq, hce, hcv, hcl, h1, hL, h2, h3⟩, st⟩
  · dsimp only [Pt.U, Pt.locs, Pt.cells, Pt.slots] at X' e1 e2 h1 h2 h3 st
    subst h1; subst h2; subst h3
    exact Or.inl ⟨v, (T.setVm vm₁).calling g' mk As.toArray, t, U', L, hT, X', hL, e1, e2, hq, st⟩
  · dsimp only [Pt.U, Pt.locs, Pt.cells, Pt.slots] at X' e1 e2 h1 h2 h3 st hcl
    subst h1; subst h2; subst h3
    exact Or.inr ⟨q, (T.setVm vm₁).calling g' mk As.toArray, t, U', L, E, ce, hT, X', hL, e1, e2, hq, hce, hcv, vx_cls hW₁ hcl, st⟩
end Runs
section Rows
variable {p : Program} {l : Launch} {e : Env} {R : Room} {s : State} {m : MethodId} {args : Array Value} {below : List Frame} {meth : Method} {c : Code} {H : Heap} {locs : List Loc} {cells slots : Nat} {Q : State → Prop}
variable {mc ms : Nat} {free : Addr → Prop} {A0 A1 : Nat → Prop} {H0 : Heap} {a : Array Value} {pc : Nat} {ls : Array Slot} {st0 rest : List Value}
theorem vx_keep {st₀ t T' : State} {L : List Loc} (h0 : st₀.heap = H) (e1 : T'.heap = t.heap) (hS : va_S A0 H0 H locs) (hA : ∀ q, q < H.size → A1 q → A0 q) (hf : ∀ q, free q → A0 q) (hL : ∀ q ∈ L, free q.base) (hF : va_F A1 st₀ t) :
    H.size ≤ T'.heap.size ∧ (∀ q : Nat, q < H.size → ¬ A1 q → T'.heap[q]? = H[q]?) ∧ va_S A0 H0 T'.heap (locs ++ L) := by
  obtain ⟨hz, hk⟩ := hF
  rw [h0] at hz hk
  exact ⟨by rw [e1]; exact hz, fun q h1 h2 => by rw [e1]; exact hk q h1 h2,
    ⟨Nat.le_trans hS.1 (by rw [e1]; exact hz), fun q h1 h2 => by rw [e1, hk q (Nat.lt_of_lt_of_le h1 hS.1) (fun z => h2 (hA q (Nat.lt_of_lt_of_le h1 hS.1) z))]; exact hS.2.1 q h1 h2, fun q hq => by
      rcases List.mem_append.mp hq with h | h
      · exact hS.2.2 q h
      · exact hf _ (hL q h)⟩⟩
theorem vx_calli {S SX : Type} {post : Int32 → S → Prop} {px : SX → Prop} {B : S → State → Prop} {BX : String → SX → State → Prop} {AX : Nat → Prop} (hr : vx_Run p l e R s m args below meth c H locs cells slots mc ms (F0 m pc ls st0) rest (va_Qi post B A1 a) (vx_X px BX AX) free) (hS : va_S A0 H0 H locs) (hA : ∀ q, q < H.size → A1 q → A0 q) (hf : ∀ q, free q → A0 q) (hAX : ∀ q, q < H.size → AX q → A0 q)
    (kx : ∀ (E : String) (ce : Cell) (q9 : Addr) (u : SX) (t : State) (H1 : Heap) (locs1 : List Loc), t.heap = H1 → s.vm.Alike t.vm → px u → BX E u t → H.size ≤ H1.size → (∀ q : Nat, q < H.size → ¬ AX q → H1[q]? = H[q]?) → va_S A0 H0 H1 locs1 → H1[q9]? = some ce → ce.vm = .none → s.vm.findClass E = some ce.cls → vx_W p l e R s m args below meth c H1 locs1 (cells + mc) (slots + ms) Q (F0 m pc ls rest) q9)
    (kk : ∀ (r : Int32) (u : S) (t : State) (H1 : Heap) (locs1 : List Loc), t.heap = H1 → s.vm.Alike t.vm → post r u → B u t → H.size ≤ H1.size → (∀ q : Nat, q < H.size → ¬ A1 q → H1[q]? = H[q]?) → va_S A0 H0 H1 locs1 → W p l e R s m args below meth c H1 locs1 (cells + mc) (slots + ms) Q (F0 m (pc + 3) ls (.int r :: rest))) : W p l e R s m args below meth c H locs cells slots Q (F0 m pc ls st0) := by
  intro T hT X
  rcases hr T hT X with ⟨v, st₀, t, T', L, h0, X', hL, e1, e2, ⟨⟨r, u, hv, hp, hb⟩, hF⟩, st⟩ | ⟨q, st₀, t, T', L, E, ce, h0, X', hL, e1, e2, ⟨u, hp, hb, hF⟩, hce, hcv, hcl, st⟩
  · cases hv
    obtain ⟨k1, k2, k3⟩ := vx_keep h0 e1 hS hA hf hL hF
    obtain ⟨t2, a1, b1⟩ := kk r u t T'.heap (locs ++ L) e1.symm (by rw [← e2]; exact X'.warmed.alike) hp hb k1 k2 k3 T' rfl X'
    exact ⟨t2, st t2 a1, b1⟩
  · obtain ⟨k1, k2, k3⟩ := vx_keep h0 e1 hS hAX hf hL hF
    obtain ⟨t2, a1, b1⟩ := kx E ce q u t T'.heap (locs ++ L) e1.symm (by rw [← e2]; exact X'.warmed.alike) hp hb k1 k2 k3 (by rw [e1]; exact hce) hcv hcl T' rfl X'
    exact ⟨t2, st.trans a1, b1⟩
theorem vx_calll {S SX : Type} {post : Int64 → S → Prop} {px : SX → Prop} {B : S → State → Prop} {BX : String → SX → State → Prop} {AX : Nat → Prop} (hr : vx_Run p l e R s m args below meth c H locs cells slots mc ms (F0 m pc ls st0) rest (va_Ql post B A1 a) (vx_X px BX AX) free) (hS : va_S A0 H0 H locs) (hA : ∀ q, q < H.size → A1 q → A0 q) (hf : ∀ q, free q → A0 q) (hAX : ∀ q, q < H.size → AX q → A0 q)
    (kx : ∀ (E : String) (ce : Cell) (q9 : Addr) (u : SX) (t : State) (H1 : Heap) (locs1 : List Loc), t.heap = H1 → s.vm.Alike t.vm → px u → BX E u t → H.size ≤ H1.size → (∀ q : Nat, q < H.size → ¬ AX q → H1[q]? = H[q]?) → va_S A0 H0 H1 locs1 → H1[q9]? = some ce → ce.vm = .none → s.vm.findClass E = some ce.cls → vx_W p l e R s m args below meth c H1 locs1 (cells + mc) (slots + ms) Q (F0 m pc ls rest) q9)
    (kk : ∀ (r : Int64) (u : S) (t : State) (H1 : Heap) (locs1 : List Loc), t.heap = H1 → s.vm.Alike t.vm → post r u → B u t → H.size ≤ H1.size → (∀ q : Nat, q < H.size → ¬ A1 q → H1[q]? = H[q]?) → va_S A0 H0 H1 locs1 → W p l e R s m args below meth c H1 locs1 (cells + mc) (slots + ms) Q (F0 m (pc + 3) ls (.long r :: rest))) : W p l e R s m args below meth c H locs cells slots Q (F0 m pc ls st0) := by
  intro T hT X
  rcases hr T hT X with ⟨v, st₀, t, T', L, h0, X', hL, e1, e2, ⟨⟨r, u, hv, hp, hb⟩, hF⟩, st⟩ | ⟨q, st₀, t, T', L, E, ce, h0, X', hL, e1, e2, ⟨u, hp, hb, hF⟩, hce, hcv, hcl, st⟩
  · cases hv
    obtain ⟨k1, k2, k3⟩ := vx_keep h0 e1 hS hA hf hL hF
    obtain ⟨t2, a1, b1⟩ := kk r u t T'.heap (locs ++ L) e1.symm (by rw [← e2]; exact X'.warmed.alike) hp hb k1 k2 k3 T' rfl X'
    exact ⟨t2, st t2 a1, b1⟩
  · obtain ⟨k1, k2, k3⟩ := vx_keep h0 e1 hS hAX hf hL hF
    obtain ⟨t2, a1, b1⟩ := kx E ce q u t T'.heap (locs ++ L) e1.symm (by rw [← e2]; exact X'.warmed.alike) hp hb k1 k2 k3 (by rw [e1]; exact hce) hcv hcl T' rfl X'
    exact ⟨t2, st.trans a1, b1⟩
theorem vx_callf {S SX : Type} {post : UInt32 → S → Prop} {px : SX → Prop} {B : S → State → Prop} {BX : String → SX → State → Prop} {AX : Nat → Prop} (hr : vx_Run p l e R s m args below meth c H locs cells slots mc ms (F0 m pc ls st0) rest (va_Qf post B A1 a) (vx_X px BX AX) free) (hS : va_S A0 H0 H locs) (hA : ∀ q, q < H.size → A1 q → A0 q) (hf : ∀ q, free q → A0 q) (hAX : ∀ q, q < H.size → AX q → A0 q)
    (kx : ∀ (E : String) (ce : Cell) (q9 : Addr) (u : SX) (t : State) (H1 : Heap) (locs1 : List Loc), t.heap = H1 → s.vm.Alike t.vm → px u → BX E u t → H.size ≤ H1.size → (∀ q : Nat, q < H.size → ¬ AX q → H1[q]? = H[q]?) → va_S A0 H0 H1 locs1 → H1[q9]? = some ce → ce.vm = .none → s.vm.findClass E = some ce.cls → vx_W p l e R s m args below meth c H1 locs1 (cells + mc) (slots + ms) Q (F0 m pc ls rest) q9)
    (kk : ∀ (r : UInt32) (u : S) (t : State) (H1 : Heap) (locs1 : List Loc), t.heap = H1 → s.vm.Alike t.vm → post r u → B u t → H.size ≤ H1.size → (∀ q : Nat, q < H.size → ¬ A1 q → H1[q]? = H[q]?) → va_S A0 H0 H1 locs1 → W p l e R s m args below meth c H1 locs1 (cells + mc) (slots + ms) Q (F0 m (pc + 3) ls (.float r :: rest))) : W p l e R s m args below meth c H locs cells slots Q (F0 m pc ls st0) := by
  intro T hT X
  rcases hr T hT X with ⟨v, st₀, t, T', L, h0, X', hL, e1, e2, ⟨⟨r, u, hv, hp, hb⟩, hF⟩, st⟩ | ⟨q, st₀, t, T', L, E, ce, h0, X', hL, e1, e2, ⟨u, hp, hb, hF⟩, hce, hcv, hcl, st⟩
  · cases hv
    obtain ⟨k1, k2, k3⟩ := vx_keep h0 e1 hS hA hf hL hF
    obtain ⟨t2, a1, b1⟩ := kk r u t T'.heap (locs ++ L) e1.symm (by rw [← e2]; exact X'.warmed.alike) hp hb k1 k2 k3 T' rfl X'
    exact ⟨t2, st t2 a1, b1⟩
  · obtain ⟨k1, k2, k3⟩ := vx_keep h0 e1 hS hAX hf hL hF
    obtain ⟨t2, a1, b1⟩ := kx E ce q u t T'.heap (locs ++ L) e1.symm (by rw [← e2]; exact X'.warmed.alike) hp hb k1 k2 k3 (by rw [e1]; exact hce) hcv hcl T' rfl X'
    exact ⟨t2, st.trans a1, b1⟩
theorem vx_calld {S SX : Type} {post : UInt64 → S → Prop} {px : SX → Prop} {B : S → State → Prop} {BX : String → SX → State → Prop} {AX : Nat → Prop} (hr : vx_Run p l e R s m args below meth c H locs cells slots mc ms (F0 m pc ls st0) rest (va_Qd post B A1 a) (vx_X px BX AX) free) (hS : va_S A0 H0 H locs) (hA : ∀ q, q < H.size → A1 q → A0 q) (hf : ∀ q, free q → A0 q) (hAX : ∀ q, q < H.size → AX q → A0 q)
    (kx : ∀ (E : String) (ce : Cell) (q9 : Addr) (u : SX) (t : State) (H1 : Heap) (locs1 : List Loc), t.heap = H1 → s.vm.Alike t.vm → px u → BX E u t → H.size ≤ H1.size → (∀ q : Nat, q < H.size → ¬ AX q → H1[q]? = H[q]?) → va_S A0 H0 H1 locs1 → H1[q9]? = some ce → ce.vm = .none → s.vm.findClass E = some ce.cls → vx_W p l e R s m args below meth c H1 locs1 (cells + mc) (slots + ms) Q (F0 m pc ls rest) q9)
    (kk : ∀ (r : UInt64) (u : S) (t : State) (H1 : Heap) (locs1 : List Loc), t.heap = H1 → s.vm.Alike t.vm → post r u → B u t → H.size ≤ H1.size → (∀ q : Nat, q < H.size → ¬ A1 q → H1[q]? = H[q]?) → va_S A0 H0 H1 locs1 → W p l e R s m args below meth c H1 locs1 (cells + mc) (slots + ms) Q (F0 m (pc + 3) ls (.double r :: rest))) : W p l e R s m args below meth c H locs cells slots Q (F0 m pc ls st0) := by
  intro T hT X
  rcases hr T hT X with ⟨v, st₀, t, T', L, h0, X', hL, e1, e2, ⟨⟨r, u, hv, hp, hb⟩, hF⟩, st⟩ | ⟨q, st₀, t, T', L, E, ce, h0, X', hL, e1, e2, ⟨u, hp, hb, hF⟩, hce, hcv, hcl, st⟩
  · cases hv
    obtain ⟨k1, k2, k3⟩ := vx_keep h0 e1 hS hA hf hL hF
    obtain ⟨t2, a1, b1⟩ := kk r u t T'.heap (locs ++ L) e1.symm (by rw [← e2]; exact X'.warmed.alike) hp hb k1 k2 k3 T' rfl X'
    exact ⟨t2, st t2 a1, b1⟩
  · obtain ⟨k1, k2, k3⟩ := vx_keep h0 e1 hS hAX hf hL hF
    obtain ⟨t2, a1, b1⟩ := kx E ce q u t T'.heap (locs ++ L) e1.symm (by rw [← e2]; exact X'.warmed.alike) hp hb k1 k2 k3 (by rw [e1]; exact hce) hcv hcl T' rfl X'
    exact ⟨t2, st.trans a1, b1⟩
theorem vx_callv {S SX : Type} {post : S → Prop} {px : SX → Prop} {B : S → State → Prop} {BX : String → SX → State → Prop} {AX : Nat → Prop} (hr : vx_Run p l e R s m args below meth c H locs cells slots mc ms (F0 m pc ls st0) rest (va_Qv post B A1 a) (vx_X px BX AX) free) (hS : va_S A0 H0 H locs) (hA : ∀ q, q < H.size → A1 q → A0 q) (hf : ∀ q, free q → A0 q) (hAX : ∀ q, q < H.size → AX q → A0 q)
    (kx : ∀ (E : String) (ce : Cell) (q9 : Addr) (u : SX) (t : State) (H1 : Heap) (locs1 : List Loc), t.heap = H1 → s.vm.Alike t.vm → px u → BX E u t → H.size ≤ H1.size → (∀ q : Nat, q < H.size → ¬ AX q → H1[q]? = H[q]?) → va_S A0 H0 H1 locs1 → H1[q9]? = some ce → ce.vm = .none → s.vm.findClass E = some ce.cls → vx_W p l e R s m args below meth c H1 locs1 (cells + mc) (slots + ms) Q (F0 m pc ls rest) q9)
    (kk : ∀ (u : S) (t : State) (H1 : Heap) (locs1 : List Loc), t.heap = H1 → s.vm.Alike t.vm → post u → B u t → H.size ≤ H1.size → (∀ q : Nat, q < H.size → ¬ A1 q → H1[q]? = H[q]?) → va_S A0 H0 H1 locs1 → W p l e R s m args below meth c H1 locs1 (cells + mc) (slots + ms) Q (F0 m (pc + 3) ls (rest))) : W p l e R s m args below meth c H locs cells slots Q (F0 m pc ls st0) := by
  intro T hT X
  rcases hr T hT X with ⟨v, st₀, t, T', L, h0, X', hL, e1, e2, ⟨⟨u, hv, hp, hb⟩, hF⟩, st⟩ | ⟨q, st₀, t, T', L, E, ce, h0, X', hL, e1, e2, ⟨u, hp, hb, hF⟩, hce, hcv, hcl, st⟩
  · cases hv
    obtain ⟨k1, k2, k3⟩ := vx_keep h0 e1 hS hA hf hL hF
    obtain ⟨t2, a1, b1⟩ := kk u t T'.heap (locs ++ L) e1.symm (by rw [← e2]; exact X'.warmed.alike) hp hb k1 k2 k3 T' rfl X'
    exact ⟨t2, st t2 a1, b1⟩
  · obtain ⟨k1, k2, k3⟩ := vx_keep h0 e1 hS hAX hf hL hF
    obtain ⟨t2, a1, b1⟩ := kx E ce q u t T'.heap (locs ++ L) e1.symm (by rw [← e2]; exact X'.warmed.alike) hp hb k1 k2 k3 (by rw [e1]; exact hce) hcv hcl T' rfl X'
    exact ⟨t2, st.trans a1, b1⟩
/-- caught by the row x of this method's table; the rows ahead don't take it -/
theorem vx_catch {own name : String} {E : String} {ce : Cell} {q : Addr} (hown : s.vm.findClass own = some m.cls) (pre : List ExceptionTableEntry) (x : ExceptionTableEntry) (suf : List ExceptionTableEntry) (hsplit : c.exceptionTable.toList = pre ++ x :: suf)
    (hpass : ∀ z ∈ pre, covers z pc = false ∨ (z.catchType ≠ 0 ∧ ∃ nm : String, (Cond.classLink own z.catchType nm).before args s = true ∧ va_Nc E nm s)) (hx : covers x pc = true) (h0 : x.catchType ≠ 0)
    (hlink : (Cond.classLink own x.catchType name).before args s = true) (hcast : (Cond.castable E name).before args s = true) (hcell : H[q]? = some ce) (hv : ce.vm = .none) (hcl : s.vm.findClass E = some ce.cls)
    (kk : W p l e R s m args below meth c H locs cells slots Q (F0 m x.handlerPc ls [.ref q])) : vx_W p l e R s m args below meth c H locs cells slots Q (F0 m pc ls rest) q := by
  intro T hT X
  have hpl : e.platform.magicAccessors = ({} : Platform).magicAccessors := by rw [X.admits.platform]
  obtain ⟨c3, c4, hc3, hc4, hasg⟩ := Cond.castable_spec hcast
  cases Option.some.inj (hc3.symm.trans hcl)
  obtain ⟨c5, hc5, hcl5⟩ := Cond.classLink_spec hown hlink e.platform hpl
  cases Option.some.inj (hc4.symm.trans hc5)
  obtain ⟨vm', X', st⟩ := X.thenCaughtThrough q (g := F0 m pc ls rest) rfl (Steps.refl _) (by rw [hT]; exact hcell) (by rw [hv]; rfl) (by obtain ⟨k9, h9, -⟩ := Vm.findClass_spec hcl; exact ⟨k9, h9⟩) pre x suf hsplit
    (fun z hz => by
      rcases hpass z hz with h | ⟨hz0, nm, hl1, hn1⟩
      · exact Or.inl h
      · obtain ⟨c6, hc6, hcl6⟩ := Cond.classLink_spec hown hl1 e.platform hpl
        obtain ⟨a8, b8, h1, h2, h3⟩ := hn1
        cases Option.some.inj (h1.symm.trans hcl)
        cases Option.some.inj (h2.symm.trans hc6)
        exact Or.inr ⟨hz0, _, hcl6, h3⟩) hx (Or.inr ⟨h0, c4, hcl5, hasg⟩)
  obtain ⟨t, a1, b1⟩ := kk (T.setVm vm') hT X'
  exact ⟨t, st.trans a1, b1⟩
end Rows
section Ends
variable {p : Program} {l : Launch} {e : Env} {R : Room} {s : State} {m : MethodId} {args : Array Value} {below : List Frame} {meth : Method} {c : Code} {H : Heap} {locs : List Loc} {cells slots : Nat} {Q : State → Prop}
variable {mc ms : Nat} {free : Addr → Prop} {A0 A1 : Nat → Prop} {H0 : Heap} {a : Array Value} {ls : Array Slot} {st0 rest : List Value}
variable {Qc : Array Value → State → Outcome → State → Prop} {XC : String → State → State → Prop}
/-- what a body that may throw owes at its end -/
def vx_MQ (below : List Frame) (Qc : Array Value → State → Outcome → State → Prop) (XC : String → State → State → Prop) (a : Array Value) (s : State) (mc ms : Nat) (free : Addr → Prop) : State → Prop := fun t =>
  ∃ o, t.status = .running ∧ Ended t below o ∧ vx_Q Qc XC mc ms free a s o t
theorem vx_ret {g : JFrame} {mc ms : Nat} (k : W p l e R s m args below meth c H locs cells slots (MQ below Qc args s mc ms free) g) : W p l e R s m args below meth c H locs cells slots (vx_MQ below Qc XC args s mc ms free) g := by
  intro T hT X
  obtain ⟨t, a1, o, b1, b2, b3, b4⟩ := k T hT X
  exact ⟨t, a1, o, b1, b2, Or.inl ⟨b3, b4⟩⟩
/-- not caught here: it goes on to the caller -/
theorem vx_widen {g : JFrame} {q : Addr} {k n : Nat} (h1 : cells ≤ k) (h2 : slots ≤ n) (kk : vx_W p l e R s m args below meth c H locs k n Q g q) : vx_W p l e R s m args below meth c H locs cells slots Q g q := fun T hT X => kk T hT (stand_widen X h1 h2)
theorem vx_out {pc : Nat} {E : String} {ce : Cell} {q : Addr} {mc ms : Nat} (hout : ∀ x ∈ c.exceptionTable.toList, covers x pc = false) (hlocks : meth.locks = false) (hcell : H[q]? = some ce) (hv : ce.vm = .none) (hcl : s.vm.findClass E = some ce.cls)
    (hx : ∀ t : State, t.heap = H → s.vm.Alike t.vm → XC E s t) (hf : ∀ z ∈ locs, free z.base) (hc : cells ≤ mc) (hs : slots ≤ ms) :
    vx_W p l e R s m args below meth c H locs cells slots (vx_MQ below Qc XC args s mc ms free) (F0 m pc ls rest) q := by
  intro T hT X
  obtain ⟨st1, hrun, hend, hW, hsm⟩ := X.leaveThrown q (g := F0 m pc ls rest) rfl rfl rfl hout hlocks
  have hcell9 : (T.setFrames (.throwing q :: below)).heap[q]? = some ce := by
    show T.heap[q]? = some ce
    rw [hT]; exact hcell
  exact ⟨_, st1, .threw q, hrun, hend, Or.inr ⟨q, rfl, E, ce, locs, hx _ hT hW.alike, hcell9, hv, hcl, hW, hsm.mono hc hs, hf⟩⟩
theorem vx_frame {U : State} {k n : Nat} (h : s.sameButNew ({ U with vm := s.vm } : State) locs k n) : s.heap.size ≤ U.heap.size ∧ ∀ q : Nat, q < s.heap.size → (∀ z ∈ locs, z.base ≠ q) → U.heap[q]? = s.heap[q]? := by
  obtain ⟨-, h2, -, -, -, h6⟩ := h
  refine ⟨h2, fun q hq hz => ?_⟩
  obtain ⟨c9, e1, e2, e3, e4⟩ := h6 q _ (Array.getElem?_eq_getElem hq)
  have hs : c9.slots = (s.heap[q]).slots := Array.ext_getElem? fun i => e4 i fun hm => hz _ hm rfl
  have h9 : c9 = s.heap[q] := by
    rw [hs] at e2
    exact e2
  have e5 : U.heap[q]? = some c9 := e1
  rw [e5, h9, Array.getElem?_eq_getElem hq]
/-- the words of a throw but the four that speak of the heap -/
def vx_no (w : Cond) : Bool := decide (w ≠ .isRef (.static Bundle.tN "UNASSIGNED_STACK" Bundle.steD)) && decide (w ≠ .isRef (.static Bundle.tN "SUPPRESSED_SENTINEL" Bundle.listD)) && decide (w ≠ .laysStatic Bundle.tN "UNASSIGNED_STACK" Bundle.steD) && decide (w ≠ .laysStatic Bundle.tN "SUPPRESSED_SENTINEL" Bundle.listD)
def vx_at0 (own : String) (ic : Nat) (X : String) (names : List String) : List Cond := (Bundle.ownAtoms0 own ic X names).filter vx_no
def vx_atS (own : String) (ic : Nat) (X : String) (names : List String) : List Cond := (Bundle.ownAtoms own ic X names).filter vx_no
/-- a word that the tables alone decide, or a good one -/
def vx_ot (w : Cond) : Bool := w.onTables || goodWord w
theorem vx_ot_at {args a' : Array Value} {s U : State} {w : Cond} (hW : s.WarmedH U.vm) (hvm : s.vm = U.vm) (hg : vx_ot w = true) (h : w.before args s = true) : w.before a' U = true := by
  simp only [vx_ot, Bool.or_eq_true] at hg
  rcases hg with hg | hg
  · exact va_tabs hg hvm h
  · exact word_at hW (good_of_word hg) h
/-- a list's words: the good ones out of the method's own list, the others by premises of their own -/
theorem vx_hat {args : Array Value} {s : State} {L B : List Cond} (h1 : ∀ w ∈ L.filter goodWord, w.before args s = true) (h2 : ∀ w ∈ L.filter (fun w => !goodWord w), w ∈ B) (h3 : ∀ w ∈ B, w.before args s = true) : ∀ w ∈ L, w.before args s = true := by
  intro w hw
  by_cases g : goodWord w = true
  · exact h1 w (List.mem_filter.mpr ⟨hw, g⟩)
  · refine h3 w (h2 w (List.mem_filter.mpr ⟨hw, ?_⟩))
    show (!goodWord w) = true
    cases hgw : goodWord w
    · rfl
    · exact absurd hgw g
theorem vx_c {args : Array Value} {s : State} {w : Cond} {B : List Cond} (h : w.before args s = true) (t : ∀ w ∈ B, w.before args s = true) : ∀ w' ∈ w :: B, w'.before args s = true := fun w' h' => (List.mem_cons.mp h').elim (fun e => by rw [e]; exact h) (t w')
theorem vx_n {args : Array Value} {s : State} : ∀ w ∈ ([] : List Cond), w.before args s = true := fun _ h => nomatch h
theorem vx_own {args : Array Value} {s : State} {L : List Cond} (h1 : ∀ w ∈ L.filter vx_no, w.before args s = true)
    (hU : (Cond.isRef (.static Bundle.tN "UNASSIGNED_STACK" Bundle.steD)).before args s = true) (hN : (Cond.isRef (.static Bundle.tN "SUPPRESSED_SENTINEL" Bundle.listD)).before args s = true)
    (lU : (Cond.laysStatic Bundle.tN "UNASSIGNED_STACK" Bundle.steD).before args s = true) (lN : (Cond.laysStatic Bundle.tN "SUPPRESSED_SENTINEL" Bundle.listD).before args s = true) : ∀ w ∈ L, w.before args s = true := by
  intro w hw
  by_cases e1 : w = .isRef (.static Bundle.tN "UNASSIGNED_STACK" Bundle.steD)
  · rw [e1]; exact hU
  · by_cases e2 : w = .isRef (.static Bundle.tN "SUPPRESSED_SENTINEL" Bundle.listD)
    · rw [e2]; exact hN
    · by_cases e3 : w = .laysStatic Bundle.tN "UNASSIGNED_STACK" Bundle.steD
      · rw [e3]; exact lU
      · by_cases e4 : w = .laysStatic Bundle.tN "SUPPRESSED_SENTINEL" Bundle.listD
        · rw [e4]; exact lN
        · exact h1 w (List.mem_filter.mpr ⟨hw, by unfold vx_no; rw [decide_eq_true e1, decide_eq_true e2, decide_eq_true e3, decide_eq_true e4]; rfl⟩)
/-- where a static field lies, its class's statics cell in H -/
def vx_L (C n d : String) (A : Nat → Prop) (U : State) (H : Heap) : Prop := ∃ (c : ClassId) (k : Class) (i : Nat) (f : Field) (a : Nat) (cell : Cell), U.vm.findClass C = some c ∧ U.fieldFound? C n d = some (c, k, i, f) ∧ f.isStatic = true ∧ k.statics = some a ∧ H[a]? = some cell ∧ cell.vm.isStatics = true ∧ cell.cls = c ∧ f.slot < cell.slots.size ∧ k.staticTypes[f.slot]? = some f.type ∧ ¬ A a
theorem vx_L.moved {C n d : String} {A : Nat → Prop} {u U : State} {H : Heap} (hvm : u.vm.Alike U.vm) (h : vx_L C n d A u H) : vx_L C n d A U H := by
  obtain ⟨c, k, i, f, a, cell, h1, h2, h3, h4, h5, h6, h7, h8, h9, h10⟩ := h
  obtain ⟨k', hi', he⟩ := State.fieldFound?_setVm hvm h2
  exact ⟨c, k', i, f, a, cell, by rw [hvm.findClass]; exact h1, hi', h3, by rw [he]; exact h4, h5, h6, h7, h8, by rw [he]; exact h9, h10⟩
theorem vx_L.kept {C n d : String} {A : Nat → Prop} {U : State} {H H1 : Heap} (h : vx_L C n d A U H) (hq : ∀ a : Nat, a < H.size → ¬ A a → H1[a]? = H[a]?) : vx_L C n d A U H1 := by
  obtain ⟨c, k, i, f, a, cell, h1, h2, h3, h4, h5, h6, h7, h8, h9, h10⟩ := h
  exact ⟨c, k, i, f, a, cell, h1, h2, h3, h4, by rw [hq a (Array.getElem?_eq_some_iff.mp h5).1 h10]; exact h5, h6, h7, h8, h9, h10⟩
theorem vx_L.narrow {C n d : String} {A B : Nat → Prop} {U : State} {H : Heap} (h : vx_L C n d A U H) (hAB : ∀ q, B q → A q) : vx_L C n d B U H := by
  obtain ⟨c, k, i, f, a, cell, h1, h2, h3, h4, h5, h6, h7, h8, h9, h10⟩ := h
  exact ⟨c, k, i, f, a, cell, h1, h2, h3, h4, h5, h6, h7, h8, h9, fun z => h10 (hAB _ z)⟩
theorem vx_L.word {C n d : String} {A : Nat → Prop} {s : State} {args : Array Value} (h : vx_L C n d A s s.heap) : (Cond.laysStatic C n d).before args s = true := by
  obtain ⟨c, k, i, f, a, cell, h1, h2, h3, h4, h5, h6, h7, h8, h9, -⟩ := h
  show (Cond.laysStatic C n d).holds args s none s [] = true
  exact Cond.laysStatic_of h1 h2 h3 h4 h5 h6 h7 h8 h9
/-- .. and what it holds: null or some reference -/
def vx_Zq (C n d : String) (A : Nat → Prop) (U : State) (H : Heap) : Prop := va_Zq C n d A U H ∧ vx_L C n d A U H
theorem vx_Zq.moved {C n d : String} {A : Nat → Prop} {u U : State} {H : Heap} (hvm : u.vm.Alike U.vm) (h : vx_Zq C n d A u H) : vx_Zq C n d A U H := ⟨va_Zq.moved hvm h.1, vx_L.moved hvm h.2⟩
theorem vx_Zq.kept {C n d : String} {A : Nat → Prop} {U : State} {H H1 : Heap} (h : vx_Zq C n d A U H) (hq : ∀ a : Nat, a < H.size → ¬ A a → H1[a]? = H[a]?) : vx_Zq C n d A U H1 := ⟨va_Zq.kept h.1 hq, vx_L.kept h.2 hq⟩
theorem vx_Zq.narrow {C n d : String} {A B : Nat → Prop} {U : State} {H : Heap} (h : vx_Zq C n d A U H) (hAB : ∀ q, B q → A q) : vx_Zq C n d B U H := ⟨va_Zq.narrow h.1 hAB, vx_L.narrow h.2 hAB⟩
theorem vx_Zqof {args : Array Value} {s : State} {C n d : String} {A : Nat → Prop} (hl : (Cond.laysStatic C n d).before args s = true) (hini : (Cond.initialized C).before args s = true) (h : (Cond.isRef (.static C n d)).before args s = true) (hA : ∀ a : Nat, a < s.heap.size → ¬ A a) : vx_Zq C n d A s s.heap := by
  refine ⟨va_Zqof hl hini h hA, ?_⟩
  obtain ⟨c, k, i, f, a, cell, h1, h2, h3, h4, h5, h6, h7, h8, h9⟩ := Cond.laysStatic_spec hl
  exact ⟨c, k, i, f, a, cell, h1, h2, h3, h4, h5, h6, h7, h8, h9, hA a (Array.getElem?_eq_some_iff.mp h5).1⟩
theorem vx_isRef {C n d : String} {v : Value} {A : Nat → Prop} {s : State} {args : Array Value} (h : va_Z C n d v A s s.heap) (hv : v.isRef = true) : (Cond.isRef (.static C n d)).before args s = true := by
  obtain ⟨cf, kf, fi, f, a, cell, h1, h2, h3, h4, h5, h6, h7, -⟩ := h
  have he : (Term.static C n d).eval args s none [] s = some v := by
    simp [Term.eval, State.fieldNamed?, h1, h2, h4, h5, h6, h7]
  simp only [Cond.before, Cond.holds, Cond.value, he]
  cases v <;> simp_all [Value.isRef]
theorem vx_isRefq {C n d : String} {A : Nat → Prop} {s : State} {args : Array Value} (h : va_Zq C n d A s s.heap) : (Cond.isRef (.static C n d)).before args s = true := by
  rcases h with h | ⟨t, h⟩
  · exact vx_isRef h rfl
  · exact vx_isRef h rfl
/-- the same frame, seen from here: as if the method were called anew in this heap -/
theorem vx_rebase {T : State} (X : Stand p l e R s m args below meth c T locs cells slots) {R' : Room} (hf : R'.frames ≤ R.frames) (hl : R'.locals ≤ R.locals) (hc : cells + R'.cells ≤ R.cells) (hs : slots + R'.slots ≤ R.slots) :
    Stand p l e R' ((T.setVm s.vm).setFrames (.invoking m args :: below)) m args below meth c T [] 0 0 := by
  have htop : (T.setVm s.vm).topJava?.isSome := X.here.top
  have hF : ((T.setVm s.vm).setFrames (.invoking m args :: below)).frames = .invoking m args :: below := State.frames_setFrames _ (State.cur_lt_of_top htop)
  obtain ⟨g₀, hg0⟩ := Option.isSome_iff_exists.mp htop
  obtain ⟨r, hr⟩ := State.topJava?_eq_some.mp hg0
  have hl9 : e.platform.stackLimits (T.setVm s.vm).me = e.platform.stackLimits s.me := X.limits
  have hb9 : (T.setVm s.vm).me.stackBytes = s.me.stackBytes := X.bytes
  refine ⟨X.admits, X.cas, X.clock, hF, ?_, X.hears, X.method, X.code, X.here, X.tail, X.warmed, ?_, ?_, ?_⟩
  · have h := X.room
    have hU : ((T.setVm s.vm).setFrames (.invoking m args :: below)).localsInUse = s.localsInUse := by
      rw [State.localsInUse_invoking hF (meth := meth) (c := c) X.method X.code, State.localsInUse_invoking X.frames X.method X.code]
    simp only [State.hasRoom, Bool.and_eq_true, decide_eq_true_eq] at h ⊢
    obtain ⟨⟨⟨⟨h1, h2, h3, h4, h5, h6⟩, h7⟩, h8⟩, h9⟩ := h
    rw [X.frames, List.length_cons] at h2 h3
    have q1 := X.heapSize
    have q2 := X.used
    simp only [hF, hU, List.length_cons, State.stackLimits_setFrames, State.stackBytes_setFrames, hl9, hb9]
    refine ⟨⟨⟨⟨by omega, by omega, by omega, by omega, by omega, h6⟩, ?_⟩, ?_⟩, X.book⟩
    · show T.heap.size + R'.cells ≤ e.platform.maxCells
      omega
    · show T.slotsUsed + R'.slots ≤ e.platform.maxSlots
      omega
  · rw [State.stackLimits_setFrames]; rfl
  · rw [State.stackBytes_setFrames]; rfl
  · refine ⟨?_, Nat.le_refl _, Nat.le_refl _, ?_, ?_, fun a c9 h9 => ⟨c9, h9, rfl, rfl, fun _ _ => rfl⟩⟩
    · obtain ⟨t, ht, -⟩ := State.frames_cons hr
      show T.setVm s.vm = { ((T.setVm s.vm).setFrames (.invoking m args :: below)).setFrames (T.setVm s.vm).frames with heap := T.heap, slotsUsed := T.slotsUsed }
      rw [State.setFrames_setFrames, State.setFrames_self ht]
      rfl
    · show T.slotsUsed = T.slotsUsed + ((T.heap.toList.drop T.heap.size).map (·.slots.size)).sum
      rw [List.drop_eq_nil_of_le (Nat.le_of_eq Array.length_toList)]
      rfl
    · show ((T.heap.toList.drop T.heap.size).map (·.slots.size)).sum ≤ 0
      rw [List.drop_eq_nil_of_le (Nat.le_of_eq Array.length_toList)]
      exact Nat.le_refl _
/-- 'throw new E()': new; dup; invokespecial; athrow -/
theorem vx_throw0 {cc : ByteArray} {pc : Nat} (hexec : p.tables.exec = Jvm.exec) (hb : c.code = cc) (hl : l.stackTraces = false) {own cls : String} {names : List String} {ik ic mc ms : Nat} {A : Nat → Prop}
    (hown : s.vm.findClass own = some m.cls) (hcls : Bundle.fit cls = true) (hnames : ∀ n ∈ names, Bundle.fit n = true)
    (hk : (Cond.classLink own ik cls).before args s = true) (hini : (Cond.initialized cls).before args s = true) (hat : ∀ w ∈ vx_at0 own ic cls names, w.before args s = true)
    (hgood : ∀ w ∈ Cond.classLink own ik cls :: Cond.initialized cls :: vx_at0 own ic cls names, vx_ot w = true)
    (hU : vx_Zq Bundle.tN "UNASSIGNED_STACK" Bundle.steD A s s.heap) (hN : vx_Zq Bundle.tN "SUPPRESSED_SENTINEL" Bundle.listD A s s.heap) (hS : va_S A s.heap H locs) (hsize : ls.size = c.maxLocals)
    (d0 : decode cc pc = .ok (.new ik, 3)) (d3 : decode cc (pc + 3) = .ok (.dup, 1)) (d4 : decode cc (pc + 4) = .ok (.invokespecial ic, 3)) (d7 : decode cc (pc + 7) = .ok (.athrow, 1))
    (hout : ∀ x ∈ c.exceptionTable.toList, covers x (pc + 7) = false)
    (hRframes : names.length + 3 < R.frames) (hRlocals : (rest.map fun v => v.category).sum + (13 * (names.length + 1) + 42) ≤ R.locals) (hRcells : cells + 1 ≤ R.cells) (hRslots : slots + 6 ≤ R.slots) (hlocks : meth.locks = false)
    (hx : ∀ t : State, s.vm.Alike t.vm → H.size ≤ t.heap.size → (∀ q : Nat, q < H.size → t.heap[q]? = H[q]?) → XC cls s t)
    (hf : ∀ z ∈ locs, free z.base) (hc : cells + 1 ≤ mc) (hs : slots + 6 ≤ ms) :
    W p l e R s m args below meth c H locs cells slots (vx_MQ below Qc XC args s mc ms free) (F0 m pc ls rest) := by
  intro T hT X
  have htr : e.platform.stackTraces = false := (show e.platform.stackTraces = l.stackTraces by rw [X.admits.platform]).trans hl
  have Y := vx_rebase X (R' := { frames := R.frames, locals := R.locals, cells := 1, slots := 6 }) (Nat.le_refl _) (Nat.le_refl _) hRcells hRslots
  obtain ⟨s', hA⟩ : ∃ z, z = (T.setVm s.vm).setFrames (.invoking m args :: below) := ⟨_, rfl⟩
  rw [← hA] at Y
  have hvm : s'.vm = s.vm := by rw [hA]; rfl
  have hhp : s'.heap = H := by rw [hA]; exact hT
  have hW0 : s.WarmedH s'.vm := by rw [hvm]; exact State.WarmedH.refl s
  have hat' : ∀ w ∈ vx_at0 own ic cls names, w.before args s' = true := fun w hw => vx_ot_at hW0 hvm.symm (hgood w (List.mem_cons_of_mem _ (List.mem_cons_of_mem _ hw))) (hat w hw)
  have hk' : (Cond.classLink own ik cls).before args s' = true := vx_ot_at hW0 hvm.symm (hgood _ List.mem_cons_self) hk
  have hini' : (Cond.initialized cls).before args s' = true := vx_ot_at hW0 hvm.symm (hgood _ (List.mem_cons_of_mem _ List.mem_cons_self)) hini
  have hU' : vx_Zq Bundle.tN "UNASSIGNED_STACK" Bundle.steD A s' s'.heap := by rw [hhp]; exact vx_Zq.moved hW0.alike (hU.kept hS.2.1)
  have hN' : vx_Zq Bundle.tN "SUPPRESSED_SENTINEL" Bundle.listD A s' s'.heap := by rw [hhp]; exact vx_Zq.moved hW0.alike (hN.kept hS.2.1)
  have h : ∀ w ∈ Bundle.ownAtoms0 own ic cls names, w.before args s' = true := vx_own hat' (vx_isRefq hU'.1) (vx_isRefq hN'.1) hU'.2.word hN'.2.word
  have hown' : s'.vm.findClass own = some m.cls := by rw [hvm]; exact hown
  have hins : (Cond.instantiable cls 6).before args s' = true := h _ (by simp [Bundle.ownAtoms0])
  obtain ⟨vm₁, cX, kX, hfX, hkX, -, -, X₁, st1⟩ := Y.newCold hexec (own := own) (C := cls) (index := ik) (n := 6) hown' hk' hins hini'
    (g := F0 m pc ls rest) rfl (by rw [hb]; exact d0) (Nat.le_refl _) (Nat.le_refl _)
  generalize hT1 : (T.setVm vm₁).pushCell { cls := cX, slots := kX.instanceTypes.map defaultValue, vm := .none } = T1 at X₁ st1
  have hcat : (Value.ref T.heap.size).category = 1 := rfl
  have hcellA : T1.heap[T.heap.size]? = some (freshCell cX kX) := by rw [← hT1]; exact State.heap_pushCell_size _ _
  have d3' : decode c.code (pc + 3) = .ok (.dup, 1) := by rw [hb]; exact d3
  obtain ⟨U, hsteps, hrun, hend, hW, hsame, ce, hce, hO⟩ := X₁.ctorThrow0 hexec htr (own := own) (cls := cls) (names := names) (ic := ic) hown' hcls hnames h (fun x hx => nomatch hx) hfX hkX hcellA (by rw [hhp, hT]; exact Nat.le_refl _)
    (g := { method := m, pc := pc + 4, locals := ls, stack := .ref T.heap.size :: .ref T.heap.size :: rest, locked := none }) rfl hsize rfl rfl (rest := rest) rfl
    (by rw [hb]; exact d4) (by rw [hb]; exact d7) hout hRframes (by simp only [List.map_cons, List.sum_cons, hcat]; omega) hlocks
  obtain ⟨f1, f2⟩ := vx_frame hsame
  rw [hhp] at f1 f2
  have hWs : s.WarmedH U.vm := State.WarmedH.trans hW0 hW
  have hcl : s.vm.findClass cls = some ce.cls := by
    have h9 := hO.cls
    rw [hvm] at h9
    exact h9
  have hall : s.sameButNew ({ U with vm := s.vm } : State) locs mc ms := by
    subst hA
    obtain ⟨e1, e2⟩ := hsame
    rw [State.setFrames_setFrames] at e1
    have h2 : (T.setVm s.vm).sameButNew ({ U with vm := s.vm } : State) [] (0 + 1) (0 + 6) := ⟨e1, e2⟩
    have h3 := X.same.trans h2
    rw [List.append_nil] at h3
    exact h3.mono hc hs
  refine ⟨U, ?_, .threw T.heap.size, hrun, hend, Or.inr ⟨T.heap.size, rfl, cls, ce, locs, hx U hWs.alike f1 (fun q hq => f2 q hq (fun z hz => nomatch hz)), hce, hO.vm, hcl, hWs, hall, hf⟩⟩
  refine st1 _ ?_
  show Steps p.tables e below (T1.setTop { method := m, pc := pc + 3, locals := ls, stack := .ref T.heap.size :: rest, locked := none }) _
  jvm_step X₁.here [X₁.here.top, hexec, d3', Value.category]
  exact hsteps
/-- 'throw new E("text")': new; dup; ldc; invokespecial; athrow -/
theorem vx_throwS {cc : ByteArray} {pc : Nat} (hexec : p.tables.exec = Jvm.exec) (hb : c.code = cc) (hl : l.stackTraces = false) {own cls text : String} {names : List String} {ik is ic mc ms sa : Nat} {A : Nat → Prop}
    (hown : s.vm.findClass own = some m.cls) (hcls : Bundle.fit cls = true) (hnames : ∀ n ∈ names, Bundle.fit n = true)
    (hk : (Cond.classLink own ik cls).before args s = true) (hini : (Cond.initialized cls).before args s = true) (hstr : vk_R own is text sa s) (hat : ∀ w ∈ vx_atS own ic cls names, w.before args s = true)
    (hgood : ∀ w ∈ Cond.classLink own ik cls :: Cond.initialized cls :: vx_atS own ic cls names, vx_ot w = true)
    (hU : vx_Zq Bundle.tN "UNASSIGNED_STACK" Bundle.steD A s s.heap) (hN : vx_Zq Bundle.tN "SUPPRESSED_SENTINEL" Bundle.listD A s s.heap) (hS : va_S A s.heap H locs) (hsize : ls.size = c.maxLocals)
    (d0 : decode cc pc = .ok (.new ik, 3)) (d3 : decode cc (pc + 3) = .ok (.dup, 1)) (d4 : decode cc (pc + 4) = .ok (.ldc is, 2)) (d6 : decode cc (pc + 6) = .ok (.invokespecial ic, 3)) (d9 : decode cc (pc + 9) = .ok (.athrow, 1))
    (hout : ∀ x ∈ c.exceptionTable.toList, covers x (pc + 9) = false)
    (hRframes : names.length + 3 < R.frames) (hRlocals : (rest.map fun v => v.category).sum + (13 * (names.length + 1) + 43) ≤ R.locals) (hRcells : cells + 1 ≤ R.cells) (hRslots : slots + 6 ≤ R.slots) (hlocks : meth.locks = false)
    (hx : ∀ t : State, s.vm.Alike t.vm → H.size ≤ t.heap.size → (∀ q : Nat, q < H.size → t.heap[q]? = H[q]?) → XC cls s t)
    (hf : ∀ z ∈ locs, free z.base) (hc : cells + 1 ≤ mc) (hs : slots + 6 ≤ ms) :
    W p l e R s m args below meth c H locs cells slots (vx_MQ below Qc XC args s mc ms free) (F0 m pc ls rest) := by
  intro T hT X
  have htr : e.platform.stackTraces = false := (show e.platform.stackTraces = l.stackTraces by rw [X.admits.platform]).trans hl
  have Y := vx_rebase X (R' := { frames := R.frames, locals := R.locals, cells := 1, slots := 6 }) (Nat.le_refl _) (Nat.le_refl _) hRcells hRslots
  obtain ⟨s', hA⟩ : ∃ z, z = (T.setVm s.vm).setFrames (.invoking m args :: below) := ⟨_, rfl⟩
  rw [← hA] at Y
  have hvm : s'.vm = s.vm := by rw [hA]; rfl
  have hhp : s'.heap = H := by rw [hA]; exact hT
  have hW0 : s.WarmedH s'.vm := by rw [hvm]; exact State.WarmedH.refl s
  have hat' : ∀ w ∈ vx_atS own ic cls names, w.before args s' = true := fun w hw => vx_ot_at hW0 hvm.symm (hgood w (List.mem_cons_of_mem _ (List.mem_cons_of_mem _ hw))) (hat w hw)
  have hk' : (Cond.classLink own ik cls).before args s' = true := vx_ot_at hW0 hvm.symm (hgood _ List.mem_cons_self) hk
  have hini' : (Cond.initialized cls).before args s' = true := vx_ot_at hW0 hvm.symm (hgood _ (List.mem_cons_of_mem _ List.mem_cons_self)) hini
  have hU' : vx_Zq Bundle.tN "UNASSIGNED_STACK" Bundle.steD A s' s'.heap := by rw [hhp]; exact vx_Zq.moved hW0.alike (hU.kept hS.2.1)
  have hN' : vx_Zq Bundle.tN "SUPPRESSED_SENTINEL" Bundle.listD A s' s'.heap := by rw [hhp]; exact vx_Zq.moved hW0.alike (hN.kept hS.2.1)
  have h : ∀ w ∈ Bundle.ownAtoms own ic cls names, w.before args s' = true := vx_own hat' (vx_isRefq hU'.1) (vx_isRefq hN'.1) hU'.2.word hN'.2.word
  have hown' : s'.vm.findClass own = some m.cls := by rw [hvm]; exact hown
  have hins : (Cond.instantiable cls 6).before args s' = true := h _ (by simp [Bundle.ownAtoms])
  obtain ⟨vm₁, cX, kX, hfX, hkX, -, -, X₁, st1⟩ := Y.newCold hexec (own := own) (C := cls) (index := ik) (n := 6) hown' hk' hins hini'
    (g := F0 m pc ls rest) rfl (by rw [hb]; exact d0) (Nat.le_refl _) (Nat.le_refl _)
  generalize hT1 : (T.setVm vm₁).pushCell { cls := cX, slots := kX.instanceTypes.map defaultValue, vm := .none } = T1 at X₁ st1
  have hcat : (Value.ref T.heap.size).category = 1 := rfl
  have hcellA : T1.heap[T.heap.size]? = some (freshCell cX kX) := by rw [← hT1]; exact State.heap_pushCell_size _ _
  have d3' : decode c.code (pc + 3) = .ok (.dup, 1) := by rw [hb]; exact d3
  have d4' : decode c.code (pc + 4) = .ok (.ldc is, 2) := by rw [hb]; exact d4
  have hstr' : vk_R own is text sa s' := vk_R.warm hW0 hstr
  obtain ⟨U, hsteps, hrun, hend, hW, hsame, ce, hce, hO⟩ := X₁.ctorThrowS hexec htr (own := own) (cls := cls) (names := names) (ic := ic) hown' hcls hnames h (fun x hx => nomatch hx) hfX hkX hcellA (by rw [hhp, hT]; exact Nat.le_refl _) (msg := .ref sa) rfl
    (g := { method := m, pc := pc + 6, locals := ls, stack := .ref sa :: .ref T.heap.size :: .ref T.heap.size :: rest, locked := none }) rfl hsize rfl rfl (rest := rest) rfl
    (by rw [hb]; exact d6) (by rw [hb]; exact d9) hout hRframes (by simp only [List.map_cons, List.sum_cons, hcat]; omega) hlocks
  obtain ⟨f1, f2⟩ := vx_frame hsame
  rw [hhp] at f1 f2
  have hWs : s.WarmedH U.vm := State.WarmedH.trans hW0 hW
  have hcl : s.vm.findClass cls = some ce.cls := by
    have h9 := hO.cls
    rw [hvm] at h9
    exact h9
  have hall : s.sameButNew ({ U with vm := s.vm } : State) locs mc ms := by
    subst hA
    obtain ⟨e1, e2⟩ := hsame
    rw [State.setFrames_setFrames] at e1
    have h2 : (T.setVm s.vm).sameButNew ({ U with vm := s.vm } : State) [] (0 + 1) (0 + 6) := ⟨e1, e2⟩
    have h3 := X.same.trans h2
    rw [List.append_nil] at h3
    exact h3.mono hc hs
  refine ⟨U, ?_, .threw T.heap.size, hrun, hend, Or.inr ⟨T.heap.size, rfl, cls, ce, locs, hx U hWs.alike f1 (fun q hq => f2 q hq (fun z hz => nomatch hz)), hce, hO.vm, hcl, hWs, hall, hf⟩⟩
  refine st1 _ ?_
  show Steps p.tables e below (T1.setTop { method := m, pc := pc + 3, locals := ls, stack := .ref T.heap.size :: rest, locked := none }) _
  jvm_step X₁.here [X₁.here.top, hexec, d3', Value.category]
  exact X₁.ldcString hexec (own := own) (text := text) (index := is) (a := sa) hown' hstr'.1 hstr'.2
    (g := { method := m, pc := pc + 4, locals := ls, stack := .ref T.heap.size :: .ref T.heap.size :: rest, locked := none }) rfl d4' _ hsteps
/-- 'throw new E("text")', the text by a wide index -/
theorem vx_throwSW {cc : ByteArray} {pc : Nat} (hexec : p.tables.exec = Jvm.exec) (hb : c.code = cc) (hl : l.stackTraces = false) {own cls text : String} {names : List String} {ik is ic mc ms sa : Nat} {A : Nat → Prop}
    (hown : s.vm.findClass own = some m.cls) (hcls : Bundle.fit cls = true) (hnames : ∀ n ∈ names, Bundle.fit n = true)
    (hk : (Cond.classLink own ik cls).before args s = true) (hini : (Cond.initialized cls).before args s = true) (hstr : vk_R own is text sa s) (hat : ∀ w ∈ vx_atS own ic cls names, w.before args s = true)
    (hgood : ∀ w ∈ Cond.classLink own ik cls :: Cond.initialized cls :: vx_atS own ic cls names, vx_ot w = true)
    (hU : vx_Zq Bundle.tN "UNASSIGNED_STACK" Bundle.steD A s s.heap) (hN : vx_Zq Bundle.tN "SUPPRESSED_SENTINEL" Bundle.listD A s s.heap) (hS : va_S A s.heap H locs) (hsize : ls.size = c.maxLocals)
    (d0 : decode cc pc = .ok (.new ik, 3)) (d3 : decode cc (pc + 3) = .ok (.dup, 1)) (d4 : decode cc (pc + 4) = .ok (.ldc_w is, 3)) (d7 : decode cc (pc + 7) = .ok (.invokespecial ic, 3)) (d10 : decode cc (pc + 10) = .ok (.athrow, 1))
    (hout : ∀ x ∈ c.exceptionTable.toList, covers x (pc + 10) = false)
    (hRframes : names.length + 3 < R.frames) (hRlocals : (rest.map fun v => v.category).sum + (13 * (names.length + 1) + 43) ≤ R.locals) (hRcells : cells + 1 ≤ R.cells) (hRslots : slots + 6 ≤ R.slots) (hlocks : meth.locks = false)
    (hx : ∀ t : State, s.vm.Alike t.vm → H.size ≤ t.heap.size → (∀ q : Nat, q < H.size → t.heap[q]? = H[q]?) → XC cls s t)
    (hf : ∀ z ∈ locs, free z.base) (hc : cells + 1 ≤ mc) (hs : slots + 6 ≤ ms) :
    W p l e R s m args below meth c H locs cells slots (vx_MQ below Qc XC args s mc ms free) (F0 m pc ls rest) := by
  intro T hT X
  have htr : e.platform.stackTraces = false := (show e.platform.stackTraces = l.stackTraces by rw [X.admits.platform]).trans hl
  have Y := vx_rebase X (R' := { frames := R.frames, locals := R.locals, cells := 1, slots := 6 }) (Nat.le_refl _) (Nat.le_refl _) hRcells hRslots
  obtain ⟨s', hA⟩ : ∃ z, z = (T.setVm s.vm).setFrames (.invoking m args :: below) := ⟨_, rfl⟩
  rw [← hA] at Y
  have hvm : s'.vm = s.vm := by rw [hA]; rfl
  have hhp : s'.heap = H := by rw [hA]; exact hT
  have hW0 : s.WarmedH s'.vm := by rw [hvm]; exact State.WarmedH.refl s
  have hat' : ∀ w ∈ vx_atS own ic cls names, w.before args s' = true := fun w hw => vx_ot_at hW0 hvm.symm (hgood w (List.mem_cons_of_mem _ (List.mem_cons_of_mem _ hw))) (hat w hw)
  have hk' : (Cond.classLink own ik cls).before args s' = true := vx_ot_at hW0 hvm.symm (hgood _ List.mem_cons_self) hk
  have hini' : (Cond.initialized cls).before args s' = true := vx_ot_at hW0 hvm.symm (hgood _ (List.mem_cons_of_mem _ List.mem_cons_self)) hini
  have hU' : vx_Zq Bundle.tN "UNASSIGNED_STACK" Bundle.steD A s' s'.heap := by rw [hhp]; exact vx_Zq.moved hW0.alike (hU.kept hS.2.1)
  have hN' : vx_Zq Bundle.tN "SUPPRESSED_SENTINEL" Bundle.listD A s' s'.heap := by rw [hhp]; exact vx_Zq.moved hW0.alike (hN.kept hS.2.1)
  have h : ∀ w ∈ Bundle.ownAtoms own ic cls names, w.before args s' = true := vx_own hat' (vx_isRefq hU'.1) (vx_isRefq hN'.1) hU'.2.word hN'.2.word
  have hown' : s'.vm.findClass own = some m.cls := by rw [hvm]; exact hown
  have hins : (Cond.instantiable cls 6).before args s' = true := h _ (by simp [Bundle.ownAtoms])
  obtain ⟨vm₁, cX, kX, hfX, hkX, -, -, X₁, st1⟩ := Y.newCold hexec (own := own) (C := cls) (index := ik) (n := 6) hown' hk' hins hini'
    (g := F0 m pc ls rest) rfl (by rw [hb]; exact d0) (Nat.le_refl _) (Nat.le_refl _)
  generalize hT1 : (T.setVm vm₁).pushCell { cls := cX, slots := kX.instanceTypes.map defaultValue, vm := .none } = T1 at X₁ st1
  have hcat : (Value.ref T.heap.size).category = 1 := rfl
  have hcellA : T1.heap[T.heap.size]? = some (freshCell cX kX) := by rw [← hT1]; exact State.heap_pushCell_size _ _
  have d3' : decode c.code (pc + 3) = .ok (.dup, 1) := by rw [hb]; exact d3
  have d4' : decode c.code (pc + 4) = .ok (.ldc_w is, 3) := by rw [hb]; exact d4
  have hstr' : vk_R own is text sa s' := vk_R.warm hW0 hstr
  obtain ⟨U, hsteps, hrun, hend, hW, hsame, ce, hce, hO⟩ := X₁.ctorThrowS hexec htr (own := own) (cls := cls) (names := names) (ic := ic) hown' hcls hnames h (fun x hx => nomatch hx) hfX hkX hcellA (by rw [hhp, hT]; exact Nat.le_refl _) (msg := .ref sa) rfl
    (g := { method := m, pc := pc + 7, locals := ls, stack := .ref sa :: .ref T.heap.size :: .ref T.heap.size :: rest, locked := none }) rfl hsize rfl rfl (rest := rest) rfl
    (by rw [hb]; exact d7) (by rw [hb]; exact d10) hout hRframes (by simp only [List.map_cons, List.sum_cons, hcat]; omega) hlocks
  obtain ⟨f1, f2⟩ := vx_frame hsame
  rw [hhp] at f1 f2
  have hWs : s.WarmedH U.vm := State.WarmedH.trans hW0 hW
  have hcl : s.vm.findClass cls = some ce.cls := by
    have h9 := hO.cls
    rw [hvm] at h9
    exact h9
  have hall : s.sameButNew ({ U with vm := s.vm } : State) locs mc ms := by
    subst hA
    obtain ⟨e1, e2⟩ := hsame
    rw [State.setFrames_setFrames] at e1
    have h2 : (T.setVm s.vm).sameButNew ({ U with vm := s.vm } : State) [] (0 + 1) (0 + 6) := ⟨e1, e2⟩
    have h3 := X.same.trans h2
    rw [List.append_nil] at h3
    exact h3.mono hc hs
  refine ⟨U, ?_, .threw T.heap.size, hrun, hend, Or.inr ⟨T.heap.size, rfl, cls, ce, locs, hx U hWs.alike f1 (fun q hq => f2 q hq (fun z hz => nomatch hz)), hce, hO.vm, hcl, hWs, hall, hf⟩⟩
  refine st1 _ ?_
  show Steps p.tables e below (T1.setTop { method := m, pc := pc + 3, locals := ls, stack := .ref T.heap.size :: rest, locked := none }) _
  jvm_step X₁.here [X₁.here.top, hexec, d3', Value.category]
  exact X₁.ldcStringW hexec (own := own) (text := text) (index := is) (a := sa) hown' hstr'.1 hstr'.2
    (g := { method := m, pc := pc + 4, locals := ls, stack := .ref T.heap.size :: .ref T.heap.size :: rest, locked := none }) rfl d4' _ hsteps
end Ends
section Bodies
variable {l : Launch}
theorem vx_ofW {y : MethodName} {ws ws' : List Cond} {rm : Room} {Pc : Array Value → State → Prop} {Qc : Array Value → State → Outcome → State → Prop} {XC : String → State → State → Prop} {mc ms : Nat} {free : Addr → Prop} {cc : ByteArray} {maxL : Nat} {ret : Option FieldType}
    (hy : plainName y.cls = true) (hw : ws = Cond.code y cc maxL ret :: ws')
    (body : ∀ p e s m args below meth c s₁, BodyLoose p l y (headSpec ws rm) cc maxL ret e s m args below meth c s₁ → c.maxLocals = maxL → (∀ x ∈ c.exceptionTable.toList, False) → Pc args s →
      W p l e (headSpec ws rm).room s m args below meth c s.heap [] 0 0 (vx_MQ below Qc XC args s mc ms free) (entryFrame m args maxL)) : vx_Met l y ws rm Pc Qc XC mc ms free := by
  refine MetFree.of_bodyS (code := cc) (maxLocals := maxL) (ret := ret) hy ?_ ?_
  · intro args s m h hn
    obtain ⟨meth, c, h1, h2, h3, h4, h5, h6, -, -⟩ := Cond.code_spec hn (atoms_spec (ws := ws) h _ (by rw [hw]; exact List.mem_cons_self))
    exact ⟨meth, c, h1, h2, h3, h4, h5, h6⟩
  · intro p e s m args below meth c s₁ B hml hP _
    have hh0 : s₁.heap = s.heap := by rw [B.state]; rfl
    have ht : ∀ x ∈ c.exceptionTable.toList, False := by
      obtain ⟨meth9, c9, h1, h2, -, -, -, -, h7, -⟩ := Cond.code_spec B.named (atoms_spec (ws := ws) B.pre _ (by rw [hw]; exact List.mem_cons_self))
      cases Option.some.inj (h1.symm.trans B.method)
      cases Option.some.inj (h2.symm.trans (Stand.of_body B).code)
      intro x hx
      rw [Array.isEmpty_iff.mp h7] at hx
      cases hx
    obtain ⟨t, a1, o, b1, b2, b3⟩ := body p e s m args below meth c s₁ B hml ht hP s₁ hh0 (Stand.of_body B)
    exact ⟨t, o, a1, b1, b2, b3⟩
/-- the table of a body with handlers -/
theorem vx_table {p : Program} {x y : MethodName} {S : Spec} {cc bytes : ByteArray} {maxL maxL' : Nat} {ret ret' : Option FieldType} {e : Env} {s s₁ : State} {m : MethodId} {args : Array Value} {below : List Frame} {meth : Method} {c : Code} {hh : List (Nat × Nat × Nat × Nat)}
    (B : BodyLoose p l y S cc maxL ret e s m args below meth c s₁) (h : (Cond.codeWith y bytes maxL' ret' hh).before args s = true) : c.exceptionTable.toList = tableOf hh := by
  obtain ⟨m9, meth9, c9, hn9, h1, h2, -, -, h6, -⟩ := Cond.codeWith_spec h
  cases Option.some.inj (hn9.symm.trans B.named)
  cases Option.some.inj (h1.symm.trans B.method)
  cases Option.some.inj (h2.symm.trans (Stand.of_body B).code)
  rw [← h6, table_eq]
end Bodies
end VXA
/-! ===== END ===== -/
/-! ===== BEGIN a static call of a method with an exception table ===== -/
section VXS
variable {p : Program} {l : Launch} {e : Env} {R : Room} {s : State} {m : MethodId} {args : Array Value} {below : List Frame} {meth : Method} {c : Code} {T : State} {H : Heap} {locs : List Loc} {cells slots : Nat}
abbrev vx_CSW (R : Room) (s : State) (args : Array Value) (own : String) (index : Nat) (y : MethodName) (bytes : ByteArray) (maxL : Nat) (ret : Option FieldType) (hh : List (Nat × Nat × Nat × Nat)) (ws : List Cond) (rm : Room) (mc ms n : Nat) : Prop :=
  (rm.cells = mc ∧ rm.slots = ms ∧ rm.frames + 1 ≤ R.frames ∧ 8 + (maxL + 11) + rm.locals ≤ R.locals ∧ (∀ w ∈ ws, ∀ (a' : Array Value) (U : State), s.WarmedH U.vm → w.before a' U = true) ∧ Cond.codeWith y bytes maxL ret hh ∈ ws) ∧
  (Cond.codeWith y bytes maxL ret hh).before args s = true ∧ (Cond.initialized y.cls).before args s = true ∧ (y.cls ≠ "java/lang/invoke/MethodHandle" ∧ y.cls ≠ "java/lang/invoke/VarHandle") ∧
  (∀ sig, parseMethodDescriptor y.desc = some sig → n = sig.parameters.length) ∧ (Cond.methodLink own index y).before args s = true ∧ (Cond.static y).before args s = true
theorem vx_cwSW {own : String} {index maxL mc ms : Nat} {y : MethodName} {bytes : ByteArray} {ret : Option FieldType} {hh : List (Nat × Nat × Nat × Nat)} {Ts ws ws' : List Cond} {rm : Room} (n : Nat) (ht : ∀ w ∈ Ts, w.before args s = true) (hT : GoodIn Ts (va_wsS own index y ws)) (hw : ws = Cond.codeWith y bytes maxL ret hh :: ws') (hrc : rm.cells = mc) (hrs : rm.slots = ms)
    (hd : y.cls ≠ "java/lang/invoke/MethodHandle" ∧ y.cls ≠ "java/lang/invoke/VarHandle" ∧ (parseMethodDescriptor y.desc).map (fun d => d.parameters.length) = some n) (hR : rm.frames + 1 ≤ R.frames ∧ 8 + (maxL + 11) + rm.locals ≤ R.locals) :
    vx_CSW R s args own index y bytes maxL ret hh ws rm mc ms n := by
  have ok : ∀ w ∈ va_wsS own index y ws, w.before args s = true := fun w h => ht w (hT w h).1
  have hG : GoodIn Ts ws := fun w h => hT w (by unfold va_wsS; exact List.mem_append_right _ h)
  have hc : Cond.codeWith y bytes maxL ret hh ∈ ws := by rw [hw]; exact List.mem_cons_self
  refine ⟨⟨hrc, hrs, hR.1, hR.2, pay_in ht hG, hc⟩, ht _ (hG _ hc).1, ok _ (by simp [va_wsS]), ⟨hd.1, hd.2.1⟩, fun sig h => ?_, ok _ (by simp [va_wsS]), ok _ (by simp [va_wsS])⟩
  have h2 := hd.2.2
  rw [h] at h2
  exact (Option.some.inj h2).symm
theorem vx_callSW (X : Stand p l e R s m args below meth c T locs cells slots) (hexec : p.tables.exec = Jvm.exec) {own : String} {index : Nat} {y : MethodName} {bytes : ByteArray} {maxL : Nat} {ret : Option FieldType} {hh : List (Nat × Nat × Nat × Nat)}
    (hown : s.vm.findClass own = some m.cls) (hlink : (Cond.methodLink own index y).before args s = true) (hstat : (Cond.static y).before args s = true) (hinit : (Cond.initialized y.cls).before args s = true)
    (hcode : (Cond.codeWith y bytes maxL ret hh).before args s = true) (hy : y.cls ≠ "java/lang/invoke/MethodHandle" ∧ y.cls ≠ "java/lang/invoke/VarHandle")
    {W9 : Nat} {Pre : Pt → Array Value → Prop} {Post : Pt → Array Value → Option Value → Pt → Prop} (hK : Back l R p e below s args y 3 W9 Pre Post)
    {g : JFrame} (hg : g.method = m) (hsize : g.locals.size = c.maxLocals) {argsL rest : List Value} (hlen : ∀ sig, parseMethodDescriptor y.desc = some sig → argsL.length = sig.parameters.length)
    (hstack : g.stack = argsL.reverse ++ rest) (hW : 2 * g.monitorRoom + (rest.map fun v => v.category).sum ≤ W9) (hdg : decode c.code g.pc = .ok (.invokestatic index, 3))
    (hpre : ∀ vm₁, s.WarmedH vm₁ → Pre ⟨T.setVm vm₁, locs, cells, slots⟩ argsL.toArray) :
    ∃ (v : Option Value) (vm₁ : Vm) (B : Pt), s.WarmedH vm₁ ∧ Stand p l e R s m args below meth c B.U B.locs B.cells B.slots ∧ Post ⟨T.setVm vm₁, locs, cells, slots⟩ argsL.toArray v B ∧
      ∀ target, Steps p.tables e below (B.U.setTop { g with pc := g.pc + 3, stack := v.toList ++ rest }) target → Steps p.tables e below (T.setTop g) target := by
  obtain ⟨mk, methM, cM, hnamed, hmethM, -, -, -, -, -, -, hsigM⟩ := Cond.codeWith_spec hcode
  have hstatic : methM.isStatic = true := Cond.static_spec hnamed hmethM hstat
  obtain ⟨kP, hkP, -⟩ := className_of_methodNamed hnamed
  have hinitP : kP.init = .initialized := Cond.initialized_spec (findClass_of_methodNamed hnamed) hkP hinit
  obtain ⟨vm₁, X₁, hstep₁⟩ := X.invokestatic hexec hown hlink hnamed hmethM hstatic hkP hinitP hy (g := g) hg (argsL := argsL) (rest := rest) (hlen _ hsigM) hstack hdg
  obtain ⟨v, B, X', hpost, hsteps⟩ := hK m meth c ⟨T.setVm vm₁, locs, cells, slots⟩ { g with stack := rest } (.invokestatic index) mk argsL.toArray X₁ hg hsize hdg hW (X₁.named hnamed) (hpre vm₁ X₁.warmed)
  exact ⟨v, vm₁, B, X₁.warmed, X', hpost, fun target h => hstep₁ _ fun acts => by rw [doInvoke_state]; exact hsteps.trans h⟩
theorem vx_runSW {y : MethodName} {bytes cc : ByteArray} {maxL nL mc ms n index : Nat} {ret : Option FieldType} {hh : List (Nat × Nat × Nat × Nat)} {ws : List Cond} {rm : Room} {Pc : Array Value → State → Prop} {Qc : Array Value → State → Outcome → State → Prop} {free : Addr → Prop} {Ts : List Cond} {own : String} {As rest : List Value} {g : JFrame}
    (S : CallFix p m c cc nL s args Ts own) (hM : Met l y ws rm Pc Qc mc ms free) (cw : vx_CSW R s args own index y bytes maxL ret hh ws rm mc ms n) (hp : PreS s H Pc As)
    (hg : g.method = m) (hn : As.length = n) (hsize : g.locals.size = nL) (hstack : g.stack = As.reverse ++ rest) (hW : 2 * g.monitorRoom + (rest.map fun v => v.category).sum ≤ 8) (hdg : decode cc g.pc = .ok (.invokestatic index, 3)) (hf : cells + mc ≤ R.cells ∧ slots + ms ≤ R.slots) :
    va_Run p l e R s m args below meth c H locs cells slots mc ms g rest (Qc As.toArray) (free) := by
  obtain ⟨⟨hrc, hrs, hfr, hlo, hws, hcw⟩, hcode, hini, hy, hlen, hl, hstt⟩ := cw
  have hK : Back l R p e below s args y 3 8 (PreOf R mc ms Pc) (PostOf Qc mc ms free) := va_backW (hh := hh) (bytes := bytes) (maxL := maxL) (ret := ret) hM hp.1 hrc hrs hfr hlo hws hcw (fun a' U hW => word_at hW (Or.inl (by first | rfl | simp [Cond.onTables, Cond.keeps, Cond.steady])) hini)
  obtain ⟨hx, hb, hml, ho, -⟩ := S
  intro T hT X
  obtain ⟨v, vm₁, ⟨U', l2, c2, s2⟩, hW₁, X', ⟨g', mk, t, L, e1, e2, hq, h1, hL, h2, h3⟩, st⟩ := vx_callSW X hx (hh := hh) (bytes := bytes) (maxL := maxL) (ret := ret) ho hl hstt hini hcode hy hK hg (hsize.trans hml.symm) (argsL := As) (rest := rest) (fun sig h => hn.trans (hlen sig h)) hstack hW (by rw [hb]; exact hdg)
    (fun vm₁ hW₁ => ⟨hf.1, hf.2, hp.2 (T.setVm vm₁) hT hW₁⟩)
  dsimp only [Pt.U, Pt.locs, Pt.cells, Pt.slots] at X' e1 e2 h1 h2 h3 st
  subst h1; subst h2; subst h3
  exact ⟨v, (T.setVm vm₁).calling g' mk As.toArray, t, U', L, hT, X', hL, e1, e2, hq, st⟩
/-- not caught here, past rows that name other classes: it goes on to the caller -/
theorem vx_outP {p : Program} {l : Launch} {e : Env} {R : Room} {s : State} {m : MethodId} {args : Array Value} {below : List Frame} {meth : Method} {c : Code} {H : Heap} {locs : List Loc} {cells slots : Nat} {free : Addr → Prop} {ls : Array Slot} {rest : List Value} {Qc : Array Value → State → Outcome → State → Prop} {XC : String → State → State → Prop}
    {pc : Nat} {own E : String} {ce : Cell} {q : Addr} {mc ms : Nat} (hown : s.vm.findClass own = some m.cls) (hlocks : meth.locks = false)
    (hpass : ∀ z ∈ c.exceptionTable.toList, covers z pc = false ∨ (z.catchType ≠ 0 ∧ ∃ nm : String, (Cond.classLink own z.catchType nm).before args s = true ∧ va_Nc E nm s)) (hcell : H[q]? = some ce) (hv : ce.vm = .none) (hcl : s.vm.findClass E = some ce.cls)
    (hx : ∀ t : State, t.heap = H → s.vm.Alike t.vm → XC E s t) (hf : ∀ z ∈ locs, free z.base) (hc : cells ≤ mc) (hs : slots ≤ ms) :
    vx_W p l e R s m args below meth c H locs cells slots (vx_MQ below Qc XC args s mc ms free) (F0 m pc ls rest) q := by
  intro T hT X
  have hpl : e.platform.magicAccessors = ({} : Platform).magicAccessors := by rw [X.admits.platform]
  obtain ⟨vm', hW', X', st⟩ := X.outThrough hlocks q (g := F0 m pc ls rest) rfl rfl rfl (cell := ce) (by rw [hT]; exact hcell) (by rw [hv]; rfl)
    (by obtain ⟨k9, h9, -⟩ := Vm.findClass_spec hcl; exact ⟨k9, h9⟩) (fun z hz => by
      rcases hpass z hz with h | ⟨hz0, nm, hl1, hn1⟩
      · exact Or.inl h
      · obtain ⟨c6, hc6, hcl6⟩ := Cond.classLink_spec hown hl1 e.platform hpl
        obtain ⟨a8, b8, h1, h2, h3⟩ := hn1
        cases Option.some.inj (h1.symm.trans hcl)
        cases Option.some.inj (h2.symm.trans hc6)
        exact Or.inr ⟨hz0, _, hcl6, h3⟩)
  obtain ⟨g₀, hfr⟩ := X'.frames_eq
  have hcell9 : ((T.setVm vm').setFrames (.throwing q :: below)).heap[q]? = some ce := by
    show T.heap[q]? = some ce
    rw [hT]; exact hcell
  have hend : Ended ((T.setVm vm').setFrames (.throwing q :: below)) below (.threw q) := State.frames_setFrames _ (State.cur_lt_of_frames hfr)
  refine ⟨(T.setVm vm').setFrames (.throwing q :: below), ?_, .threw q, X'.here.running, hend, Or.inr ⟨q, rfl, E, ce, locs, hx _ hT (X'.ends _).1.alike, hcell9, hv, hcl, (X'.ends _).1, (X'.ends _).2.mono hc hs, hf⟩⟩
  rw [X.pushThrowing_eq]
  exact st
/-- a thing of a world lies in the heap -/
theorem vx_lt {D : va_G} {cl : List vw_C} {ws : va_W} {H1 : Heap} (h : va_P D cl ws H1) {k : Nat} {q : Nat × va_E} (hk : ws[k]? = some q) : q.1 < H1.size := (h k q hk).lt
end VXS
/-! ===== END ===== -/
/-! ===== BEGIN methods with a table of their own: called by a name, returning or throwing ===== -/
section VXH
/-! vx_backW, vx_callVX, vx_callSX, vx_callVW, vx_runVW, vx_runVX, vx_runSX, vx_ofWH follow the same proofs as their sisters above (Free/Laws.lean, Shelf42/LK1.lean); vx_outP calls Shelf42/NT130.lean (outThrough). -/
section
variable {l : Launch} {R : Room} {p : Program} {e : Env} {below : List Frame} {s : State} {sargs : Array Value} {y : MethodName} {len W9 : Nat}
theorem vx_backW {ws : List Cond} {rm : Room} {Pc : Array Value → State → Prop} {Qc : Array Value → State → Outcome → State → Prop} {XC : String → State → State → Prop} {mc ms : Nat} {free : Addr → Prop} {bytes : ByteArray} {maxL : Nat} {ret : Option FieldType} {hh : List (Nat × Nat × Nat × Nat)}
    (hM : vx_Met l y ws rm Pc Qc XC mc ms free) (hblind : FrameBlind Pc) (hrc : rm.cells = mc) (hrs : rm.slots = ms)
    (hframes : rm.frames + 1 ≤ R.frames) (hlocals : W9 + (maxL + 11) + rm.locals ≤ R.locals)
    (hws : ∀ w ∈ ws, ∀ a' U, s.WarmedH U.vm → w.before a' U = true) (hcode : Cond.codeWith y bytes maxL ret hh ∈ ws) (hinit : ∀ a' U, s.WarmedH U.vm → (Cond.initialized y.cls).before a' U = true) :
    vx_Back l R p e below s sargs y len W9 (PreOf R mc ms Pc) (PostOf Qc mc ms free) (vx_Post XC mc ms free) := by
  intro m meth c A g ig mk a X hg hsize hdg hW hn hp
  have h1 : (headSpec ws rm).pre.before a A.U = true := atoms_intro fun w hw => hws w hw _ _ X.warmed
  have h2 : (Cond.codeWith y bytes maxL ret hh).before a A.U = true := hws _ hcode _ _ X.warmed
  have h3 : (Cond.initialized y.cls).before a A.U = true := hinit _ _ X.warmed
  have h4 : A.cells + (headSpec ws rm).room.cells ≤ R.cells := by rw [show (headSpec ws rm).room.cells = mc from hrc]; exact hp.1
  have h5 : A.slots + (headSpec ws rm).room.slots ≤ R.slots := by rw [show (headSpec ws rm).room.slots = ms from hrs]; exact hp.2.1
  have hPc : Pc a (A.U.calling g mk a) := hblind _ _ _ _ hp.2.2
  obtain ⟨U, Ls, c0, s0⟩ := A
  dsimp only [Pt.U, Pt.locs, Pt.cells, Pt.slots] at h1 h2 h3 h4 h5 X hn hPc ⊢
  obtain ⟨m9, methY, cY, hn9, hmY, hcY, -, hlY, -⟩ := Cond.codeWith_spec h2
  cases Option.some.inj (hn9.symm.trans hn)
  obtain ⟨kY, hkY, -⟩ := className_of_methodNamed hn
  have hinitY : kY.init = .initialized := Cond.initialized_spec (findClass_of_methodNamed hn) hkY h3
  have h : At U g.method c below := by rw [hg]; exact X.here
  have hlocals9 : W9 + (maxL + 11) + (headSpec ws rm).room.locals ≤ R.locals := hlocals
  have happ : (headSpec ws rm).appliesLoose y e.platform (U.calling g mk a) = true :=
    Spec.appliesLoose_calling (g := g) h hdg hn hkY hinitY
      (X.room_calling (g := g) (R' := (headSpec ws rm).room) hsize hmY hcY hframes (by rw [hlY]; omega) h4 h5) h1
  obtain ⟨mid, hmid⟩ := h.above
  have hfr : (U.setTop g).frames = (.java g :: mid) ++ below := by rw [State.frames_setTop' g h.top, hmid]; rfl
  obtain ⟨o, s₂, hsteps, -, hend, hq⟩ := Steps.callFree hM p X.admits X.cas X.clock (acts := []) hfr happ hPc trivial
  have hq' : vx_Q Qc XC mc ms free a (U.calling g mk a) o s₂ := hq
  rw [State.frames_setTop' g h.top] at hend
  obtain ⟨g₀, hg0⟩ := Option.isSome_iff_exists.mp h.top
  obtain ⟨r, hr⟩ := State.topJava?_eq_some.mp hg0
  have hr' : (({ U with heap := s₂.heap, slotsUsed := s₂.slotsUsed } : State).setVm s₂.vm).frames = .java g₀ :: r := hr
  rcases hq' with ⟨hqc, L, hfe, hL⟩ | ⟨q, rfl, E, ce, L, hx, hce, hcv, hcl, hW₂, hsm, hL⟩
  · obtain ⟨⟨v, rfl⟩, hW₂, e2, q2, q3, q4, q5, q6⟩ := id hfe
    have e3 : s₂ = ({ (U.calling g mk a).setFrames s₂.frames with heap := s₂.heap, slotsUsed := s₂.slotsUsed } : State).setVm s₂.vm := by
      have : s₂ = ({ s₂ with vm := (U.calling g mk a).vm } : State).setVm s₂.vm := rfl
      rw [e2] at this
      exact this
    obtain ⟨c₂, i₂, len₂, hc₂, hd₂, hf₂⟩ := hend
    have hW' : U.WarmedH s₂.vm := hW₂
    have hcc : c₂ = c := by
      have h1 : s₂.code? g.method = U.code? g.method := by
        rw [State.code?_eq, State.code?_eq, hW'.alike.method?]
      exact Option.some.inj (hc₂.symm.trans (h1.trans h.code))
    subst hcc
    have hlen : len₂ = len := by rw [hdg] at hd₂; cases hd₂; rfl
    subst hlen
    have hs₂ : s₂ = (({ U with heap := s₂.heap, slotsUsed := s₂.slotsUsed } : State).setVm s₂.vm).setTop { g with pc := g.pc + len₂, stack := v.toList ++ g.stack } := by
      refine e3.trans ?_
      rw [hf₂, State.calling_eq h.top, State.setFrames_setFrames, State.setTop_of_frames _ hr', hr]
      rfl
    have hsame : U.sameButNew ({ U with heap := s₂.heap, slotsUsed := s₂.slotsUsed } : State) L mc ms := by
      refine ⟨?_, q2, q3, q4, q5, q6⟩
      obtain ⟨t, ht, -⟩ := State.frames_cons hr
      show ({ U with heap := s₂.heap, slotsUsed := s₂.slotsUsed } : State) = { U.setFrames U.frames with heap := s₂.heap, slotsUsed := s₂.slotsUsed }
      rw [State.setFrames_self ht]
    subst hg
    refine Or.inl ⟨v, ⟨(({ U with heap := s₂.heap, slotsUsed := s₂.slotsUsed } : State).setVm s₂.vm), Ls ++ L, c0 + mc, s0 + ms⟩,
      ⟨X.admits, X.cas, X.clock, X.frames, X.room, X.hears, X.method, X.code, (X.here.setHeapUsed s₂.heap s₂.slotsUsed).setVm hW'.alike, X.tail, State.WarmedH.trans X.warmed hW', X.limits, X.bytes, X.same.trans (hsame.setVm s.vm)⟩,
      ⟨g, mk, s₂, L, rfl, rfl, hqc, rfl, hL, rfl, rfl⟩, ?_⟩
    show Steps p.tables e below _ ((({ U with heap := s₂.heap, slotsUsed := s₂.slotsUsed } : State).setVm s₂.vm).setTop { g with pc := g.pc + len₂, stack := v.toList ++ g.stack })
    rw [← hs₂]
    exact hsteps
  · obtain ⟨e2, q2, q3, q4, q5, q6⟩ := id hsm
    have e3 : s₂ = ({ (U.calling g mk a).setFrames s₂.frames with heap := s₂.heap, slotsUsed := s₂.slotsUsed } : State).setVm s₂.vm := by
      have : s₂ = ({ s₂ with vm := (U.calling g mk a).vm } : State).setVm s₂.vm := rfl
      rw [e2] at this
      exact this
    have hf₂ : s₂.frames = .throwing q :: .java g :: U.frames.tail := hend
    have hW' : U.WarmedH s₂.vm := hW₂
    have hs₂ : s₂ = ((({ U with heap := s₂.heap, slotsUsed := s₂.slotsUsed } : State).setVm s₂.vm).setTop g).pushFrame (.throwing q) := by
      refine e3.trans ?_
      rw [hf₂, State.calling_eq h.top, State.setFrames_setFrames, State.pushFrame, State.frames_setTop _ hr', State.setTop_of_frames _ hr', State.setFrames_setFrames, hr]
      rfl
    have hsame : U.sameButNew ({ U with heap := s₂.heap, slotsUsed := s₂.slotsUsed } : State) L mc ms := by
      refine ⟨?_, q2, q3, q4, q5, q6⟩
      obtain ⟨t, ht, -⟩ := State.frames_cons hr
      show ({ U with heap := s₂.heap, slotsUsed := s₂.slotsUsed } : State) = { U.setFrames U.frames with heap := s₂.heap, slotsUsed := s₂.slotsUsed }
      rw [State.setFrames_self ht]
    subst hg
    refine Or.inr ⟨q, ⟨(({ U with heap := s₂.heap, slotsUsed := s₂.slotsUsed } : State).setVm s₂.vm), Ls ++ L, c0 + mc, s0 + ms⟩,
      ⟨X.admits, X.cas, X.clock, X.frames, X.room, X.hears, X.method, X.code, (X.here.setHeapUsed s₂.heap s₂.slotsUsed).setVm hW'.alike, X.tail, State.WarmedH.trans X.warmed hW', X.limits, X.bytes, X.same.trans (hsame.setVm s.vm)⟩,
      ⟨g, mk, s₂, L, E, ce, rfl, rfl, hx, hce, hcv, hcl, rfl, hL, rfl, rfl⟩, ?_⟩
    show Steps p.tables e below _ (((({ U with heap := s₂.heap, slotsUsed := s₂.slotsUsed } : State).setVm s₂.vm).setTop g).pushFrame (.throwing q))
    rw [← hs₂]
    exact hsteps
end
variable {p : Program} {l : Launch} {e : Env} {R : Room} {s : State} {m : MethodId} {args : Array Value} {below : List Frame} {meth : Method} {c : Code} {T : State} {H : Heap} {locs : List Loc} {cells slots : Nat}
theorem vx_callVX (X : Stand p l e R s m args below meth c T locs cells slots) (hexec : p.tables.exec = Jvm.exec) {own C : String} {index : Nat} {y : MethodName} {bytes : ByteArray} {maxL : Nat} {ret : Option FieldType} {hh : List (Nat × Nat × Nat × Nat)}
    (hown : s.vm.findClass own = some m.cls) (hlink : (Cond.methodLink own index y).before args s = true) (hinst : (Cond.instanceMethod y).before args s = true) (hsel : (Cond.selects C y y).before args s = true)
    (hcode : (Cond.codeWith y bytes maxL ret hh).before args s = true) (hy : y.cls ≠ "java/lang/invoke/MethodHandle" ∧ y.cls ≠ "java/lang/invoke/VarHandle")
    {W9 : Nat} {Pre : Pt → Array Value → Prop} {Post : Pt → Array Value → Option Value → Pt → Prop} {PostX : Pt → Array Value → Addr → Pt → Prop} (hK : vx_Back l R p e below s args y 3 W9 Pre Post PostX)
    {b : Addr} {cellB : Cell} (hcell : T.heap[b]? = some cellB) (hobj : cellB.vm.isStatics = false) (hcls : s.vm.findClass C = some cellB.cls)
    {g : JFrame} (hg : g.method = m) (hsize : g.locals.size = c.maxLocals) {argsL rest : List Value} (hlen : ∀ sig, parseMethodDescriptor y.desc = some sig → argsL.length = sig.parameters.length)
    (hstack : g.stack = argsL.reverse ++ .ref b :: rest) (hW : 2 * g.monitorRoom + (rest.map fun v => v.category).sum ≤ W9) (hdg : decode c.code g.pc = .ok (.invokevirtual index, 3))
    (hpre : ∀ vm₁, s.WarmedH vm₁ → Pre ⟨T.setVm vm₁, locs, cells, slots⟩ (Value.ref b :: argsL).toArray) :
    (∃ (v : Option Value) (vm₁ : Vm) (B : Pt), s.WarmedH vm₁ ∧ Stand p l e R s m args below meth c B.U B.locs B.cells B.slots ∧ Post ⟨T.setVm vm₁, locs, cells, slots⟩ (Value.ref b :: argsL).toArray v B ∧
      ∀ target, Steps p.tables e below (B.U.setTop { g with pc := g.pc + 3, stack := v.toList ++ rest }) target → Steps p.tables e below (T.setTop g) target) ∨
    (∃ (q : Addr) (vm₁ : Vm) (B : Pt), s.WarmedH vm₁ ∧ Stand p l e R s m args below meth c B.U B.locs B.cells B.slots ∧ PostX ⟨T.setVm vm₁, locs, cells, slots⟩ (Value.ref b :: argsL).toArray q B ∧
      Steps p.tables e below (T.setTop g) ((B.U.setTop { g with stack := rest }).pushFrame (.throwing q))) := by
  obtain ⟨mk, methM, hnamed, hmethM, hstM, habM⟩ := Cond.instanceMethod_spec hinst
  obtain ⟨m8, methM', cM, hn8, hmethM', -, -, -, -, -, -, hsigM⟩ := Cond.codeWith_spec hcode
  cases Option.some.inj (hn8.symm.trans hnamed)
  cases hmethM.symm.trans hmethM'
  obtain ⟨c2, r2, m2, q1, q2, q3, q4, kP, hkP, hkPi⟩ := Cond.selects_spec hsel
  cases hcls.symm.trans q1
  cases (State.methodFound?_of_named hnamed hy).symm.trans q2
  cases hnamed.symm.trans q3
  have hselP : selectMethod e.platform s.vm cellB.cls mk = .method mk := by rw [Launch.admits_selectMethod X.admits]; exact q4
  obtain ⟨vm₁, X₁, hstep₁⟩ := X.invokevirtual hexec hown hlink hnamed hmethM hstM hkP hkPi hy (a := b) (cell := cellB) hcell
    (fun z h => by rw [h] at hobj; cases hobj) hselP hmethM habM hkP hkPi (g := g) hg (argsL := argsL) (rest := rest) (hlen _ hsigM) hstack hdg
  rcases hK m meth c ⟨T.setVm vm₁, locs, cells, slots⟩ { g with stack := rest } (.invokevirtual index) mk (Value.ref b :: argsL).toArray X₁ hg hsize hdg hW (X₁.named hnamed) (hpre vm₁ X₁.warmed) with ⟨v, B, X', hpost, hsteps⟩ | ⟨q, B, X', hpost, hsteps⟩
  · exact Or.inl ⟨v, vm₁, B, X₁.warmed, X', hpost, fun target h => hstep₁ _ fun acts => by rw [doInvoke_state]; exact hsteps.trans h⟩
  · exact Or.inr ⟨q, vm₁, B, X₁.warmed, X', hpost, hstep₁ _ fun acts => by rw [doInvoke_state]; exact hsteps⟩
theorem vx_callSX (X : Stand p l e R s m args below meth c T locs cells slots) (hexec : p.tables.exec = Jvm.exec) {own : String} {index : Nat} {y : MethodName} {bytes : ByteArray} {maxL : Nat} {ret : Option FieldType} {hh : List (Nat × Nat × Nat × Nat)}
    (hown : s.vm.findClass own = some m.cls) (hlink : (Cond.methodLink own index y).before args s = true) (hstat : (Cond.static y).before args s = true) (hinit : (Cond.initialized y.cls).before args s = true)
    (hcode : (Cond.codeWith y bytes maxL ret hh).before args s = true) (hy : y.cls ≠ "java/lang/invoke/MethodHandle" ∧ y.cls ≠ "java/lang/invoke/VarHandle")
    {W9 : Nat} {Pre : Pt → Array Value → Prop} {Post : Pt → Array Value → Option Value → Pt → Prop} {PostX : Pt → Array Value → Addr → Pt → Prop} (hK : vx_Back l R p e below s args y 3 W9 Pre Post PostX)
    {g : JFrame} (hg : g.method = m) (hsize : g.locals.size = c.maxLocals) {argsL rest : List Value} (hlen : ∀ sig, parseMethodDescriptor y.desc = some sig → argsL.length = sig.parameters.length)
    (hstack : g.stack = argsL.reverse ++ rest) (hW : 2 * g.monitorRoom + (rest.map fun v => v.category).sum ≤ W9) (hdg : decode c.code g.pc = .ok (.invokestatic index, 3))
    (hpre : ∀ vm₁, s.WarmedH vm₁ → Pre ⟨T.setVm vm₁, locs, cells, slots⟩ argsL.toArray) :
    (∃ (v : Option Value) (vm₁ : Vm) (B : Pt), s.WarmedH vm₁ ∧ Stand p l e R s m args below meth c B.U B.locs B.cells B.slots ∧ Post ⟨T.setVm vm₁, locs, cells, slots⟩ argsL.toArray v B ∧
      ∀ target, Steps p.tables e below (B.U.setTop { g with pc := g.pc + 3, stack := v.toList ++ rest }) target → Steps p.tables e below (T.setTop g) target) ∨
    (∃ (q : Addr) (vm₁ : Vm) (B : Pt), s.WarmedH vm₁ ∧ Stand p l e R s m args below meth c B.U B.locs B.cells B.slots ∧ PostX ⟨T.setVm vm₁, locs, cells, slots⟩ argsL.toArray q B ∧
      Steps p.tables e below (T.setTop g) ((B.U.setTop { g with stack := rest }).pushFrame (.throwing q))) := by
  obtain ⟨mk, methM, cM, hnamed, hmethM, -, -, -, -, -, -, hsigM⟩ := Cond.codeWith_spec hcode
  have hstatic : methM.isStatic = true := Cond.static_spec hnamed hmethM hstat
  obtain ⟨kP, hkP, -⟩ := className_of_methodNamed hnamed
  have hinitP : kP.init = .initialized := Cond.initialized_spec (findClass_of_methodNamed hnamed) hkP hinit
  obtain ⟨vm₁, X₁, hstep₁⟩ := X.invokestatic hexec hown hlink hnamed hmethM hstatic hkP hinitP hy (g := g) hg (argsL := argsL) (rest := rest) (hlen _ hsigM) hstack hdg
  rcases hK m meth c ⟨T.setVm vm₁, locs, cells, slots⟩ { g with stack := rest } (.invokestatic index) mk argsL.toArray X₁ hg hsize hdg hW (X₁.named hnamed) (hpre vm₁ X₁.warmed) with ⟨v, B, X', hpost, hsteps⟩ | ⟨q, B, X', hpost, hsteps⟩
  · exact Or.inl ⟨v, vm₁, B, X₁.warmed, X', hpost, fun target h => hstep₁ _ fun acts => by rw [doInvoke_state]; exact hsteps.trans h⟩
  · exact Or.inr ⟨q, vm₁, B, X₁.warmed, X', hpost, hstep₁ _ fun acts => by rw [doInvoke_state]; exact hsteps⟩
theorem vx_callVW (X : Stand p l e R s m args below meth c T locs cells slots) (hexec : p.tables.exec = Jvm.exec) {own C : String} {index : Nat} {y : MethodName} {bytes : ByteArray} {maxL : Nat} {ret : Option FieldType} {hh : List (Nat × Nat × Nat × Nat)}
    (hown : s.vm.findClass own = some m.cls) (hlink : (Cond.methodLink own index y).before args s = true) (hinst : (Cond.instanceMethod y).before args s = true) (hsel : (Cond.selects C y y).before args s = true)
    (hcode : (Cond.codeWith y bytes maxL ret hh).before args s = true) (hy : y.cls ≠ "java/lang/invoke/MethodHandle" ∧ y.cls ≠ "java/lang/invoke/VarHandle")
    {W9 : Nat} {Pre : Pt → Array Value → Prop} {Post : Pt → Array Value → Option Value → Pt → Prop} (hK : Back l R p e below s args y 3 W9 Pre Post)
    {b : Addr} {cellB : Cell} (hcell : T.heap[b]? = some cellB) (hobj : cellB.vm.isStatics = false) (hcls : s.vm.findClass C = some cellB.cls)
    {g : JFrame} (hg : g.method = m) (hsize : g.locals.size = c.maxLocals) {argsL rest : List Value} (hlen : ∀ sig, parseMethodDescriptor y.desc = some sig → argsL.length = sig.parameters.length)
    (hstack : g.stack = argsL.reverse ++ .ref b :: rest) (hW : 2 * g.monitorRoom + (rest.map fun v => v.category).sum ≤ W9) (hdg : decode c.code g.pc = .ok (.invokevirtual index, 3))
    (hpre : ∀ vm₁, s.WarmedH vm₁ → Pre ⟨T.setVm vm₁, locs, cells, slots⟩ (Value.ref b :: argsL).toArray) :
    ∃ (v : Option Value) (vm₁ : Vm) (B : Pt), s.WarmedH vm₁ ∧ Stand p l e R s m args below meth c B.U B.locs B.cells B.slots ∧ Post ⟨T.setVm vm₁, locs, cells, slots⟩ (Value.ref b :: argsL).toArray v B ∧
      ∀ target, Steps p.tables e below (B.U.setTop { g with pc := g.pc + 3, stack := v.toList ++ rest }) target → Steps p.tables e below (T.setTop g) target := by
  obtain ⟨mk, methM, hnamed, hmethM, hstM, habM⟩ := Cond.instanceMethod_spec hinst
  obtain ⟨m8, methM', cM, hn8, hmethM', -, -, -, -, -, -, hsigM⟩ := Cond.codeWith_spec hcode
  cases Option.some.inj (hn8.symm.trans hnamed)
  cases hmethM.symm.trans hmethM'
  obtain ⟨c2, r2, m2, q1, q2, q3, q4, kP, hkP, hkPi⟩ := Cond.selects_spec hsel
  cases hcls.symm.trans q1
  cases (State.methodFound?_of_named hnamed hy).symm.trans q2
  cases hnamed.symm.trans q3
  have hselP : selectMethod e.platform s.vm cellB.cls mk = .method mk := by rw [Launch.admits_selectMethod X.admits]; exact q4
  obtain ⟨vm₁, X₁, hstep₁⟩ := X.invokevirtual hexec hown hlink hnamed hmethM hstM hkP hkPi hy (a := b) (cell := cellB) hcell
    (fun z h => by rw [h] at hobj; cases hobj) hselP hmethM habM hkP hkPi (g := g) hg (argsL := argsL) (rest := rest) (hlen _ hsigM) hstack hdg
  obtain ⟨v, B, X', hpost, hsteps⟩ := hK m meth c ⟨T.setVm vm₁, locs, cells, slots⟩ { g with stack := rest } (.invokevirtual index) mk (Value.ref b :: argsL).toArray X₁ hg hsize hdg hW (X₁.named hnamed) (hpre vm₁ X₁.warmed)
  exact ⟨v, vm₁, B, X₁.warmed, X', hpost, fun target h => hstep₁ _ fun acts => by rw [doInvoke_state]; exact hsteps.trans h⟩
abbrev vx_CVW (R : Room) (s : State) (args : Array Value) (own C : String) (index : Nat) (y : MethodName) (bytes : ByteArray) (maxL : Nat) (ret : Option FieldType) (hh : List (Nat × Nat × Nat × Nat)) (ws : List Cond) (rm : Room) (mc ms n : Nat) : Prop :=
  (rm.cells = mc ∧ rm.slots = ms ∧ rm.frames + 1 ≤ R.frames ∧ 8 + (maxL + 11) + rm.locals ≤ R.locals ∧ (∀ w ∈ ws, ∀ (a' : Array Value) (U : State), s.WarmedH U.vm → w.before a' U = true) ∧ Cond.codeWith y bytes maxL ret hh ∈ ws) ∧
  (Cond.codeWith y bytes maxL ret hh).before args s = true ∧ (Cond.initialized y.cls).before args s = true ∧ (y.cls ≠ "java/lang/invoke/MethodHandle" ∧ y.cls ≠ "java/lang/invoke/VarHandle") ∧
  (∀ sig, parseMethodDescriptor y.desc = some sig → n = sig.parameters.length) ∧ (Cond.methodLink own index y).before args s = true ∧ (Cond.instanceMethod y).before args s = true ∧ (Cond.selects C y y).before args s = true
theorem vx_cwVW {own C : String} {index maxL mc ms : Nat} {y : MethodName} {bytes : ByteArray} {ret : Option FieldType} {hh : List (Nat × Nat × Nat × Nat)} {Ts ws ws' : List Cond} {rm : Room} (n : Nat) (ht : ∀ w ∈ Ts, w.before args s = true) (hT : GoodIn Ts (wsV own index C y ws)) (hw : ws = Cond.codeWith y bytes maxL ret hh :: ws') (hrc : rm.cells = mc) (hrs : rm.slots = ms)
    (hd : y.cls = C ∧ y.cls ≠ "java/lang/invoke/MethodHandle" ∧ y.cls ≠ "java/lang/invoke/VarHandle" ∧ (parseMethodDescriptor y.desc).map (fun d => d.parameters.length) = some n) (hR : rm.frames + 1 ≤ R.frames ∧ 8 + (maxL + 11) + rm.locals ≤ R.locals) :
    vx_CVW R s args own C index y bytes maxL ret hh ws rm mc ms n := by
  obtain ⟨hC, hd⟩ := hd
  subst hC
  have ok : ∀ w ∈ wsV own index y.cls y ws, w.before args s = true := fun w h => ht w (hT w h).1
  have hG : GoodIn Ts ws := fun w h => hT w (by unfold wsV; exact List.mem_append_right _ h)
  have hc : Cond.codeWith y bytes maxL ret hh ∈ ws := by rw [hw]; exact List.mem_cons_self
  refine ⟨⟨hrc, hrs, hR.1, hR.2, pay_in ht hG, hc⟩, ht _ (hG _ hc).1, ok _ (by simp [wsV]), ⟨hd.1, hd.2.1⟩, fun sig h => ?_, ok _ (by simp [wsV]), ok _ (by simp [wsV]), ok _ (by simp [wsV])⟩
  have h2 := hd.2.2
  rw [h] at h2
  exact (Option.some.inj h2).symm
theorem vx_runVW {y : MethodName} {bytes cc : ByteArray} {maxL nL mc ms n index : Nat} {ret : Option FieldType} {hh : List (Nat × Nat × Nat × Nat)} {ws : List Cond} {rm : Room} {Pc : Array Value → State → Prop} {Qc : Array Value → State → Outcome → State → Prop} {free : Addr → Prop} {Ts : List Cond} {own C : String} {b : Addr} {As rest : List Value} {g : JFrame}
    (S : CallFix p m c cc nL s args Ts own) (hM : Met l y ws rm Pc Qc mc ms free) (cw : vx_CVW R s args own C index y bytes maxL ret hh ws rm mc ms n) (hp : PreV s H C b Pc As)
    (hg : g.method = m) (hn : As.length = n) (hsize : g.locals.size = nL) (hstack : g.stack = As.reverse ++ .ref b :: rest) (hW : 2 * g.monitorRoom + (rest.map fun v => v.category).sum ≤ 8) (hdg : decode cc g.pc = .ok (.invokevirtual index, 3)) (hf : cells + mc ≤ R.cells ∧ slots + ms ≤ R.slots) :
    va_Run p l e R s m args below meth c H locs cells slots mc ms g rest (Qc (Value.ref b :: As).toArray) free := by
  obtain ⟨⟨hrc, hrs, hfr, hlo, hws, hcw⟩, hcode, hini, hy, hlen, hl, hin, hse⟩ := cw
  have hK : Back l R p e below s args y 3 8 (PreOf R mc ms Pc) (PostOf Qc mc ms free) := va_backW (hh := hh) (bytes := bytes) (maxL := maxL) (ret := ret) hM hp.1 hrc hrs hfr hlo hws hcw (fun a' U hW => word_at hW (Or.inl (by first | rfl | simp [Cond.onTables, Cond.keeps, Cond.steady])) hini)
  obtain ⟨hx, hb, hml, ho, -⟩ := S
  obtain ⟨-, ⟨cellB, hcB, hoB, hclB⟩, hPc⟩ := hp
  intro T hT X
  obtain ⟨v, vm₁, ⟨U', l2, c2, s2⟩, hW₁, X', ⟨g', mk, t, L, e1, e2, hq, h1, hL, h2, h3⟩, st⟩ := vx_callVW X hx (C := C) (hh := hh) (bytes := bytes) (maxL := maxL) (ret := ret) ho hl hin hse hcode hy hK (by rw [hT]; exact hcB) hoB hclB hg (hsize.trans hml.symm) (argsL := As) (rest := rest) (fun sig h => hn.trans (hlen sig h)) hstack hW (by rw [hb]; exact hdg)
    (fun vm₁ hW₁ => ⟨hf.1, hf.2, hPc (T.setVm vm₁) hT hW₁⟩)
  dsimp only [Pt.U, Pt.locs, Pt.cells, Pt.slots] at X' e1 e2 h1 h2 h3 st
  subst h1; subst h2; subst h3
  exact ⟨v, (T.setVm vm₁).calling g' mk (Value.ref b :: As).toArray, t, U', L, hT, X', hL, e1, e2, hq, st⟩
section
variable {y : MethodName} {bytes cc : ByteArray} {maxL nL mc ms n index : Nat} {ret : Option FieldType} {ws : List Cond} {rm : Room} {Pc : Array Value → State → Prop} {Qc : Array Value → State → Outcome → State → Prop} {XC : String → State → State → Prop} {free : Addr → Prop} {Ts : List Cond} {own C : String} {b : Addr} {As rest : List Value} {g : JFrame}
theorem vx_runVX {hh : List (Nat × Nat × Nat × Nat)} (S : CallFix p m c cc nL s args Ts own) (hM : vx_Met l y ws rm Pc Qc XC mc ms free) (cw : vx_CVW R s args own C index y bytes maxL ret hh ws rm mc ms n) (hp : PreV s H C b Pc As)
    (hg : g.method = m) (hn : As.length = n) (hsize : g.locals.size = nL) (hstack : g.stack = As.reverse ++ .ref b :: rest) (hW : 2 * g.monitorRoom + (rest.map fun v => v.category).sum ≤ 8) (hdg : decode cc g.pc = .ok (.invokevirtual index, 3)) (hf : cells + mc ≤ R.cells ∧ slots + ms ≤ R.slots) :
    vx_Run p l e R s m args below meth c H locs cells slots mc ms g rest (Qc (Value.ref b :: As).toArray) XC free := by
  obtain ⟨⟨hrc, hrs, hfr, hlo, hws, hcw⟩, hcode, hini, hy, hlen, hl, hin, hse⟩ := cw
  have hK : vx_Back l R p e below s args y 3 8 (PreOf R mc ms Pc) (PostOf Qc mc ms free) (vx_Post XC mc ms free) := vx_backW (hh := hh) (bytes := bytes) (maxL := maxL) (ret := ret) hM hp.1 hrc hrs hfr hlo hws hcw (fun a' U hW => word_at hW (Or.inl (by first | rfl | simp [Cond.onTables, Cond.keeps, Cond.steady])) hini)
  obtain ⟨hx, hb, hml, ho, -⟩ := S
  obtain ⟨-, ⟨cellB, hcB, hoB, hclB⟩, hPc⟩ := hp
  intro T hT X
  rcases vx_callVX X hx (C := C) (hh := hh) (bytes := bytes) (maxL := maxL) (ret := ret) ho hl hin hse hcode hy hK (by rw [hT]; exact hcB) hoB hclB hg (hsize.trans hml.symm) (argsL := As) (rest := rest) (fun sig h => hn.trans (hlen sig h)) hstack hW (by rw [hb]; exact hdg)
    (fun vm₁ hW₁ => ⟨hf.1, hf.2, hPc (T.setVm vm₁) hT hW₁⟩) with ⟨v, vm₁, ⟨U', l2, c2, s2⟩, hW₁, X', ⟨g', mk, t, L, e1, e2, hq, h1, hL, h2, h3⟩, st⟩ | ⟨q, vm₁, ⟨U', l2, c2, s2⟩, hW₁, X', ⟨g', mk, t, L, E, ce, e1, e2, hq, hce, hcv, hcl, h1, hL, h2, h3⟩, st⟩
  · dsimp only [Pt.U, Pt.locs, Pt.cells, Pt.slots] at X' e1 e2 h1 h2 h3 st
    subst h1; subst h2; subst h3
    exact Or.inl ⟨v, (T.setVm vm₁).calling g' mk (Value.ref b :: As).toArray, t, U', L, hT, X', hL, e1, e2, hq, st⟩
  · dsimp only [Pt.U, Pt.locs, Pt.cells, Pt.slots] at X' e1 e2 h1 h2 h3 st hcl
    subst h1; subst h2; subst h3
    exact Or.inr ⟨q, (T.setVm vm₁).calling g' mk (Value.ref b :: As).toArray, t, U', L, E, ce, hT, X', hL, e1, e2, hq, hce, hcv, vx_cls hW₁ hcl, st⟩
theorem vx_runSX {hh : List (Nat × Nat × Nat × Nat)} (S : CallFix p m c cc nL s args Ts own) (hM : vx_Met l y ws rm Pc Qc XC mc ms free) (cw : vx_CSW R s args own index y bytes maxL ret hh ws rm mc ms n) (hp : PreS s H Pc As)
    (hg : g.method = m) (hn : As.length = n) (hsize : g.locals.size = nL) (hstack : g.stack = As.reverse ++ rest) (hW : 2 * g.monitorRoom + (rest.map fun v => v.category).sum ≤ 8) (hdg : decode cc g.pc = .ok (.invokestatic index, 3)) (hf : cells + mc ≤ R.cells ∧ slots + ms ≤ R.slots) :
    vx_Run p l e R s m args below meth c H locs cells slots mc ms g rest (Qc As.toArray) XC free := by
  obtain ⟨⟨hrc, hrs, hfr, hlo, hws, hcw⟩, hcode, hini, hy, hlen, hl, hstt⟩ := cw
  have hK : vx_Back l R p e below s args y 3 8 (PreOf R mc ms Pc) (PostOf Qc mc ms free) (vx_Post XC mc ms free) := vx_backW (hh := hh) (bytes := bytes) (maxL := maxL) (ret := ret) hM hp.1 hrc hrs hfr hlo hws hcw (fun a' U hW => word_at hW (Or.inl (by first | rfl | simp [Cond.onTables, Cond.keeps, Cond.steady])) hini)
  obtain ⟨hx, hb, hml, ho, -⟩ := S
  intro T hT X
  rcases vx_callSX X hx (hh := hh) (bytes := bytes) (maxL := maxL) (ret := ret) ho hl hstt hini hcode hy hK hg (hsize.trans hml.symm) (argsL := As) (rest := rest) (fun sig h => hn.trans (hlen sig h)) hstack hW (by rw [hb]; exact hdg)
    (fun vm₁ hW₁ => ⟨hf.1, hf.2, hp.2 (T.setVm vm₁) hT hW₁⟩) with ⟨v, vm₁, ⟨U', l2, c2, s2⟩, hW₁, X', ⟨g', mk, t, L, e1, e2, hq, h1, hL, h2, h3⟩, st⟩ | ⟨q, vm₁, ⟨U', l2, c2, s2⟩, hW₁, X', ⟨g', mk, t, L, E, ce, e1, e2, hq, hce, hcv, hcl, h1, hL, h2, h3⟩, st⟩
  · dsimp only [Pt.U, Pt.locs, Pt.cells, Pt.slots] at X' e1 e2 h1 h2 h3 st
    subst h1; subst h2; subst h3
    exact Or.inl ⟨v, (T.setVm vm₁).calling g' mk As.toArray, t, U', L, hT, X', hL, e1, e2, hq, st⟩
  · dsimp only [Pt.U, Pt.locs, Pt.cells, Pt.slots] at X' e1 e2 h1 h2 h3 st hcl
    subst h1; subst h2; subst h3
    exact Or.inr ⟨q, (T.setVm vm₁).calling g' mk As.toArray, t, U', L, E, ce, hT, X', hL, e1, e2, hq, hce, hcv, vx_cls hW₁ hcl, st⟩
end
end VXH
theorem vx_ofWH {l : Launch} {y : MethodName} {ws ws' : List Cond} {rm : Room} {Pc : Array Value → State → Prop} {Qc : Array Value → State → Outcome → State → Prop} {XC : String → State → State → Prop} {mc ms : Nat} {free : Addr → Prop} {cc : ByteArray} {maxL : Nat} {ret : Option FieldType} {hh : List (Nat × Nat × Nat × Nat)}
    (hy : plainName y.cls = true) (hw : ws = Cond.codeWith y cc maxL ret hh :: ws')
    (body : ∀ p e s m args below meth c s₁, BodyLoose p l y (headSpec ws rm) cc maxL ret e s m args below meth c s₁ → c.maxLocals = maxL → Pc args s →
      W p l e (headSpec ws rm).room s m args below meth c s.heap [] 0 0 (vx_MQ below Qc XC args s mc ms free) (entryFrame m args maxL)) : vx_Met l y ws rm Pc Qc XC mc ms free := by
  refine MetFree.of_bodyS (code := cc) (maxLocals := maxL) (ret := ret) hy ?_ ?_
  · intro args s m h hn
    obtain ⟨m9, meth, c, hn9, h1, h2, h3, h4, -, h5, h6, -⟩ := Cond.codeWith_spec (atoms_spec (ws := ws) h _ (by rw [hw]; exact List.mem_cons_self))
    cases hn.symm.trans hn9
    exact ⟨meth, c, h1, h2, h3, h4, h5, h6⟩
  · intro p e s m args below meth c s₁ B hml hP _
    have hh0 : s₁.heap = s.heap := by rw [B.state]; rfl
    obtain ⟨t, a1, o, b1, b2, b3⟩ := body p e s m args below meth c s₁ B hml hP s₁ hh0 (Stand.of_body B)
    exact ⟨t, o, a1, b1, b2, b3⟩
/-! ===== END ===== -/
end
section
def RX0 : String := "ClubAcademy$Book"
def TX0 : u_T := fun k => match k with
  | _ => ("ClubAcademy$Book", "root", "LClubAcademy$Line;", true)
def tyX0 : Nat → FieldType := fun k => match k with
  | _ => .object "ClubAcademy$Line"
abbrev wsX00 : List Cond := u_ws RX0 TX0 1
theorem nmX0 : ∀ a, a < 1 → ∀ b, b < 1 → a ≠ b → (TX0 a).2.1 ≠ (TX0 b).2.1 := by decide +kernel
theorem tyX0_ok : ∀ k, k < 1 → parseFieldDescriptor (TX0 k).2.2.1 = some (tyX0 k) := by decide +kernel
abbrev cX0_init : ByteArray := prog_2_method_1_code
def yX0_init : MethodName := ⟨RX0, "<init>", "()V"⟩
abbrev cX0_keepResult : ByteArray := prog_2_method_2_code
def yX0_keepResult : MethodName := ⟨RX0, "keepResult", "(LClubAcademy$Game;)V"⟩
abbrev cX0_addResult : ByteArray := prog_2_method_3_code
def yX0_addResult : MethodName := ⟨RX0, "addResult", "(LClubAcademy$Game;I)V"⟩
abbrev cX0_dropBadLine : ByteArray := prog_2_method_4_code
def yX0_dropBadLine : MethodName := ⟨RX0, "dropBadLine", "(LClubAcademy$Game;I)V"⟩
abbrev cX0_find : ByteArray := prog_2_method_5_code
def yX0_find : MethodName := ⟨RX0, "find", "(II)LClubAcademy$Line;"⟩
abbrev cX0_holdsDropped : ByteArray := prog_2_method_6_code
def yX0_holdsDropped : MethodName := ⟨RX0, "holdsDropped", "(II)Z"⟩
def RX1 : String := "ClubAcademy$Game"
def TX1 : u_T := fun k => match k with
  | 0 => ("ClubAcademy$Game", "white", "LClubAcademy$Player;", true)
  | 1 => ("ClubAcademy$Game", "black", "LClubAcademy$Player;", true)
  | 2 => ("ClubAcademy$Game", "madeMoves", "[I", true)
  | 3 => ("ClubAcademy$Game", "moveCount", "I", false)
  | 4 => ("ClubAcademy$Game", "reached", "I", false)
  | _ => ("ClubAcademy$Game", "result", "I", false)
def tyX1 : Nat → FieldType := fun k => match k with
  | 0 => .object "ClubAcademy$Player"
  | 1 => .object "ClubAcademy$Player"
  | 2 => .array .int
  | 3 => .int
  | 4 => .int
  | _ => .int
abbrev wsX10 : List Cond := u_ws RX1 TX1 6
theorem nmX1 : ∀ a, a < 6 → ∀ b, b < 6 → a ≠ b → (TX1 a).2.1 ≠ (TX1 b).2.1 := by decide +kernel
theorem tyX1_ok : ∀ k, k < 6 → parseFieldDescriptor (TX1 k).2.2.1 = some (tyX1 k) := by decide +kernel
abbrev cX1_init : ByteArray := prog_3_method_1_code
def yX1_init : MethodName := ⟨RX1, "<init>", "(LClubAcademy$Player;LClubAcademy$Player;)V"⟩
abbrev cX1_isFull : ByteArray := prog_3_method_2_code
def yX1_isFull : MethodName := ⟨RX1, "isFull", "()Z"⟩
abbrev cX1_addMove : ByteArray := prog_3_method_3_code
def yX1_addMove : MethodName := ⟨RX1, "addMove", "(I)V"⟩
abbrev cX1_moveAt : ByteArray := prog_3_method_4_code
def yX1_moveAt : MethodName := ⟨RX1, "moveAt", "(I)I"⟩
abbrev cX1_beginsWith : ByteArray := prog_3_method_5_code
def yX1_beginsWith : MethodName := ⟨RX1, "beginsWith", "(II)Z"⟩
def RX2 : String := "ClubAcademy$Line"
def TX2 : u_T := fun k => match k with
  | 0 => ("ClubAcademy$Line", "next", "[LClubAcademy$Line;", true)
  | 1 => ("ClubAcademy$Line", "resultCount", "I", false)
  | 2 => ("ClubAcademy$Line", "resultSum", "I", false)
  | _ => ("ClubAcademy$Line", "dropped", "Z", false)
def tyX2 : Nat → FieldType := fun k => match k with
  | 0 => .array (.object "ClubAcademy$Line")
  | 1 => .int
  | 2 => .int
  | _ => .boolean
abbrev wsX20 : List Cond := u_ws RX2 TX2 4
theorem nmX2 : ∀ a, a < 4 → ∀ b, b < 4 → a ≠ b → (TX2 a).2.1 ≠ (TX2 b).2.1 := by decide +kernel
theorem tyX2_ok : ∀ k, k < 4 → parseFieldDescriptor (TX2 k).2.2.1 = some (tyX2 k) := by decide +kernel
abbrev cX2_init : ByteArray := prog_4_method_1_code
def yX2_init : MethodName := ⟨RX2, "<init>", "()V"⟩
abbrev cX2_goingOnWith : ByteArray := prog_4_method_2_code
def yX2_goingOnWith : MethodName := ⟨RX2, "goingOnWith", "(I)LClubAcademy$Line;"⟩
abbrev cX2_madeWith : ByteArray := prog_4_method_3_code
def yX2_madeWith : MethodName := ⟨RX2, "madeWith", "(I)LClubAcademy$Line;"⟩
abbrev cX2_doesBadly : ByteArray := prog_4_method_4_code
def yX2_doesBadly : MethodName := ⟨RX2, "doesBadly", "(Z)Z"⟩
def RX3 : String := "ClubAcademy$Player"
def TX3 : u_T := fun k => match k with
  | 0 => ("ClubAcademy$Player", "number", "I", true)
  | 1 => ("ClubAcademy$Player", "ratings", "[I", true)
  | 2 => ("ClubAcademy$Player", "tried", "[Z", true)
  | 3 => ("ClubAcademy$Player", "met", "[Z", true)
  | 4 => ("ClubAcademy$Player", "whiteGames", "I", false)
  | 5 => ("ClubAcademy$Player", "blackGames", "I", false)
  | 6 => ("ClubAcademy$Player", "scoreSum", "I", false)
  | _ => ("ClubAcademy$Player", "partner", "LClubAcademy$Player;", false)
def tyX3 : Nat → FieldType := fun k => match k with
  | 0 => .int
  | 1 => .array .int
  | 2 => .array .boolean
  | 3 => .array .boolean
  | 4 => .int
  | 5 => .int
  | 6 => .int
  | _ => .object "ClubAcademy$Player"
abbrev wsX30 : List Cond := u_ws RX3 TX3 8
theorem nmX3 : ∀ a, a < 8 → ∀ b, b < 8 → a ≠ b → (TX3 a).2.1 ≠ (TX3 b).2.1 := by decide +kernel
theorem tyX3_ok : ∀ k, k < 8 → parseFieldDescriptor (TX3 k).2.2.1 = some (tyX3 k) := by decide +kernel
abbrev cX3_init : ByteArray := prog_5_method_1_code
def yX3_init : MethodName := ⟨RX3, "<init>", "(I)V"⟩
abbrev cX3_endGameAsWhite : ByteArray := prog_5_method_2_code
def yX3_endGameAsWhite : MethodName := ⟨RX3, "endGameAsWhite", "(LClubAcademy$Player;I)V"⟩
abbrev cX3_endGameAsBlack : ByteArray := prog_5_method_3_code
def yX3_endGameAsBlack : MethodName := ⟨RX3, "endGameAsBlack", "(LClubAcademy$Player;I)V"⟩
abbrev cX3_endGame : ByteArray := prog_5_method_4_code
def yX3_endGame : MethodName := ⟨RX3, "endGame", "(LClubAcademy$Player;I)V"⟩
abbrev cX3_hasMet : ByteArray := prog_5_method_5_code
def yX3_hasMet : MethodName := ⟨RX3, "hasMet", "(LClubAcademy$Player;)Z"⟩
abbrev cX3_colourBalance : ByteArray := prog_5_method_6_code
def yX3_colourBalance : MethodName := ⟨RX3, "colourBalance", "()I"⟩
abbrev cX3_standsAheadOf : ByteArray := prog_5_method_7_code
def yX3_standsAheadOf : MethodName := ⟨RX3, "standsAheadOf", "(LClubAcademy$Player;)Z"⟩
abbrev cX3_hasTried : ByteArray := prog_5_method_8_code
def yX3_hasTried : MethodName := ⟨RX3, "hasTried", "(I)Z"⟩
abbrev cX3_markTried : ByteArray := prog_5_method_9_code
def yX3_markTried : MethodName := ⟨RX3, "markTried", "(I)V"⟩
abbrev cX3_ratingIn : ByteArray := prog_5_method_10_code
def yX3_ratingIn : MethodName := ⟨RX3, "ratingIn", "(I)I"⟩
abbrev cX3_needsMore : ByteArray := prog_5_method_11_code
def yX3_needsMore : MethodName := ⟨RX3, "needsMore", "(II)Z"⟩
abbrev cX3_changeRating : ByteArray := prog_5_method_12_code
def yX3_changeRating : MethodName := ⟨RX3, "changeRating", "(IZ)V"⟩
abbrev cX3_ratingBehindTry : ByteArray := prog_5_method_13_code
def yX3_ratingBehindTry : MethodName := ⟨RX3, "ratingBehindTry", "(IZ)I"⟩
def RX4 : String := "ClubAcademy$Puzzle"
def TX4 : u_T := fun k => match k with
  | 0 => ("ClubAcademy$Puzzle", "start", "I", true)
  | 1 => ("ClubAcademy$Puzzle", "theme", "I", true)
  | _ => ("ClubAcademy$Puzzle", "game", "I", true)
def tyX4 : Nat → FieldType := fun k => match k with
  | 0 => .int
  | 1 => .int
  | _ => .int
abbrev wsX40 : List Cond := u_ws RX4 TX4 3
theorem nmX4 : ∀ a, a < 3 → ∀ b, b < 3 → a ≠ b → (TX4 a).2.1 ≠ (TX4 b).2.1 := by decide +kernel
theorem tyX4_ok : ∀ k, k < 3 → parseFieldDescriptor (TX4 k).2.2.1 = some (tyX4 k) := by decide +kernel
abbrev cX4_init : ByteArray := prog_6_method_1_code
def yX4_init : MethodName := ⟨RX4, "<init>", "(II)V"⟩
def RX5 : String := "ClubAcademy"
def TX5 : u_T := fun k => match k with
  | 0 => ("ClubAcademy", "players", "[LClubAcademy$Player;", true)
  | 1 => ("ClubAcademy", "playerCount", "I", false)
  | 2 => ("ClubAcademy", "playedGames", "[LClubAcademy$Game;", true)
  | 3 => ("ClubAcademy", "gameCount", "I", false)
  | 4 => ("ClubAcademy", "current", "LClubAcademy$Game;", false)
  | 5 => ("ClubAcademy", "madePuzzles", "[LClubAcademy$Puzzle;", true)
  | 6 => ("ClubAcademy", "puzzleCount", "I", false)
  | _ => ("ClubAcademy", "book", "LClubAcademy$Book;", true)
def tyX5 : Nat → FieldType := fun k => match k with
  | 0 => .array (.object "ClubAcademy$Player")
  | 1 => .int
  | 2 => .array (.object "ClubAcademy$Game")
  | 3 => .int
  | 4 => .object "ClubAcademy$Game"
  | 5 => .array (.object "ClubAcademy$Puzzle")
  | 6 => .int
  | _ => .object "ClubAcademy$Book"
abbrev wsX50 : List Cond := u_ws RX5 TX5 8
theorem nmX5 : ∀ a, a < 8 → ∀ b, b < 8 → a ≠ b → (TX5 a).2.1 ≠ (TX5 b).2.1 := by decide +kernel
theorem tyX5_ok : ∀ k, k < 8 → parseFieldDescriptor (TX5 k).2.2.1 = some (tyX5 k) := by decide +kernel
abbrev cX5_init : ByteArray := prog_1_method_1_code
def yX5_init : MethodName := ⟨RX5, "<init>", "()V"⟩
abbrev cX5_after : ByteArray := prog_1_method_2_code
def yX5_after : MethodName := ⟨RX5, "after", "(II)I"⟩
abbrev cX5_worth : ByteArray := prog_1_method_3_code
def yX5_worth : MethodName := ⟨RX5, "worth", "(I)I"⟩
abbrev cX5_best : ByteArray := prog_1_method_4_code
def yX5_best : MethodName := ⟨RX5, "best", "(I)I"⟩
abbrev cX5_enter : ByteArray := prog_1_method_5_code
def yX5_enter : MethodName := ⟨RX5, "enter", "()I"⟩
abbrev cX5_begin : ByteArray := prog_1_method_6_code
def yX5_begin : MethodName := ⟨RX5, "begin", "(II)I"⟩
abbrev cX5_move : ByteArray := prog_1_method_7_code
def yX5_move : MethodName := ⟨RX5, "move", "(I)Z"⟩
abbrev cX5_end : ByteArray := prog_1_method_8_code
def yX5_end : MethodName := ⟨RX5, "end", "(I)I"⟩
abbrev cX5_position : ByteArray := prog_1_method_9_code
def yX5_position : MethodName := ⟨RX5, "position", "()I"⟩
abbrev cX5_games : ByteArray := prog_1_method_10_code
def yX5_games : MethodName := ⟨RX5, "games", "()I"⟩
abbrev cX5_score : ByteArray := prog_1_method_11_code
def yX5_score : MethodName := ⟨RX5, "score", "(I)I"⟩
abbrev cX5_puzzles : ByteArray := prog_1_method_12_code
def yX5_puzzles : MethodName := ⟨RX5, "puzzles", "()I"⟩
abbrev cX5_puzzle : ByteArray := prog_1_method_13_code
def yX5_puzzle : MethodName := ⟨RX5, "puzzle", "(I)I"⟩
abbrev cX5_source : ByteArray := prog_1_method_14_code
def yX5_source : MethodName := ⟨RX5, "source", "(I)I"⟩
abbrev cX5_solve : ByteArray := prog_1_method_15_code
def yX5_solve : MethodName := ⟨RX5, "solve", "(III)Z"⟩
abbrev cX5_offered : ByteArray := prog_1_method_16_code
def yX5_offered : MethodName := ⟨RX5, "offered", "(I)I"⟩
abbrev cX5_rating : ByteArray := prog_1_method_17_code
def yX5_rating : MethodName := ⟨RX5, "rating", "(II)I"⟩
abbrev cX5_results : ByteArray := prog_1_method_18_code
def yX5_results : MethodName := ⟨RX5, "results", "(II)I"⟩
abbrev cX5_points : ByteArray := prog_1_method_19_code
def yX5_points : MethodName := ⟨RX5, "points", "(II)I"⟩
abbrev cX5_isDropped : ByteArray := prog_1_method_20_code
def yX5_isDropped : MethodName := ⟨RX5, "isDropped", "(II)Z"⟩
abbrev cX5_pointsOfGames : ByteArray := prog_1_method_21_code
def yX5_pointsOfGames : MethodName := ⟨RX5, "pointsOfGames", "(II)I"⟩
abbrev cX5_mean : ByteArray := prog_1_method_22_code
def yX5_mean : MethodName := ⟨RX5, "mean", "(II)F"⟩
abbrev cX5_opponent : ByteArray := prog_1_method_23_code
def yX5_opponent : MethodName := ⟨RX5, "opponent", "(I)I"⟩
abbrev cX5_hasWhite : ByteArray := prog_1_method_24_code
def yX5_hasWhite : MethodName := ⟨RX5, "hasWhite", "(I)Z"⟩
abbrev cX5_checkPosition : ByteArray := prog_1_method_25_code
def yX5_checkPosition : MethodName := ⟨RX5, "checkPosition", "(I)V"⟩
abbrev cX5_checkMove : ByteArray := prog_1_method_26_code
def yX5_checkMove : MethodName := ⟨RX5, "checkMove", "(I)V"⟩
abbrev cX5_checkLine : ByteArray := prog_1_method_27_code
def yX5_checkLine : MethodName := ⟨RX5, "checkLine", "(II)V"⟩
abbrev cX5_knownPlayer : ByteArray := prog_1_method_28_code
def yX5_knownPlayer : MethodName := ⟨RX5, "knownPlayer", "(I)LClubAcademy$Player;"⟩
abbrev cX5_knownPuzzle : ByteArray := prog_1_method_29_code
def yX5_knownPuzzle : MethodName := ⟨RX5, "knownPuzzle", "(I)LClubAcademy$Puzzle;"⟩
abbrev cX5_positionAfter : ByteArray := prog_1_method_30_code
def yX5_positionAfter : MethodName := ⟨RX5, "positionAfter", "(II)I"⟩
abbrev cX5_worthOf : ByteArray := prog_1_method_31_code
def yX5_worthOf : MethodName := ⟨RX5, "worthOf", "(I)I"⟩
abbrev cX5_worthAfter : ByteArray := prog_1_method_32_code
def yX5_worthAfter : MethodName := ⟨RX5, "worthAfter", "(II)I"⟩
abbrev cX5_bestMove : ByteArray := prog_1_method_33_code
def yX5_bestMove : MethodName := ⟨RX5, "bestMove", "(I)I"⟩
abbrev cX5_isBlunder : ByteArray := prog_1_method_34_code
def yX5_isBlunder : MethodName := ⟨RX5, "isBlunder", "(II)Z"⟩
abbrev cX5_moveOfLine : ByteArray := prog_1_method_35_code
def yX5_moveOfLine : MethodName := ⟨RX5, "moveOfLine", "(II)I"⟩
abbrev cX5_makePuzzles : ByteArray := prog_1_method_36_code
def yX5_makePuzzles : MethodName := ⟨RX5, "makePuzzles", "(LClubAcademy$Game;I)I"⟩
abbrev cX5_addPuzzle : ByteArray := prog_1_method_37_code
def yX5_addPuzzle : MethodName := ⟨RX5, "addPuzzle", "(II)Z"⟩
abbrev cX5_hasPuzzleFor : ByteArray := prog_1_method_38_code
def yX5_hasPuzzleFor : MethodName := ⟨RX5, "hasPuzzleFor", "(I)Z"⟩
abbrev cX5_pairPlayers : ByteArray := prog_1_method_39_code
def yX5_pairPlayers : MethodName := ⟨RX5, "pairPlayers", "()V"⟩
abbrev cX5_firstUnpaired : ByteArray := prog_1_method_40_code
def yX5_firstUnpaired : MethodName := ⟨RX5, "firstUnpaired", "()LClubAcademy$Player;"⟩
abbrev cX5_partnerFor : ByteArray := prog_1_method_41_code
def yX5_partnerFor : MethodName := ⟨RX5, "partnerFor", "(LClubAcademy$Player;)LClubAcademy$Player;"⟩
def RX6 : String := "ClubAcademyModel"
def TX6 : u_T := fun k => match k with
  | 0 => ("ClubAcademyModel", "players", "I", false)
  | 1 => ("ClubAcademyModel", "score", "[I", true)
  | 2 => ("ClubAcademyModel", "colour", "[I", true)
  | 3 => ("ClubAcademyModel", "rating", "[I", true)
  | 4 => ("ClubAcademyModel", "tried", "[Z", true)
  | 5 => ("ClubAcademyModel", "games", "I", false)
  | 6 => ("ClubAcademyModel", "goesOn", "Z", false)
  | 7 => ("ClubAcademyModel", "place", "I", false)
  | 8 => ("ClubAcademyModel", "white", "[I", true)
  | 9 => ("ClubAcademyModel", "black", "[I", true)
  | 10 => ("ClubAcademyModel", "many", "[I", true)
  | 11 => ("ClubAcademyModel", "result", "[I", true)
  | 12 => ("ClubAcademyModel", "moves", "[I", true)
  | 13 => ("ClubAcademyModel", "puzzles", "I", false)
  | 14 => ("ClubAcademyModel", "puzzle", "[I", true)
  | 15 => ("ClubAcademyModel", "source", "[I", true)
  | 16 => ("ClubAcademyModel", "results", "[I", true)
  | 17 => ("ClubAcademyModel", "points", "[I", true)
  | 18 => ("ClubAcademyModel", "dropped", "[Z", true)
  | 19 => ("ClubAcademyModel", "order", "[I", true)
  | 20 => ("ClubAcademyModel", "paired", "[I", true)
  | _ => ("ClubAcademyModel", "thrown", "I", false)
def tyX6 : Nat → FieldType := fun k => match k with
  | 0 => .int
  | 1 => .array .int
  | 2 => .array .int
  | 3 => .array .int
  | 4 => .array .boolean
  | 5 => .int
  | 6 => .boolean
  | 7 => .int
  | 8 => .array .int
  | 9 => .array .int
  | 10 => .array .int
  | 11 => .array .int
  | 12 => .array .int
  | 13 => .int
  | 14 => .array .int
  | 15 => .array .int
  | 16 => .array .int
  | 17 => .array .int
  | 18 => .array .boolean
  | 19 => .array .int
  | 20 => .array .int
  | _ => .int
abbrev wsX60 : List Cond := u_ws RX6 TX6 22
theorem nmX6 : ∀ a, a < 22 → ∀ b, b < 22 → a ≠ b → (TX6 a).2.1 ≠ (TX6 b).2.1 := by decide +kernel
theorem tyX6_ok : ∀ k, k < 22 → parseFieldDescriptor (TX6 k).2.2.1 = some (tyX6 k) := by decide +kernel
abbrev cX6_init : ByteArray := prog_8_method_1_code
def yX6_init : MethodName := ⟨RX6, "<init>", "()V"⟩
abbrev cX6_thrown : ByteArray := prog_8_method_2_code
def yX6_thrown : MethodName := ⟨RX6, "thrown", "()I"⟩
abbrev cX6_in : ByteArray := prog_8_method_3_code
def yX6_in : MethodName := ⟨RX6, "in", "(III)Z"⟩
abbrev cX6_goes : ByteArray := prog_8_method_4_code
def yX6_goes : MethodName := ⟨RX6, "goes", "(ZZZ)Z"⟩
abbrev cX6_told : ByteArray := prog_8_method_5_code
def yX6_told : MethodName := ⟨RX6, "told", "(I)I"⟩
abbrev cX6_isPosition : ByteArray := prog_8_method_6_code
def yX6_isPosition : MethodName := ⟨RX6, "isPosition", "(I)Z"⟩
abbrev cX6_isMove : ByteArray := prog_8_method_7_code
def yX6_isMove : MethodName := ⟨RX6, "isMove", "(I)Z"⟩
abbrev cX6_isPlayer : ByteArray := prog_8_method_8_code
def yX6_isPlayer : MethodName := ⟨RX6, "isPlayer", "(I)Z"⟩
abbrev cX6_isPuzzle : ByteArray := prog_8_method_9_code
def yX6_isPuzzle : MethodName := ⟨RX6, "isPuzzle", "(I)Z"⟩
abbrev cX6_next : ByteArray := prog_8_method_10_code
def yX6_next : MethodName := ⟨RX6, "next", "(II)I"⟩
abbrev cX6_worthOf : ByteArray := prog_8_method_11_code
def yX6_worthOf : MethodName := ⟨RX6, "worthOf", "(I)I"⟩
abbrev cX6_bestIn : ByteArray := prog_8_method_12_code
def yX6_bestIn : MethodName := ⟨RX6, "bestIn", "(I)I"⟩
abbrev cX6_isBlunder : ByteArray := prog_8_method_13_code
def yX6_isBlunder : MethodName := ⟨RX6, "isBlunder", "(II)Z"⟩
abbrev cX6_after : ByteArray := prog_8_method_14_code
def yX6_after : MethodName := ⟨RX6, "after", "(II)I"⟩
abbrev cX6_worth : ByteArray := prog_8_method_15_code
def yX6_worth : MethodName := ⟨RX6, "worth", "(I)I"⟩
abbrev cX6_best : ByteArray := prog_8_method_16_code
def yX6_best : MethodName := ⟨RX6, "best", "(I)I"⟩
abbrev cX6_enter : ByteArray := prog_8_method_17_code
def yX6_enter : MethodName := ⟨RX6, "enter", "()I"⟩
abbrev cX6_ended : ByteArray := prog_8_method_18_code
def yX6_ended : MethodName := ⟨RX6, "ended", "()I"⟩
abbrev cX6_begin : ByteArray := prog_8_method_19_code
def yX6_begin : MethodName := ⟨RX6, "begin", "(II)I"⟩
abbrev cX6_move : ByteArray := prog_8_method_20_code
def yX6_move : MethodName := ⟨RX6, "move", "(I)Z"⟩
abbrev cX6_hasPuzzle : ByteArray := prog_8_method_21_code
def yX6_hasPuzzle : MethodName := ⟨RX6, "hasPuzzle", "(I)Z"⟩
abbrev cX6_makes : ByteArray := prog_8_method_22_code
def yX6_makes : MethodName := ⟨RX6, "makes", "(I)I"⟩
abbrev cX6_shorter : ByteArray := prog_8_method_23_code
def yX6_shorter : MethodName := ⟨RX6, "shorter", "(I)I"⟩
abbrev cX6_isGone : ByteArray := prog_8_method_24_code
def yX6_isGone : MethodName := ⟨RX6, "isGone", "(II)Z"⟩
abbrev cX6_lineOf : ByteArray := prog_8_method_25_code
def yX6_lineOf : MethodName := ⟨RX6, "lineOf", "(II)I"⟩
abbrev cX6_notes : ByteArray := prog_8_method_26_code
def yX6_notes : MethodName := ⟨RX6, "notes", "(I)V"⟩
abbrev cX6_end : ByteArray := prog_8_method_27_code
def yX6_end : MethodName := ⟨RX6, "end", "(I)I"⟩
abbrev cX6_position : ByteArray := prog_8_method_28_code
def yX6_position : MethodName := ⟨RX6, "position", "()I"⟩
abbrev cX6_games : ByteArray := prog_8_method_29_code
def yX6_games : MethodName := ⟨RX6, "games", "()I"⟩
abbrev cX6_score : ByteArray := prog_8_method_30_code
def yX6_score : MethodName := ⟨RX6, "score", "(I)I"⟩
abbrev cX6_puzzles : ByteArray := prog_8_method_31_code
def yX6_puzzles : MethodName := ⟨RX6, "puzzles", "()I"⟩
abbrev cX6_puzzle : ByteArray := prog_8_method_32_code
def yX6_puzzle : MethodName := ⟨RX6, "puzzle", "(I)I"⟩
abbrev cX6_source : ByteArray := prog_8_method_33_code
def yX6_source : MethodName := ⟨RX6, "source", "(I)I"⟩
abbrev cX6_solve : ByteArray := prog_8_method_34_code
def yX6_solve : MethodName := ⟨RX6, "solve", "(III)Z"⟩
abbrev cX6_offered : ByteArray := prog_8_method_35_code
def yX6_offered : MethodName := ⟨RX6, "offered", "(I)I"⟩
abbrev cX6_rating : ByteArray := prog_8_method_36_code
def yX6_rating : MethodName := ⟨RX6, "rating", "(II)I"⟩
abbrev cX6_asks : ByteArray := prog_8_method_37_code
def yX6_asks : MethodName := ⟨RX6, "asks", "(II)Z"⟩
abbrev cX6_results : ByteArray := prog_8_method_38_code
def yX6_results : MethodName := ⟨RX6, "results", "(II)I"⟩
abbrev cX6_points : ByteArray := prog_8_method_39_code
def yX6_points : MethodName := ⟨RX6, "points", "(II)I"⟩
abbrev cX6_isDropped : ByteArray := prog_8_method_40_code
def yX6_isDropped : MethodName := ⟨RX6, "isDropped", "(II)Z"⟩
abbrev cX6_pointsOfGames : ByteArray := prog_8_method_41_code
def yX6_pointsOfGames : MethodName := ⟨RX6, "pointsOfGames", "(II)I"⟩
abbrev cX6_mean : ByteArray := prog_8_method_42_code
def yX6_mean : MethodName := ⟨RX6, "mean", "(II)F"⟩
abbrev cX6_havePlayed : ByteArray := prog_8_method_43_code
def yX6_havePlayed : MethodName := ⟨RX6, "havePlayed", "(II)Z"⟩
abbrev cX6_sorts : ByteArray := prog_8_method_44_code
def yX6_sorts : MethodName := ⟨RX6, "sorts", "()V"⟩
abbrev cX6_pairs : ByteArray := prog_8_method_45_code
def yX6_pairs : MethodName := ⟨RX6, "pairs", "()V"⟩
abbrev cX6_opponent : ByteArray := prog_8_method_46_code
def yX6_opponent : MethodName := ⟨RX6, "opponent", "(I)I"⟩
abbrev cX6_hasWhite : ByteArray := prog_8_method_47_code
def yX6_hasWhite : MethodName := ⟨RX6, "hasWhite", "(I)Z"⟩
def RL : String := "ClubAcademyLaw"
abbrev cL_after : ByteArray := method_3_code
def yL_after : MethodName := ⟨RL, "after", "(LClubAcademy;II[J)I"⟩
abbrev cL_worth : ByteArray := method_4_code
def yL_worth : MethodName := ⟨RL, "worth", "(LClubAcademy;I[J)I"⟩
abbrev cL_best : ByteArray := method_5_code
def yL_best : MethodName := ⟨RL, "best", "(LClubAcademy;I[J)I"⟩
abbrev cL_enter : ByteArray := method_6_code
def yL_enter : MethodName := ⟨RL, "enter", "(LClubAcademy;[J)I"⟩
abbrev cL_begin : ByteArray := method_7_code
def yL_begin : MethodName := ⟨RL, "begin", "(LClubAcademy;II[J)I"⟩
abbrev cL_move : ByteArray := method_8_code
def yL_move : MethodName := ⟨RL, "move", "(LClubAcademy;I[J)I"⟩
abbrev cL_end : ByteArray := method_9_code
def yL_end : MethodName := ⟨RL, "end", "(LClubAcademy;I[J)I"⟩
abbrev cL_score : ByteArray := method_10_code
def yL_score : MethodName := ⟨RL, "score", "(LClubAcademy;I[J)I"⟩
abbrev cL_puzzle : ByteArray := method_11_code
def yL_puzzle : MethodName := ⟨RL, "puzzle", "(LClubAcademy;I[J)I"⟩
abbrev cL_source : ByteArray := method_12_code
def yL_source : MethodName := ⟨RL, "source", "(LClubAcademy;I[J)I"⟩
abbrev cL_solve : ByteArray := method_13_code
def yL_solve : MethodName := ⟨RL, "solve", "(LClubAcademy;III[J)I"⟩
abbrev cL_offered : ByteArray := method_14_code
def yL_offered : MethodName := ⟨RL, "offered", "(LClubAcademy;I[J)I"⟩
abbrev cL_rating : ByteArray := method_15_code
def yL_rating : MethodName := ⟨RL, "rating", "(LClubAcademy;II[J)I"⟩
abbrev cL_results : ByteArray := method_16_code
def yL_results : MethodName := ⟨RL, "results", "(LClubAcademy;II[J)I"⟩
abbrev cL_points : ByteArray := method_17_code
def yL_points : MethodName := ⟨RL, "points", "(LClubAcademy;II[J)I"⟩
abbrev cL_isDropped : ByteArray := method_18_code
def yL_isDropped : MethodName := ⟨RL, "isDropped", "(LClubAcademy;II[J)I"⟩
abbrev cL_pointsOfGames : ByteArray := method_19_code
def yL_pointsOfGames : MethodName := ⟨RL, "pointsOfGames", "(LClubAcademy;II[J)I"⟩
abbrev cL_mean : ByteArray := method_20_code
def yL_mean : MethodName := ⟨RL, "mean", "(LClubAcademy;II[D)I"⟩
abbrev cL_opponent : ByteArray := method_21_code
def yL_opponent : MethodName := ⟨RL, "opponent", "(LClubAcademy;I[J)I"⟩
abbrev cL_hasWhite : ByteArray := method_22_code
def yL_hasWhite : MethodName := ⟨RL, "hasWhite", "(LClubAcademy;I[J)I"⟩
abbrev cL_law : ByteArray := code
def yL_law : MethodName := ⟨RL, "law", "([I)Z"⟩
abbrev vwCl : List vw_C := [(RX0, TX0, 1), (RX1, TX1, 6), (RX2, TX2, 4), (RX3, TX3, 8), (RX4, TX4, 3), (RX5, TX5, 8), (RX6, TX6, 22)]
end
section
theorem dX0_init_0 : decode cX0_init 0 = .ok (.aload_n 0, 1) := by decide +kernel
theorem dX0_init_1 : decode cX0_init 1 = .ok (.invokespecial 3, 3) := by decide +kernel
theorem dX0_init_4 : decode cX0_init 4 = .ok (.aload_n 0, 1) := by decide +kernel
theorem dX0_init_5 : decode cX0_init 5 = .ok (.new 9, 3) := by decide +kernel
theorem dX0_init_8 : decode cX0_init 8 = .ok (.dup, 1) := by decide +kernel
theorem dX0_init_9 : decode cX0_init 9 = .ok (.invokespecial 11, 3) := by decide +kernel
theorem dX0_init_12 : decode cX0_init 12 = .ok (.putfield 12, 3) := by decide +kernel
theorem dX0_init_15 : decode cX0_init 15 = .ok (.return_, 1) := by decide +kernel
theorem dX0_keepResult_0 : decode cX0_keepResult 0 = .ok (.aload_n 1, 1) := by decide +kernel
theorem dX0_keepResult_1 : decode cX0_keepResult 1 = .ok (.getfield 18, 3) := by decide +kernel
theorem dX0_keepResult_4 : decode cX0_keepResult 4 = .ok (.bipush 6, 2) := by decide +kernel
theorem dX0_keepResult_6 : decode cX0_keepResult 6 = .ok (.invokestatic 24, 3) := by decide +kernel
theorem dX0_keepResult_9 : decode cX0_keepResult 9 = .ok (.istore_n 2, 1) := by decide +kernel
theorem dX0_keepResult_10 : decode cX0_keepResult 10 = .ok (.aload_n 0, 1) := by decide +kernel
theorem dX0_keepResult_11 : decode cX0_keepResult 11 = .ok (.aload_n 1, 1) := by decide +kernel
theorem dX0_keepResult_12 : decode cX0_keepResult 12 = .ok (.iload_n 2, 1) := by decide +kernel
theorem dX0_keepResult_13 : decode cX0_keepResult 13 = .ok (.invokevirtual 30, 3) := by decide +kernel
theorem dX0_keepResult_16 : decode cX0_keepResult 16 = .ok (.aload_n 0, 1) := by decide +kernel
theorem dX0_keepResult_17 : decode cX0_keepResult 17 = .ok (.aload_n 1, 1) := by decide +kernel
theorem dX0_keepResult_18 : decode cX0_keepResult 18 = .ok (.iload_n 2, 1) := by decide +kernel
theorem dX0_keepResult_19 : decode cX0_keepResult 19 = .ok (.invokevirtual 34, 3) := by decide +kernel
theorem dX0_keepResult_22 : decode cX0_keepResult 22 = .ok (.return_, 1) := by decide +kernel
theorem dX0_addResult_0 : decode cX0_addResult 0 = .ok (.aload_n 0, 1) := by decide +kernel
theorem dX0_addResult_1 : decode cX0_addResult 1 = .ok (.getfield 12, 3) := by decide +kernel
theorem dX0_addResult_4 : decode cX0_addResult 4 = .ok (.astore_n 3, 1) := by decide +kernel
theorem dX0_addResult_5 : decode cX0_addResult 5 = .ok (.iconst 0, 1) := by decide +kernel
theorem dX0_addResult_6 : decode cX0_addResult 6 = .ok (.istore 4, 2) := by decide +kernel
theorem dX0_addResult_8 : decode cX0_addResult 8 = .ok (.iload 4, 2) := by decide +kernel
theorem dX0_addResult_10 : decode cX0_addResult 10 = .ok (.iload_n 2, 1) := by decide +kernel
theorem dX0_addResult_11 : decode cX0_addResult 11 = .ok (.if_icmp .ge 55, 3) := by decide +kernel
theorem dX0_addResult_14 : decode cX0_addResult 14 = .ok (.aload_n 3, 1) := by decide +kernel
theorem dX0_addResult_15 : decode cX0_addResult 15 = .ok (.aload_n 1, 1) := by decide +kernel
theorem dX0_addResult_16 : decode cX0_addResult 16 = .ok (.iload 4, 2) := by decide +kernel
theorem dX0_addResult_18 : decode cX0_addResult 18 = .ok (.invokevirtual 37, 3) := by decide +kernel
theorem dX0_addResult_21 : decode cX0_addResult 21 = .ok (.invokevirtual 41, 3) := by decide +kernel
theorem dX0_addResult_24 : decode cX0_addResult 24 = .ok (.astore_n 3, 1) := by decide +kernel
theorem dX0_addResult_25 : decode cX0_addResult 25 = .ok (.aload_n 3, 1) := by decide +kernel
theorem dX0_addResult_26 : decode cX0_addResult 26 = .ok (.ifnull 10, 3) := by decide +kernel
theorem dX0_addResult_29 : decode cX0_addResult 29 = .ok (.aload_n 3, 1) := by decide +kernel
theorem dX0_addResult_30 : decode cX0_addResult 30 = .ok (.getfield 45, 3) := by decide +kernel
theorem dX0_addResult_33 : decode cX0_addResult 33 = .ok (.ifCond .eq 4, 3) := by decide +kernel
theorem dX0_addResult_36 : decode cX0_addResult 36 = .ok (.return_, 1) := by decide +kernel
theorem dX0_addResult_37 : decode cX0_addResult 37 = .ok (.aload_n 3, 1) := by decide +kernel
theorem dX0_addResult_38 : decode cX0_addResult 38 = .ok (.dup, 1) := by decide +kernel
theorem dX0_addResult_39 : decode cX0_addResult 39 = .ok (.getfield 49, 3) := by decide +kernel
theorem dX0_addResult_42 : decode cX0_addResult 42 = .ok (.iconst 1, 1) := by decide +kernel
theorem dX0_addResult_43 : decode cX0_addResult 43 = .ok (.iadd, 1) := by decide +kernel
theorem dX0_addResult_44 : decode cX0_addResult 44 = .ok (.putfield 49, 3) := by decide +kernel
theorem dX0_addResult_47 : decode cX0_addResult 47 = .ok (.aload_n 3, 1) := by decide +kernel
theorem dX0_addResult_48 : decode cX0_addResult 48 = .ok (.dup, 1) := by decide +kernel
theorem dX0_addResult_49 : decode cX0_addResult 49 = .ok (.getfield 52, 3) := by decide +kernel
theorem dX0_addResult_52 : decode cX0_addResult 52 = .ok (.aload_n 1, 1) := by decide +kernel
theorem dX0_addResult_53 : decode cX0_addResult 53 = .ok (.getfield 55, 3) := by decide +kernel
theorem dX0_addResult_56 : decode cX0_addResult 56 = .ok (.iadd, 1) := by decide +kernel
theorem dX0_addResult_57 : decode cX0_addResult 57 = .ok (.putfield 52, 3) := by decide +kernel
theorem dX0_addResult_60 : decode cX0_addResult 60 = .ok (.iinc 4 1, 3) := by decide +kernel
theorem dX0_addResult_63 : decode cX0_addResult 63 = .ok (.goto (-55), 3) := by decide +kernel
theorem dX0_addResult_66 : decode cX0_addResult 66 = .ok (.return_, 1) := by decide +kernel
theorem dX0_dropBadLine_0 : decode cX0_dropBadLine 0 = .ok (.aload_n 0, 1) := by decide +kernel
theorem dX0_dropBadLine_1 : decode cX0_dropBadLine 1 = .ok (.getfield 12, 3) := by decide +kernel
theorem dX0_dropBadLine_4 : decode cX0_dropBadLine 4 = .ok (.astore_n 3, 1) := by decide +kernel
theorem dX0_dropBadLine_5 : decode cX0_dropBadLine 5 = .ok (.iconst 0, 1) := by decide +kernel
theorem dX0_dropBadLine_6 : decode cX0_dropBadLine 6 = .ok (.istore 4, 2) := by decide +kernel
theorem dX0_dropBadLine_8 : decode cX0_dropBadLine 8 = .ok (.iload 4, 2) := by decide +kernel
theorem dX0_dropBadLine_10 : decode cX0_dropBadLine 10 = .ok (.iload_n 2, 1) := by decide +kernel
theorem dX0_dropBadLine_11 : decode cX0_dropBadLine 11 = .ok (.if_icmp .ge 57, 3) := by decide +kernel
theorem dX0_dropBadLine_14 : decode cX0_dropBadLine 14 = .ok (.aload_n 3, 1) := by decide +kernel
theorem dX0_dropBadLine_15 : decode cX0_dropBadLine 15 = .ok (.aload_n 1, 1) := by decide +kernel
theorem dX0_dropBadLine_16 : decode cX0_dropBadLine 16 = .ok (.iload 4, 2) := by decide +kernel
theorem dX0_dropBadLine_18 : decode cX0_dropBadLine 18 = .ok (.invokevirtual 37, 3) := by decide +kernel
theorem dX0_dropBadLine_21 : decode cX0_dropBadLine 21 = .ok (.invokevirtual 58, 3) := by decide +kernel
theorem dX0_dropBadLine_24 : decode cX0_dropBadLine 24 = .ok (.astore_n 3, 1) := by decide +kernel
theorem dX0_dropBadLine_25 : decode cX0_dropBadLine 25 = .ok (.aload_n 3, 1) := by decide +kernel
theorem dX0_dropBadLine_26 : decode cX0_dropBadLine 26 = .ok (.ifnull 10, 3) := by decide +kernel
theorem dX0_dropBadLine_29 : decode cX0_dropBadLine 29 = .ok (.aload_n 3, 1) := by decide +kernel
theorem dX0_dropBadLine_30 : decode cX0_dropBadLine 30 = .ok (.getfield 45, 3) := by decide +kernel
theorem dX0_dropBadLine_33 : decode cX0_dropBadLine 33 = .ok (.ifCond .eq 4, 3) := by decide +kernel
theorem dX0_dropBadLine_36 : decode cX0_dropBadLine 36 = .ok (.return_, 1) := by decide +kernel
theorem dX0_dropBadLine_37 : decode cX0_dropBadLine 37 = .ok (.aload_n 3, 1) := by decide +kernel
theorem dX0_dropBadLine_38 : decode cX0_dropBadLine 38 = .ok (.iload 4, 2) := by decide +kernel
theorem dX0_dropBadLine_40 : decode cX0_dropBadLine 40 = .ok (.iconst 2, 1) := by decide +kernel
theorem dX0_dropBadLine_41 : decode cX0_dropBadLine 41 = .ok (.irem, 1) := by decide +kernel
theorem dX0_dropBadLine_42 : decode cX0_dropBadLine 42 = .ok (.ifCond .ne 7, 3) := by decide +kernel
theorem dX0_dropBadLine_45 : decode cX0_dropBadLine 45 = .ok (.iconst 1, 1) := by decide +kernel
theorem dX0_dropBadLine_46 : decode cX0_dropBadLine 46 = .ok (.goto 4, 3) := by decide +kernel
theorem dX0_dropBadLine_49 : decode cX0_dropBadLine 49 = .ok (.iconst 0, 1) := by decide +kernel
theorem dX0_dropBadLine_50 : decode cX0_dropBadLine 50 = .ok (.invokevirtual 61, 3) := by decide +kernel
theorem dX0_dropBadLine_53 : decode cX0_dropBadLine 53 = .ok (.ifCond .eq 9, 3) := by decide +kernel
theorem dX0_dropBadLine_56 : decode cX0_dropBadLine 56 = .ok (.aload_n 3, 1) := by decide +kernel
theorem dX0_dropBadLine_57 : decode cX0_dropBadLine 57 = .ok (.iconst 1, 1) := by decide +kernel
theorem dX0_dropBadLine_58 : decode cX0_dropBadLine 58 = .ok (.putfield 45, 3) := by decide +kernel
theorem dX0_dropBadLine_61 : decode cX0_dropBadLine 61 = .ok (.return_, 1) := by decide +kernel
theorem dX0_dropBadLine_62 : decode cX0_dropBadLine 62 = .ok (.iinc 4 1, 3) := by decide +kernel
theorem dX0_dropBadLine_65 : decode cX0_dropBadLine 65 = .ok (.goto (-57), 3) := by decide +kernel
theorem dX0_dropBadLine_68 : decode cX0_dropBadLine 68 = .ok (.return_, 1) := by decide +kernel
theorem dX0_find_0 : decode cX0_find 0 = .ok (.aload_n 0, 1) := by decide +kernel
theorem dX0_find_1 : decode cX0_find 1 = .ok (.getfield 12, 3) := by decide +kernel
theorem dX0_find_4 : decode cX0_find 4 = .ok (.astore_n 3, 1) := by decide +kernel
theorem dX0_find_5 : decode cX0_find 5 = .ok (.iconst 0, 1) := by decide +kernel
theorem dX0_find_6 : decode cX0_find 6 = .ok (.istore 4, 2) := by decide +kernel
theorem dX0_find_8 : decode cX0_find 8 = .ok (.iload 4, 2) := by decide +kernel
theorem dX0_find_10 : decode cX0_find 10 = .ok (.iload_n 2, 1) := by decide +kernel
theorem dX0_find_11 : decode cX0_find 11 = .ok (.if_icmp .ge 24, 3) := by decide +kernel
theorem dX0_find_14 : decode cX0_find 14 = .ok (.aload_n 3, 1) := by decide +kernel
theorem dX0_find_15 : decode cX0_find 15 = .ok (.ifnull 20, 3) := by decide +kernel
theorem dX0_find_18 : decode cX0_find 18 = .ok (.aload_n 3, 1) := by decide +kernel
theorem dX0_find_19 : decode cX0_find 19 = .ok (.iload_n 1, 1) := by decide +kernel
theorem dX0_find_20 : decode cX0_find 20 = .ok (.iload 4, 2) := by decide +kernel
theorem dX0_find_22 : decode cX0_find 22 = .ok (.invokestatic 65, 3) := by decide +kernel
theorem dX0_find_25 : decode cX0_find 25 = .ok (.invokevirtual 58, 3) := by decide +kernel
theorem dX0_find_28 : decode cX0_find 28 = .ok (.astore_n 3, 1) := by decide +kernel
theorem dX0_find_29 : decode cX0_find 29 = .ok (.iinc 4 1, 3) := by decide +kernel
theorem dX0_find_32 : decode cX0_find 32 = .ok (.goto (-24), 3) := by decide +kernel
theorem dX0_find_35 : decode cX0_find 35 = .ok (.aload_n 3, 1) := by decide +kernel
theorem dX0_find_36 : decode cX0_find 36 = .ok (.areturn, 1) := by decide +kernel
theorem dX0_holdsDropped_0 : decode cX0_holdsDropped 0 = .ok (.aload_n 0, 1) := by decide +kernel
theorem dX0_holdsDropped_1 : decode cX0_holdsDropped 1 = .ok (.getfield 12, 3) := by decide +kernel
theorem dX0_holdsDropped_4 : decode cX0_holdsDropped 4 = .ok (.astore_n 3, 1) := by decide +kernel
theorem dX0_holdsDropped_5 : decode cX0_holdsDropped 5 = .ok (.iconst 0, 1) := by decide +kernel
theorem dX0_holdsDropped_6 : decode cX0_holdsDropped 6 = .ok (.istore 4, 2) := by decide +kernel
theorem dX0_holdsDropped_8 : decode cX0_holdsDropped 8 = .ok (.iload 4, 2) := by decide +kernel
theorem dX0_holdsDropped_10 : decode cX0_holdsDropped 10 = .ok (.iload_n 2, 1) := by decide +kernel
theorem dX0_holdsDropped_11 : decode cX0_holdsDropped 11 = .ok (.if_icmp .ge 37, 3) := by decide +kernel
theorem dX0_holdsDropped_14 : decode cX0_holdsDropped 14 = .ok (.aload_n 3, 1) := by decide +kernel
theorem dX0_holdsDropped_15 : decode cX0_holdsDropped 15 = .ok (.ifnull 33, 3) := by decide +kernel
theorem dX0_holdsDropped_18 : decode cX0_holdsDropped 18 = .ok (.aload_n 3, 1) := by decide +kernel
theorem dX0_holdsDropped_19 : decode cX0_holdsDropped 19 = .ok (.iload_n 1, 1) := by decide +kernel
theorem dX0_holdsDropped_20 : decode cX0_holdsDropped 20 = .ok (.iload 4, 2) := by decide +kernel
theorem dX0_holdsDropped_22 : decode cX0_holdsDropped 22 = .ok (.invokestatic 65, 3) := by decide +kernel
theorem dX0_holdsDropped_25 : decode cX0_holdsDropped 25 = .ok (.invokevirtual 58, 3) := by decide +kernel
theorem dX0_holdsDropped_28 : decode cX0_holdsDropped 28 = .ok (.astore_n 3, 1) := by decide +kernel
theorem dX0_holdsDropped_29 : decode cX0_holdsDropped 29 = .ok (.aload_n 3, 1) := by decide +kernel
theorem dX0_holdsDropped_30 : decode cX0_holdsDropped 30 = .ok (.ifnull 12, 3) := by decide +kernel
theorem dX0_holdsDropped_33 : decode cX0_holdsDropped 33 = .ok (.aload_n 3, 1) := by decide +kernel
theorem dX0_holdsDropped_34 : decode cX0_holdsDropped 34 = .ok (.getfield 45, 3) := by decide +kernel
theorem dX0_holdsDropped_37 : decode cX0_holdsDropped 37 = .ok (.ifCond .eq 5, 3) := by decide +kernel
theorem dX0_holdsDropped_40 : decode cX0_holdsDropped 40 = .ok (.iconst 1, 1) := by decide +kernel
theorem dX0_holdsDropped_41 : decode cX0_holdsDropped 41 = .ok (.ireturn, 1) := by decide +kernel
theorem dX0_holdsDropped_42 : decode cX0_holdsDropped 42 = .ok (.iinc 4 1, 3) := by decide +kernel
theorem dX0_holdsDropped_45 : decode cX0_holdsDropped 45 = .ok (.goto (-37), 3) := by decide +kernel
theorem dX0_holdsDropped_48 : decode cX0_holdsDropped 48 = .ok (.iconst 0, 1) := by decide +kernel
theorem dX0_holdsDropped_49 : decode cX0_holdsDropped 49 = .ok (.ireturn, 1) := by decide +kernel
theorem dX1_init_0 : decode cX1_init 0 = .ok (.aload_n 0, 1) := by decide +kernel
theorem dX1_init_1 : decode cX1_init 1 = .ok (.invokespecial 3, 3) := by decide +kernel
theorem dX1_init_4 : decode cX1_init 4 = .ok (.aload_n 0, 1) := by decide +kernel
theorem dX1_init_5 : decode cX1_init 5 = .ok (.bipush 12, 2) := by decide +kernel
theorem dX1_init_7 : decode cX1_init 7 = .ok (.newarray .int, 2) := by decide +kernel
theorem dX1_init_9 : decode cX1_init 9 = .ok (.putfield 9, 3) := by decide +kernel
theorem dX1_init_12 : decode cX1_init 12 = .ok (.aload_n 0, 1) := by decide +kernel
theorem dX1_init_13 : decode cX1_init 13 = .ok (.iconst 1, 1) := by decide +kernel
theorem dX1_init_14 : decode cX1_init 14 = .ok (.putfield 15, 3) := by decide +kernel
theorem dX1_init_17 : decode cX1_init 17 = .ok (.aload_n 0, 1) := by decide +kernel
theorem dX1_init_18 : decode cX1_init 18 = .ok (.aload_n 1, 1) := by decide +kernel
theorem dX1_init_19 : decode cX1_init 19 = .ok (.putfield 19, 3) := by decide +kernel
theorem dX1_init_22 : decode cX1_init 22 = .ok (.aload_n 0, 1) := by decide +kernel
theorem dX1_init_23 : decode cX1_init 23 = .ok (.aload_n 2, 1) := by decide +kernel
theorem dX1_init_24 : decode cX1_init 24 = .ok (.putfield 23, 3) := by decide +kernel
theorem dX1_init_27 : decode cX1_init 27 = .ok (.return_, 1) := by decide +kernel
theorem dX1_isFull_0 : decode cX1_isFull 0 = .ok (.aload_n 0, 1) := by decide +kernel
theorem dX1_isFull_1 : decode cX1_isFull 1 = .ok (.getfield 26, 3) := by decide +kernel
theorem dX1_isFull_4 : decode cX1_isFull 4 = .ok (.aload_n 0, 1) := by decide +kernel
theorem dX1_isFull_5 : decode cX1_isFull 5 = .ok (.getfield 9, 3) := by decide +kernel
theorem dX1_isFull_8 : decode cX1_isFull 8 = .ok (.arraylength, 1) := by decide +kernel
theorem dX1_isFull_9 : decode cX1_isFull 9 = .ok (.if_icmp .lt 7, 3) := by decide +kernel
theorem dX1_isFull_12 : decode cX1_isFull 12 = .ok (.iconst 1, 1) := by decide +kernel
theorem dX1_isFull_13 : decode cX1_isFull 13 = .ok (.goto 4, 3) := by decide +kernel
theorem dX1_isFull_16 : decode cX1_isFull 16 = .ok (.iconst 0, 1) := by decide +kernel
theorem dX1_isFull_17 : decode cX1_isFull 17 = .ok (.ireturn, 1) := by decide +kernel
theorem dX1_addMove_0 : decode cX1_addMove 0 = .ok (.aload_n 0, 1) := by decide +kernel
theorem dX1_addMove_1 : decode cX1_addMove 1 = .ok (.getfield 26, 3) := by decide +kernel
theorem dX1_addMove_4 : decode cX1_addMove 4 = .ok (.ifCond .lt 47, 3) := by decide +kernel
theorem dX1_addMove_7 : decode cX1_addMove 7 = .ok (.aload_n 0, 1) := by decide +kernel
theorem dX1_addMove_8 : decode cX1_addMove 8 = .ok (.getfield 26, 3) := by decide +kernel
theorem dX1_addMove_11 : decode cX1_addMove 11 = .ok (.aload_n 0, 1) := by decide +kernel
theorem dX1_addMove_12 : decode cX1_addMove 12 = .ok (.getfield 9, 3) := by decide +kernel
theorem dX1_addMove_15 : decode cX1_addMove 15 = .ok (.arraylength, 1) := by decide +kernel
theorem dX1_addMove_16 : decode cX1_addMove 16 = .ok (.if_icmp .ge 35, 3) := by decide +kernel
theorem dX1_addMove_19 : decode cX1_addMove 19 = .ok (.aload_n 0, 1) := by decide +kernel
theorem dX1_addMove_20 : decode cX1_addMove 20 = .ok (.getfield 9, 3) := by decide +kernel
theorem dX1_addMove_23 : decode cX1_addMove 23 = .ok (.aload_n 0, 1) := by decide +kernel
theorem dX1_addMove_24 : decode cX1_addMove 24 = .ok (.getfield 26, 3) := by decide +kernel
theorem dX1_addMove_27 : decode cX1_addMove 27 = .ok (.iload_n 1, 1) := by decide +kernel
theorem dX1_addMove_28 : decode cX1_addMove 28 = .ok (.iastore, 1) := by decide +kernel
theorem dX1_addMove_29 : decode cX1_addMove 29 = .ok (.aload_n 0, 1) := by decide +kernel
theorem dX1_addMove_30 : decode cX1_addMove 30 = .ok (.dup, 1) := by decide +kernel
theorem dX1_addMove_31 : decode cX1_addMove 31 = .ok (.getfield 26, 3) := by decide +kernel
theorem dX1_addMove_34 : decode cX1_addMove 34 = .ok (.iconst 1, 1) := by decide +kernel
theorem dX1_addMove_35 : decode cX1_addMove 35 = .ok (.iadd, 1) := by decide +kernel
theorem dX1_addMove_36 : decode cX1_addMove 36 = .ok (.putfield 26, 3) := by decide +kernel
theorem dX1_addMove_39 : decode cX1_addMove 39 = .ok (.aload_n 0, 1) := by decide +kernel
theorem dX1_addMove_40 : decode cX1_addMove 40 = .ok (.aload_n 0, 1) := by decide +kernel
theorem dX1_addMove_41 : decode cX1_addMove 41 = .ok (.getfield 15, 3) := by decide +kernel
theorem dX1_addMove_44 : decode cX1_addMove 44 = .ok (.iload_n 1, 1) := by decide +kernel
theorem dX1_addMove_45 : decode cX1_addMove 45 = .ok (.invokestatic 29, 3) := by decide +kernel
theorem dX1_addMove_48 : decode cX1_addMove 48 = .ok (.putfield 15, 3) := by decide +kernel
theorem dX1_addMove_51 : decode cX1_addMove 51 = .ok (.return_, 1) := by decide +kernel
theorem dX1_moveAt_0 : decode cX1_moveAt 0 = .ok (.iload_n 1, 1) := by decide +kernel
theorem dX1_moveAt_1 : decode cX1_moveAt 1 = .ok (.ifCond .lt 21, 3) := by decide +kernel
theorem dX1_moveAt_4 : decode cX1_moveAt 4 = .ok (.iload_n 1, 1) := by decide +kernel
theorem dX1_moveAt_5 : decode cX1_moveAt 5 = .ok (.aload_n 0, 1) := by decide +kernel
theorem dX1_moveAt_6 : decode cX1_moveAt 6 = .ok (.getfield 9, 3) := by decide +kernel
theorem dX1_moveAt_9 : decode cX1_moveAt 9 = .ok (.arraylength, 1) := by decide +kernel
theorem dX1_moveAt_10 : decode cX1_moveAt 10 = .ok (.if_icmp .ge 12, 3) := by decide +kernel
theorem dX1_moveAt_13 : decode cX1_moveAt 13 = .ok (.aload_n 0, 1) := by decide +kernel
theorem dX1_moveAt_14 : decode cX1_moveAt 14 = .ok (.getfield 9, 3) := by decide +kernel
theorem dX1_moveAt_17 : decode cX1_moveAt 17 = .ok (.iload_n 1, 1) := by decide +kernel
theorem dX1_moveAt_18 : decode cX1_moveAt 18 = .ok (.iaload, 1) := by decide +kernel
theorem dX1_moveAt_19 : decode cX1_moveAt 19 = .ok (.goto 4, 3) := by decide +kernel
theorem dX1_moveAt_22 : decode cX1_moveAt 22 = .ok (.iconst 0, 1) := by decide +kernel
theorem dX1_moveAt_23 : decode cX1_moveAt 23 = .ok (.ireturn, 1) := by decide +kernel
theorem dX1_beginsWith_0 : decode cX1_beginsWith 0 = .ok (.aload_n 0, 1) := by decide +kernel
theorem dX1_beginsWith_1 : decode cX1_beginsWith 1 = .ok (.getfield 26, 3) := by decide +kernel
theorem dX1_beginsWith_4 : decode cX1_beginsWith 4 = .ok (.iload_n 2, 1) := by decide +kernel
theorem dX1_beginsWith_5 : decode cX1_beginsWith 5 = .ok (.if_icmp .ge 5, 3) := by decide +kernel
theorem dX1_beginsWith_8 : decode cX1_beginsWith 8 = .ok (.iconst 0, 1) := by decide +kernel
theorem dX1_beginsWith_9 : decode cX1_beginsWith 9 = .ok (.ireturn, 1) := by decide +kernel
theorem dX1_beginsWith_10 : decode cX1_beginsWith 10 = .ok (.iconst 0, 1) := by decide +kernel
theorem dX1_beginsWith_11 : decode cX1_beginsWith 11 = .ok (.istore_n 3, 1) := by decide +kernel
theorem dX1_beginsWith_12 : decode cX1_beginsWith 12 = .ok (.iload_n 3, 1) := by decide +kernel
theorem dX1_beginsWith_13 : decode cX1_beginsWith 13 = .ok (.iload_n 2, 1) := by decide +kernel
theorem dX1_beginsWith_14 : decode cX1_beginsWith 14 = .ok (.if_icmp .ge 24, 3) := by decide +kernel
theorem dX1_beginsWith_17 : decode cX1_beginsWith 17 = .ok (.aload_n 0, 1) := by decide +kernel
theorem dX1_beginsWith_18 : decode cX1_beginsWith 18 = .ok (.iload_n 3, 1) := by decide +kernel
theorem dX1_beginsWith_19 : decode cX1_beginsWith 19 = .ok (.invokevirtual 33, 3) := by decide +kernel
theorem dX1_beginsWith_22 : decode cX1_beginsWith 22 = .ok (.iload_n 1, 1) := by decide +kernel
theorem dX1_beginsWith_23 : decode cX1_beginsWith 23 = .ok (.iload_n 3, 1) := by decide +kernel
theorem dX1_beginsWith_24 : decode cX1_beginsWith 24 = .ok (.invokestatic 37, 3) := by decide +kernel
theorem dX1_beginsWith_27 : decode cX1_beginsWith 27 = .ok (.if_icmp .eq 5, 3) := by decide +kernel
theorem dX1_beginsWith_30 : decode cX1_beginsWith 30 = .ok (.iconst 0, 1) := by decide +kernel
theorem dX1_beginsWith_31 : decode cX1_beginsWith 31 = .ok (.ireturn, 1) := by decide +kernel
theorem dX1_beginsWith_32 : decode cX1_beginsWith 32 = .ok (.iinc 3 1, 3) := by decide +kernel
theorem dX1_beginsWith_35 : decode cX1_beginsWith 35 = .ok (.goto (-23), 3) := by decide +kernel
theorem dX1_beginsWith_38 : decode cX1_beginsWith 38 = .ok (.iconst 1, 1) := by decide +kernel
theorem dX1_beginsWith_39 : decode cX1_beginsWith 39 = .ok (.ireturn, 1) := by decide +kernel
theorem dX2_init_0 : decode cX2_init 0 = .ok (.aload_n 0, 1) := by decide +kernel
theorem dX2_init_1 : decode cX2_init 1 = .ok (.invokespecial 3, 3) := by decide +kernel
theorem dX2_init_4 : decode cX2_init 4 = .ok (.aload_n 0, 1) := by decide +kernel
theorem dX2_init_5 : decode cX2_init 5 = .ok (.iconst 4, 1) := by decide +kernel
theorem dX2_init_6 : decode cX2_init 6 = .ok (.anewarray 9, 3) := by decide +kernel
theorem dX2_init_9 : decode cX2_init 9 = .ok (.putfield 11, 3) := by decide +kernel
theorem dX2_init_12 : decode cX2_init 12 = .ok (.return_, 1) := by decide +kernel
theorem dX2_goingOnWith_0 : decode cX2_goingOnWith 0 = .ok (.iload_n 1, 1) := by decide +kernel
theorem dX2_goingOnWith_1 : decode cX2_goingOnWith 1 = .ok (.ifCond .lt 21, 3) := by decide +kernel
theorem dX2_goingOnWith_4 : decode cX2_goingOnWith 4 = .ok (.iload_n 1, 1) := by decide +kernel
theorem dX2_goingOnWith_5 : decode cX2_goingOnWith 5 = .ok (.aload_n 0, 1) := by decide +kernel
theorem dX2_goingOnWith_6 : decode cX2_goingOnWith 6 = .ok (.getfield 11, 3) := by decide +kernel
theorem dX2_goingOnWith_9 : decode cX2_goingOnWith 9 = .ok (.arraylength, 1) := by decide +kernel
theorem dX2_goingOnWith_10 : decode cX2_goingOnWith 10 = .ok (.if_icmp .ge 12, 3) := by decide +kernel
theorem dX2_goingOnWith_13 : decode cX2_goingOnWith 13 = .ok (.aload_n 0, 1) := by decide +kernel
theorem dX2_goingOnWith_14 : decode cX2_goingOnWith 14 = .ok (.getfield 11, 3) := by decide +kernel
theorem dX2_goingOnWith_17 : decode cX2_goingOnWith 17 = .ok (.iload_n 1, 1) := by decide +kernel
theorem dX2_goingOnWith_18 : decode cX2_goingOnWith 18 = .ok (.aaload, 1) := by decide +kernel
theorem dX2_goingOnWith_19 : decode cX2_goingOnWith 19 = .ok (.goto 4, 3) := by decide +kernel
theorem dX2_goingOnWith_22 : decode cX2_goingOnWith 22 = .ok (.aconst_null, 1) := by decide +kernel
theorem dX2_goingOnWith_23 : decode cX2_goingOnWith 23 = .ok (.areturn, 1) := by decide +kernel
theorem dX2_madeWith_0 : decode cX2_madeWith 0 = .ok (.iload_n 1, 1) := by decide +kernel
theorem dX2_madeWith_1 : decode cX2_madeWith 1 = .ok (.ifCond .lt 12, 3) := by decide +kernel
theorem dX2_madeWith_4 : decode cX2_madeWith 4 = .ok (.iload_n 1, 1) := by decide +kernel
theorem dX2_madeWith_5 : decode cX2_madeWith 5 = .ok (.aload_n 0, 1) := by decide +kernel
theorem dX2_madeWith_6 : decode cX2_madeWith 6 = .ok (.getfield 11, 3) := by decide +kernel
theorem dX2_madeWith_9 : decode cX2_madeWith 9 = .ok (.arraylength, 1) := by decide +kernel
theorem dX2_madeWith_10 : decode cX2_madeWith 10 = .ok (.if_icmp .lt 5, 3) := by decide +kernel
theorem dX2_madeWith_13 : decode cX2_madeWith 13 = .ok (.aconst_null, 1) := by decide +kernel
theorem dX2_madeWith_14 : decode cX2_madeWith 14 = .ok (.areturn, 1) := by decide +kernel
theorem dX2_madeWith_15 : decode cX2_madeWith 15 = .ok (.aload_n 0, 1) := by decide +kernel
theorem dX2_madeWith_16 : decode cX2_madeWith 16 = .ok (.getfield 11, 3) := by decide +kernel
theorem dX2_madeWith_19 : decode cX2_madeWith 19 = .ok (.iload_n 1, 1) := by decide +kernel
theorem dX2_madeWith_20 : decode cX2_madeWith 20 = .ok (.aaload, 1) := by decide +kernel
theorem dX2_madeWith_21 : decode cX2_madeWith 21 = .ok (.astore_n 2, 1) := by decide +kernel
theorem dX2_madeWith_22 : decode cX2_madeWith 22 = .ok (.aload_n 2, 1) := by decide +kernel
theorem dX2_madeWith_23 : decode cX2_madeWith 23 = .ok (.ifnonnull 18, 3) := by decide +kernel
theorem dX2_madeWith_26 : decode cX2_madeWith 26 = .ok (.new 9, 3) := by decide +kernel
theorem dX2_madeWith_29 : decode cX2_madeWith 29 = .ok (.dup, 1) := by decide +kernel
theorem dX2_madeWith_30 : decode cX2_madeWith 30 = .ok (.invokespecial 15, 3) := by decide +kernel
theorem dX2_madeWith_33 : decode cX2_madeWith 33 = .ok (.astore_n 2, 1) := by decide +kernel
theorem dX2_madeWith_34 : decode cX2_madeWith 34 = .ok (.aload_n 0, 1) := by decide +kernel
theorem dX2_madeWith_35 : decode cX2_madeWith 35 = .ok (.getfield 11, 3) := by decide +kernel
theorem dX2_madeWith_38 : decode cX2_madeWith 38 = .ok (.iload_n 1, 1) := by decide +kernel
theorem dX2_madeWith_39 : decode cX2_madeWith 39 = .ok (.aload_n 2, 1) := by decide +kernel
theorem dX2_madeWith_40 : decode cX2_madeWith 40 = .ok (.aastore, 1) := by decide +kernel
theorem dX2_madeWith_41 : decode cX2_madeWith 41 = .ok (.aload_n 2, 1) := by decide +kernel
theorem dX2_madeWith_42 : decode cX2_madeWith 42 = .ok (.areturn, 1) := by decide +kernel
theorem dX2_doesBadly_0 : decode cX2_doesBadly 0 = .ok (.iload_n 1, 1) := by decide +kernel
theorem dX2_doesBadly_1 : decode cX2_doesBadly 1 = .ok (.ifCond .eq 10, 3) := by decide +kernel
theorem dX2_doesBadly_4 : decode cX2_doesBadly 4 = .ok (.aload_n 0, 1) := by decide +kernel
theorem dX2_doesBadly_5 : decode cX2_doesBadly 5 = .ok (.getfield 16, 3) := by decide +kernel
theorem dX2_doesBadly_8 : decode cX2_doesBadly 8 = .ok (.goto 14, 3) := by decide +kernel
theorem dX2_doesBadly_11 : decode cX2_doesBadly 11 = .ok (.iconst 2, 1) := by decide +kernel
theorem dX2_doesBadly_12 : decode cX2_doesBadly 12 = .ok (.aload_n 0, 1) := by decide +kernel
theorem dX2_doesBadly_13 : decode cX2_doesBadly 13 = .ok (.getfield 20, 3) := by decide +kernel
theorem dX2_doesBadly_16 : decode cX2_doesBadly 16 = .ok (.imul, 1) := by decide +kernel
theorem dX2_doesBadly_17 : decode cX2_doesBadly 17 = .ok (.aload_n 0, 1) := by decide +kernel
theorem dX2_doesBadly_18 : decode cX2_doesBadly 18 = .ok (.getfield 16, 3) := by decide +kernel
theorem dX2_doesBadly_21 : decode cX2_doesBadly 21 = .ok (.isub, 1) := by decide +kernel
theorem dX2_doesBadly_22 : decode cX2_doesBadly 22 = .ok (.istore_n 2, 1) := by decide +kernel
theorem dX2_doesBadly_23 : decode cX2_doesBadly 23 = .ok (.aload_n 0, 1) := by decide +kernel
theorem dX2_doesBadly_24 : decode cX2_doesBadly 24 = .ok (.getfield 20, 3) := by decide +kernel
theorem dX2_doesBadly_27 : decode cX2_doesBadly 27 = .ok (.iconst 3, 1) := by decide +kernel
theorem dX2_doesBadly_28 : decode cX2_doesBadly 28 = .ok (.if_icmp .lt 19, 3) := by decide +kernel
theorem dX2_doesBadly_31 : decode cX2_doesBadly 31 = .ok (.iconst 3, 1) := by decide +kernel
theorem dX2_doesBadly_32 : decode cX2_doesBadly 32 = .ok (.iload_n 2, 1) := by decide +kernel
theorem dX2_doesBadly_33 : decode cX2_doesBadly 33 = .ok (.imul, 1) := by decide +kernel
theorem dX2_doesBadly_34 : decode cX2_doesBadly 34 = .ok (.iconst 2, 1) := by decide +kernel
theorem dX2_doesBadly_35 : decode cX2_doesBadly 35 = .ok (.aload_n 0, 1) := by decide +kernel
theorem dX2_doesBadly_36 : decode cX2_doesBadly 36 = .ok (.getfield 20, 3) := by decide +kernel
theorem dX2_doesBadly_39 : decode cX2_doesBadly 39 = .ok (.imul, 1) := by decide +kernel
theorem dX2_doesBadly_40 : decode cX2_doesBadly 40 = .ok (.if_icmp .ge 7, 3) := by decide +kernel
theorem dX2_doesBadly_43 : decode cX2_doesBadly 43 = .ok (.iconst 1, 1) := by decide +kernel
theorem dX2_doesBadly_44 : decode cX2_doesBadly 44 = .ok (.goto 4, 3) := by decide +kernel
theorem dX2_doesBadly_47 : decode cX2_doesBadly 47 = .ok (.iconst 0, 1) := by decide +kernel
theorem dX2_doesBadly_48 : decode cX2_doesBadly 48 = .ok (.ireturn, 1) := by decide +kernel
theorem dX3_init_0 : decode cX3_init 0 = .ok (.aload_n 0, 1) := by decide +kernel
theorem dX3_init_1 : decode cX3_init 1 = .ok (.invokespecial 3, 3) := by decide +kernel
theorem dX3_init_4 : decode cX3_init 4 = .ok (.aload_n 0, 1) := by decide +kernel
theorem dX3_init_5 : decode cX3_init 5 = .ok (.iconst 5, 1) := by decide +kernel
theorem dX3_init_6 : decode cX3_init 6 = .ok (.newarray .int, 2) := by decide +kernel
theorem dX3_init_8 : decode cX3_init 8 = .ok (.putfield 9, 3) := by decide +kernel
theorem dX3_init_11 : decode cX3_init 11 = .ok (.aload_n 0, 1) := by decide +kernel
theorem dX3_init_12 : decode cX3_init 12 = .ok (.bipush 40, 2) := by decide +kernel
theorem dX3_init_14 : decode cX3_init 14 = .ok (.newarray .boolean, 2) := by decide +kernel
theorem dX3_init_16 : decode cX3_init 16 = .ok (.putfield 15, 3) := by decide +kernel
theorem dX3_init_19 : decode cX3_init 19 = .ok (.aload_n 0, 1) := by decide +kernel
theorem dX3_init_20 : decode cX3_init 20 = .ok (.bipush 8, 2) := by decide +kernel
theorem dX3_init_22 : decode cX3_init 22 = .ok (.newarray .boolean, 2) := by decide +kernel
theorem dX3_init_24 : decode cX3_init 24 = .ok (.putfield 19, 3) := by decide +kernel
theorem dX3_init_27 : decode cX3_init 27 = .ok (.aload_n 0, 1) := by decide +kernel
theorem dX3_init_28 : decode cX3_init 28 = .ok (.iload_n 1, 1) := by decide +kernel
theorem dX3_init_29 : decode cX3_init 29 = .ok (.putfield 22, 3) := by decide +kernel
theorem dX3_init_32 : decode cX3_init 32 = .ok (.iconst 0, 1) := by decide +kernel
theorem dX3_init_33 : decode cX3_init 33 = .ok (.istore_n 2, 1) := by decide +kernel
theorem dX3_init_34 : decode cX3_init 34 = .ok (.iload_n 2, 1) := by decide +kernel
theorem dX3_init_35 : decode cX3_init 35 = .ok (.aload_n 0, 1) := by decide +kernel
theorem dX3_init_36 : decode cX3_init 36 = .ok (.getfield 9, 3) := by decide +kernel
theorem dX3_init_39 : decode cX3_init 39 = .ok (.arraylength, 1) := by decide +kernel
theorem dX3_init_40 : decode cX3_init 40 = .ok (.if_icmp .ge 18, 3) := by decide +kernel
theorem dX3_init_43 : decode cX3_init 43 = .ok (.aload_n 0, 1) := by decide +kernel
theorem dX3_init_44 : decode cX3_init 44 = .ok (.getfield 9, 3) := by decide +kernel
theorem dX3_init_47 : decode cX3_init 47 = .ok (.iload_n 2, 1) := by decide +kernel
theorem dX3_init_48 : decode cX3_init 48 = .ok (.sipush 1000, 3) := by decide +kernel
theorem dX3_init_51 : decode cX3_init 51 = .ok (.iastore, 1) := by decide +kernel
theorem dX3_init_52 : decode cX3_init 52 = .ok (.iinc 2 1, 3) := by decide +kernel
theorem dX3_init_55 : decode cX3_init 55 = .ok (.goto (-21), 3) := by decide +kernel
theorem dX3_init_58 : decode cX3_init 58 = .ok (.return_, 1) := by decide +kernel
theorem dX3_endGameAsWhite_0 : decode cX3_endGameAsWhite 0 = .ok (.aload_n 0, 1) := by decide +kernel
theorem dX3_endGameAsWhite_1 : decode cX3_endGameAsWhite 1 = .ok (.dup, 1) := by decide +kernel
theorem dX3_endGameAsWhite_2 : decode cX3_endGameAsWhite 2 = .ok (.getfield 26, 3) := by decide +kernel
theorem dX3_endGameAsWhite_5 : decode cX3_endGameAsWhite 5 = .ok (.iconst 1, 1) := by decide +kernel
theorem dX3_endGameAsWhite_6 : decode cX3_endGameAsWhite 6 = .ok (.iadd, 1) := by decide +kernel
theorem dX3_endGameAsWhite_7 : decode cX3_endGameAsWhite 7 = .ok (.putfield 26, 3) := by decide +kernel
theorem dX3_endGameAsWhite_10 : decode cX3_endGameAsWhite 10 = .ok (.aload_n 0, 1) := by decide +kernel
theorem dX3_endGameAsWhite_11 : decode cX3_endGameAsWhite 11 = .ok (.aload_n 1, 1) := by decide +kernel
theorem dX3_endGameAsWhite_12 : decode cX3_endGameAsWhite 12 = .ok (.iload_n 2, 1) := by decide +kernel
theorem dX3_endGameAsWhite_13 : decode cX3_endGameAsWhite 13 = .ok (.invokevirtual 29, 3) := by decide +kernel
theorem dX3_endGameAsWhite_16 : decode cX3_endGameAsWhite 16 = .ok (.return_, 1) := by decide +kernel
theorem dX3_endGameAsBlack_0 : decode cX3_endGameAsBlack 0 = .ok (.aload_n 0, 1) := by decide +kernel
theorem dX3_endGameAsBlack_1 : decode cX3_endGameAsBlack 1 = .ok (.dup, 1) := by decide +kernel
theorem dX3_endGameAsBlack_2 : decode cX3_endGameAsBlack 2 = .ok (.getfield 33, 3) := by decide +kernel
theorem dX3_endGameAsBlack_5 : decode cX3_endGameAsBlack 5 = .ok (.iconst 1, 1) := by decide +kernel
theorem dX3_endGameAsBlack_6 : decode cX3_endGameAsBlack 6 = .ok (.iadd, 1) := by decide +kernel
theorem dX3_endGameAsBlack_7 : decode cX3_endGameAsBlack 7 = .ok (.putfield 33, 3) := by decide +kernel
theorem dX3_endGameAsBlack_10 : decode cX3_endGameAsBlack 10 = .ok (.aload_n 0, 1) := by decide +kernel
theorem dX3_endGameAsBlack_11 : decode cX3_endGameAsBlack 11 = .ok (.aload_n 1, 1) := by decide +kernel
theorem dX3_endGameAsBlack_12 : decode cX3_endGameAsBlack 12 = .ok (.iload_n 2, 1) := by decide +kernel
theorem dX3_endGameAsBlack_13 : decode cX3_endGameAsBlack 13 = .ok (.invokevirtual 29, 3) := by decide +kernel
theorem dX3_endGameAsBlack_16 : decode cX3_endGameAsBlack 16 = .ok (.return_, 1) := by decide +kernel
theorem dX3_endGame_0 : decode cX3_endGame 0 = .ok (.aload_n 0, 1) := by decide +kernel
theorem dX3_endGame_1 : decode cX3_endGame 1 = .ok (.dup, 1) := by decide +kernel
theorem dX3_endGame_2 : decode cX3_endGame 2 = .ok (.getfield 36, 3) := by decide +kernel
theorem dX3_endGame_5 : decode cX3_endGame 5 = .ok (.iload_n 2, 1) := by decide +kernel
theorem dX3_endGame_6 : decode cX3_endGame 6 = .ok (.iadd, 1) := by decide +kernel
theorem dX3_endGame_7 : decode cX3_endGame 7 = .ok (.putfield 36, 3) := by decide +kernel
theorem dX3_endGame_10 : decode cX3_endGame 10 = .ok (.aload_n 1, 1) := by decide +kernel
theorem dX3_endGame_11 : decode cX3_endGame 11 = .ok (.getfield 22, 3) := by decide +kernel
theorem dX3_endGame_14 : decode cX3_endGame 14 = .ok (.ifCond .lt 25, 3) := by decide +kernel
theorem dX3_endGame_17 : decode cX3_endGame 17 = .ok (.aload_n 1, 1) := by decide +kernel
theorem dX3_endGame_18 : decode cX3_endGame 18 = .ok (.getfield 22, 3) := by decide +kernel
theorem dX3_endGame_21 : decode cX3_endGame 21 = .ok (.aload_n 0, 1) := by decide +kernel
theorem dX3_endGame_22 : decode cX3_endGame 22 = .ok (.getfield 19, 3) := by decide +kernel
theorem dX3_endGame_25 : decode cX3_endGame 25 = .ok (.arraylength, 1) := by decide +kernel
theorem dX3_endGame_26 : decode cX3_endGame 26 = .ok (.if_icmp .ge 13, 3) := by decide +kernel
theorem dX3_endGame_29 : decode cX3_endGame 29 = .ok (.aload_n 0, 1) := by decide +kernel
theorem dX3_endGame_30 : decode cX3_endGame 30 = .ok (.getfield 19, 3) := by decide +kernel
theorem dX3_endGame_33 : decode cX3_endGame 33 = .ok (.aload_n 1, 1) := by decide +kernel
theorem dX3_endGame_34 : decode cX3_endGame 34 = .ok (.getfield 22, 3) := by decide +kernel
theorem dX3_endGame_37 : decode cX3_endGame 37 = .ok (.iconst 1, 1) := by decide +kernel
theorem dX3_endGame_38 : decode cX3_endGame 38 = .ok (.bastore, 1) := by decide +kernel
theorem dX3_endGame_39 : decode cX3_endGame 39 = .ok (.return_, 1) := by decide +kernel
theorem dX3_hasMet_0 : decode cX3_hasMet 0 = .ok (.aload_n 1, 1) := by decide +kernel
theorem dX3_hasMet_1 : decode cX3_hasMet 1 = .ok (.getfield 22, 3) := by decide +kernel
theorem dX3_hasMet_4 : decode cX3_hasMet 4 = .ok (.ifCond .lt 31, 3) := by decide +kernel
theorem dX3_hasMet_7 : decode cX3_hasMet 7 = .ok (.aload_n 1, 1) := by decide +kernel
theorem dX3_hasMet_8 : decode cX3_hasMet 8 = .ok (.getfield 22, 3) := by decide +kernel
theorem dX3_hasMet_11 : decode cX3_hasMet 11 = .ok (.aload_n 0, 1) := by decide +kernel
theorem dX3_hasMet_12 : decode cX3_hasMet 12 = .ok (.getfield 19, 3) := by decide +kernel
theorem dX3_hasMet_15 : decode cX3_hasMet 15 = .ok (.arraylength, 1) := by decide +kernel
theorem dX3_hasMet_16 : decode cX3_hasMet 16 = .ok (.if_icmp .ge 19, 3) := by decide +kernel
theorem dX3_hasMet_19 : decode cX3_hasMet 19 = .ok (.aload_n 0, 1) := by decide +kernel
theorem dX3_hasMet_20 : decode cX3_hasMet 20 = .ok (.getfield 19, 3) := by decide +kernel
theorem dX3_hasMet_23 : decode cX3_hasMet 23 = .ok (.aload_n 1, 1) := by decide +kernel
theorem dX3_hasMet_24 : decode cX3_hasMet 24 = .ok (.getfield 22, 3) := by decide +kernel
theorem dX3_hasMet_27 : decode cX3_hasMet 27 = .ok (.baload, 1) := by decide +kernel
theorem dX3_hasMet_28 : decode cX3_hasMet 28 = .ok (.ifCond .eq 7, 3) := by decide +kernel
theorem dX3_hasMet_31 : decode cX3_hasMet 31 = .ok (.iconst 1, 1) := by decide +kernel
theorem dX3_hasMet_32 : decode cX3_hasMet 32 = .ok (.goto 4, 3) := by decide +kernel
theorem dX3_hasMet_35 : decode cX3_hasMet 35 = .ok (.iconst 0, 1) := by decide +kernel
theorem dX3_hasMet_36 : decode cX3_hasMet 36 = .ok (.ireturn, 1) := by decide +kernel
theorem dX3_colourBalance_0 : decode cX3_colourBalance 0 = .ok (.aload_n 0, 1) := by decide +kernel
theorem dX3_colourBalance_1 : decode cX3_colourBalance 1 = .ok (.getfield 26, 3) := by decide +kernel
theorem dX3_colourBalance_4 : decode cX3_colourBalance 4 = .ok (.aload_n 0, 1) := by decide +kernel
theorem dX3_colourBalance_5 : decode cX3_colourBalance 5 = .ok (.getfield 33, 3) := by decide +kernel
theorem dX3_colourBalance_8 : decode cX3_colourBalance 8 = .ok (.isub, 1) := by decide +kernel
theorem dX3_colourBalance_9 : decode cX3_colourBalance 9 = .ok (.ireturn, 1) := by decide +kernel
theorem dX3_standsAheadOf_0 : decode cX3_standsAheadOf 0 = .ok (.aload_n 1, 1) := by decide +kernel
theorem dX3_standsAheadOf_1 : decode cX3_standsAheadOf 1 = .ok (.ifnull 14, 3) := by decide +kernel
theorem dX3_standsAheadOf_4 : decode cX3_standsAheadOf 4 = .ok (.aload_n 0, 1) := by decide +kernel
theorem dX3_standsAheadOf_5 : decode cX3_standsAheadOf 5 = .ok (.getfield 36, 3) := by decide +kernel
theorem dX3_standsAheadOf_8 : decode cX3_standsAheadOf 8 = .ok (.aload_n 1, 1) := by decide +kernel
theorem dX3_standsAheadOf_9 : decode cX3_standsAheadOf 9 = .ok (.getfield 36, 3) := by decide +kernel
theorem dX3_standsAheadOf_12 : decode cX3_standsAheadOf 12 = .ok (.if_icmp .le 5, 3) := by decide +kernel
theorem dX3_standsAheadOf_15 : decode cX3_standsAheadOf 15 = .ok (.iconst 1, 1) := by decide +kernel
theorem dX3_standsAheadOf_16 : decode cX3_standsAheadOf 16 = .ok (.ireturn, 1) := by decide +kernel
theorem dX3_standsAheadOf_17 : decode cX3_standsAheadOf 17 = .ok (.aload_n 0, 1) := by decide +kernel
theorem dX3_standsAheadOf_18 : decode cX3_standsAheadOf 18 = .ok (.getfield 36, 3) := by decide +kernel
theorem dX3_standsAheadOf_21 : decode cX3_standsAheadOf 21 = .ok (.aload_n 1, 1) := by decide +kernel
theorem dX3_standsAheadOf_22 : decode cX3_standsAheadOf 22 = .ok (.getfield 36, 3) := by decide +kernel
theorem dX3_standsAheadOf_25 : decode cX3_standsAheadOf 25 = .ok (.if_icmp .ne 18, 3) := by decide +kernel
theorem dX3_standsAheadOf_28 : decode cX3_standsAheadOf 28 = .ok (.aload_n 0, 1) := by decide +kernel
theorem dX3_standsAheadOf_29 : decode cX3_standsAheadOf 29 = .ok (.getfield 22, 3) := by decide +kernel
theorem dX3_standsAheadOf_32 : decode cX3_standsAheadOf 32 = .ok (.aload_n 1, 1) := by decide +kernel
theorem dX3_standsAheadOf_33 : decode cX3_standsAheadOf 33 = .ok (.getfield 22, 3) := by decide +kernel
theorem dX3_standsAheadOf_36 : decode cX3_standsAheadOf 36 = .ok (.if_icmp .ge 7, 3) := by decide +kernel
theorem dX3_standsAheadOf_39 : decode cX3_standsAheadOf 39 = .ok (.iconst 1, 1) := by decide +kernel
theorem dX3_standsAheadOf_40 : decode cX3_standsAheadOf 40 = .ok (.goto 4, 3) := by decide +kernel
theorem dX3_standsAheadOf_43 : decode cX3_standsAheadOf 43 = .ok (.iconst 0, 1) := by decide +kernel
theorem dX3_standsAheadOf_44 : decode cX3_standsAheadOf 44 = .ok (.ireturn, 1) := by decide +kernel
theorem dX3_hasTried_0 : decode cX3_hasTried 0 = .ok (.iload_n 1, 1) := by decide +kernel
theorem dX3_hasTried_1 : decode cX3_hasTried 1 = .ok (.ifCond .lt 25, 3) := by decide +kernel
theorem dX3_hasTried_4 : decode cX3_hasTried 4 = .ok (.iload_n 1, 1) := by decide +kernel
theorem dX3_hasTried_5 : decode cX3_hasTried 5 = .ok (.aload_n 0, 1) := by decide +kernel
theorem dX3_hasTried_6 : decode cX3_hasTried 6 = .ok (.getfield 15, 3) := by decide +kernel
theorem dX3_hasTried_9 : decode cX3_hasTried 9 = .ok (.arraylength, 1) := by decide +kernel
theorem dX3_hasTried_10 : decode cX3_hasTried 10 = .ok (.if_icmp .ge 16, 3) := by decide +kernel
theorem dX3_hasTried_13 : decode cX3_hasTried 13 = .ok (.aload_n 0, 1) := by decide +kernel
theorem dX3_hasTried_14 : decode cX3_hasTried 14 = .ok (.getfield 15, 3) := by decide +kernel
theorem dX3_hasTried_17 : decode cX3_hasTried 17 = .ok (.iload_n 1, 1) := by decide +kernel
theorem dX3_hasTried_18 : decode cX3_hasTried 18 = .ok (.baload, 1) := by decide +kernel
theorem dX3_hasTried_19 : decode cX3_hasTried 19 = .ok (.ifCond .eq 7, 3) := by decide +kernel
theorem dX3_hasTried_22 : decode cX3_hasTried 22 = .ok (.iconst 1, 1) := by decide +kernel
theorem dX3_hasTried_23 : decode cX3_hasTried 23 = .ok (.goto 4, 3) := by decide +kernel
theorem dX3_hasTried_26 : decode cX3_hasTried 26 = .ok (.iconst 0, 1) := by decide +kernel
theorem dX3_hasTried_27 : decode cX3_hasTried 27 = .ok (.ireturn, 1) := by decide +kernel
theorem dX3_markTried_0 : decode cX3_markTried 0 = .ok (.iload_n 1, 1) := by decide +kernel
theorem dX3_markTried_1 : decode cX3_markTried 1 = .ok (.ifCond .lt 19, 3) := by decide +kernel
theorem dX3_markTried_4 : decode cX3_markTried 4 = .ok (.iload_n 1, 1) := by decide +kernel
theorem dX3_markTried_5 : decode cX3_markTried 5 = .ok (.aload_n 0, 1) := by decide +kernel
theorem dX3_markTried_6 : decode cX3_markTried 6 = .ok (.getfield 15, 3) := by decide +kernel
theorem dX3_markTried_9 : decode cX3_markTried 9 = .ok (.arraylength, 1) := by decide +kernel
theorem dX3_markTried_10 : decode cX3_markTried 10 = .ok (.if_icmp .ge 10, 3) := by decide +kernel
theorem dX3_markTried_13 : decode cX3_markTried 13 = .ok (.aload_n 0, 1) := by decide +kernel
theorem dX3_markTried_14 : decode cX3_markTried 14 = .ok (.getfield 15, 3) := by decide +kernel
theorem dX3_markTried_17 : decode cX3_markTried 17 = .ok (.iload_n 1, 1) := by decide +kernel
theorem dX3_markTried_18 : decode cX3_markTried 18 = .ok (.iconst 1, 1) := by decide +kernel
theorem dX3_markTried_19 : decode cX3_markTried 19 = .ok (.bastore, 1) := by decide +kernel
theorem dX3_markTried_20 : decode cX3_markTried 20 = .ok (.return_, 1) := by decide +kernel
theorem dX3_ratingIn_0 : decode cX3_ratingIn 0 = .ok (.iload_n 1, 1) := by decide +kernel
theorem dX3_ratingIn_1 : decode cX3_ratingIn 1 = .ok (.ifCond .lt 21, 3) := by decide +kernel
theorem dX3_ratingIn_4 : decode cX3_ratingIn 4 = .ok (.iload_n 1, 1) := by decide +kernel
theorem dX3_ratingIn_5 : decode cX3_ratingIn 5 = .ok (.aload_n 0, 1) := by decide +kernel
theorem dX3_ratingIn_6 : decode cX3_ratingIn 6 = .ok (.getfield 9, 3) := by decide +kernel
theorem dX3_ratingIn_9 : decode cX3_ratingIn 9 = .ok (.arraylength, 1) := by decide +kernel
theorem dX3_ratingIn_10 : decode cX3_ratingIn 10 = .ok (.if_icmp .ge 12, 3) := by decide +kernel
theorem dX3_ratingIn_13 : decode cX3_ratingIn 13 = .ok (.aload_n 0, 1) := by decide +kernel
theorem dX3_ratingIn_14 : decode cX3_ratingIn 14 = .ok (.getfield 9, 3) := by decide +kernel
theorem dX3_ratingIn_17 : decode cX3_ratingIn 17 = .ok (.iload_n 1, 1) := by decide +kernel
theorem dX3_ratingIn_18 : decode cX3_ratingIn 18 = .ok (.iaload, 1) := by decide +kernel
theorem dX3_ratingIn_19 : decode cX3_ratingIn 19 = .ok (.goto 6, 3) := by decide +kernel
theorem dX3_ratingIn_22 : decode cX3_ratingIn 22 = .ok (.sipush 1000, 3) := by decide +kernel
theorem dX3_ratingIn_25 : decode cX3_ratingIn 25 = .ok (.ireturn, 1) := by decide +kernel
theorem dX3_needsMore_0 : decode cX3_needsMore 0 = .ok (.aload_n 0, 1) := by decide +kernel
theorem dX3_needsMore_1 : decode cX3_needsMore 1 = .ok (.iload_n 1, 1) := by decide +kernel
theorem dX3_needsMore_2 : decode cX3_needsMore 2 = .ok (.invokevirtual 39, 3) := by decide +kernel
theorem dX3_needsMore_5 : decode cX3_needsMore 5 = .ok (.istore_n 3, 1) := by decide +kernel
theorem dX3_needsMore_6 : decode cX3_needsMore 6 = .ok (.aload_n 0, 1) := by decide +kernel
theorem dX3_needsMore_7 : decode cX3_needsMore 7 = .ok (.iload_n 2, 1) := by decide +kernel
theorem dX3_needsMore_8 : decode cX3_needsMore 8 = .ok (.invokevirtual 39, 3) := by decide +kernel
theorem dX3_needsMore_11 : decode cX3_needsMore 11 = .ok (.istore 4, 2) := by decide +kernel
theorem dX3_needsMore_13 : decode cX3_needsMore 13 = .ok (.iload_n 3, 1) := by decide +kernel
theorem dX3_needsMore_14 : decode cX3_needsMore 14 = .ok (.iload 4, 2) := by decide +kernel
theorem dX3_needsMore_16 : decode cX3_needsMore 16 = .ok (.if_icmp .lt 14, 3) := by decide +kernel
theorem dX3_needsMore_19 : decode cX3_needsMore 19 = .ok (.iload_n 3, 1) := by decide +kernel
theorem dX3_needsMore_20 : decode cX3_needsMore 20 = .ok (.iload 4, 2) := by decide +kernel
theorem dX3_needsMore_22 : decode cX3_needsMore 22 = .ok (.if_icmp .ne 12, 3) := by decide +kernel
theorem dX3_needsMore_25 : decode cX3_needsMore 25 = .ok (.iload_n 1, 1) := by decide +kernel
theorem dX3_needsMore_26 : decode cX3_needsMore 26 = .ok (.iload_n 2, 1) := by decide +kernel
theorem dX3_needsMore_27 : decode cX3_needsMore 27 = .ok (.if_icmp .ge 7, 3) := by decide +kernel
theorem dX3_needsMore_30 : decode cX3_needsMore 30 = .ok (.iconst 1, 1) := by decide +kernel
theorem dX3_needsMore_31 : decode cX3_needsMore 31 = .ok (.goto 4, 3) := by decide +kernel
theorem dX3_needsMore_34 : decode cX3_needsMore 34 = .ok (.iconst 0, 1) := by decide +kernel
theorem dX3_needsMore_35 : decode cX3_needsMore 35 = .ok (.ireturn, 1) := by decide +kernel
theorem dX3_changeRating_0 : decode cX3_changeRating 0 = .ok (.iload_n 1, 1) := by decide +kernel
theorem dX3_changeRating_1 : decode cX3_changeRating 1 = .ok (.ifCond .lt 28, 3) := by decide +kernel
theorem dX3_changeRating_4 : decode cX3_changeRating 4 = .ok (.iload_n 1, 1) := by decide +kernel
theorem dX3_changeRating_5 : decode cX3_changeRating 5 = .ok (.aload_n 0, 1) := by decide +kernel
theorem dX3_changeRating_6 : decode cX3_changeRating 6 = .ok (.getfield 9, 3) := by decide +kernel
theorem dX3_changeRating_9 : decode cX3_changeRating 9 = .ok (.arraylength, 1) := by decide +kernel
theorem dX3_changeRating_10 : decode cX3_changeRating 10 = .ok (.if_icmp .ge 19, 3) := by decide +kernel
theorem dX3_changeRating_13 : decode cX3_changeRating 13 = .ok (.aload_n 0, 1) := by decide +kernel
theorem dX3_changeRating_14 : decode cX3_changeRating 14 = .ok (.getfield 9, 3) := by decide +kernel
theorem dX3_changeRating_17 : decode cX3_changeRating 17 = .ok (.iload_n 1, 1) := by decide +kernel
theorem dX3_changeRating_18 : decode cX3_changeRating 18 = .ok (.aload_n 0, 1) := by decide +kernel
theorem dX3_changeRating_19 : decode cX3_changeRating 19 = .ok (.getfield 9, 3) := by decide +kernel
theorem dX3_changeRating_22 : decode cX3_changeRating 22 = .ok (.iload_n 1, 1) := by decide +kernel
theorem dX3_changeRating_23 : decode cX3_changeRating 23 = .ok (.iaload, 1) := by decide +kernel
theorem dX3_changeRating_24 : decode cX3_changeRating 24 = .ok (.iload_n 2, 1) := by decide +kernel
theorem dX3_changeRating_25 : decode cX3_changeRating 25 = .ok (.invokestatic 43, 3) := by decide +kernel
theorem dX3_changeRating_28 : decode cX3_changeRating 28 = .ok (.iastore, 1) := by decide +kernel
theorem dX3_changeRating_29 : decode cX3_changeRating 29 = .ok (.return_, 1) := by decide +kernel
theorem dX3_ratingBehindTry_0 : decode cX3_ratingBehindTry 0 = .ok (.iconst 0, 1) := by decide +kernel
theorem dX3_ratingBehindTry_1 : decode cX3_ratingBehindTry 1 = .ok (.iload_n 0, 1) := by decide +kernel
theorem dX3_ratingBehindTry_2 : decode cX3_ratingBehindTry 2 = .ok (.sipush 1000, 3) := by decide +kernel
theorem dX3_ratingBehindTry_5 : decode cX3_ratingBehindTry 5 = .ok (.isub, 1) := by decide +kernel
theorem dX3_ratingBehindTry_6 : decode cX3_ratingBehindTry 6 = .ok (.invokestatic 47, 3) := by decide +kernel
theorem dX3_ratingBehindTry_9 : decode cX3_ratingBehindTry 9 = .ok (.istore_n 2, 1) := by decide +kernel
theorem dX3_ratingBehindTry_10 : decode cX3_ratingBehindTry 10 = .ok (.iload_n 1, 1) := by decide +kernel
theorem dX3_ratingBehindTry_11 : decode cX3_ratingBehindTry 11 = .ok (.ifCond .eq 13, 3) := by decide +kernel
theorem dX3_ratingBehindTry_14 : decode cX3_ratingBehindTry 14 = .ok (.bipush 32, 2) := by decide +kernel
theorem dX3_ratingBehindTry_16 : decode cX3_ratingBehindTry 16 = .ok (.iload_n 2, 1) := by decide +kernel
theorem dX3_ratingBehindTry_17 : decode cX3_ratingBehindTry 17 = .ok (.bipush 50, 2) := by decide +kernel
theorem dX3_ratingBehindTry_19 : decode cX3_ratingBehindTry 19 = .ok (.idiv, 1) := by decide +kernel
theorem dX3_ratingBehindTry_20 : decode cX3_ratingBehindTry 20 = .ok (.isub, 1) := by decide +kernel
theorem dX3_ratingBehindTry_21 : decode cX3_ratingBehindTry 21 = .ok (.goto 5, 3) := by decide +kernel
theorem dX3_ratingBehindTry_24 : decode cX3_ratingBehindTry 24 = .ok (.bipush (-16), 2) := by decide +kernel
theorem dX3_ratingBehindTry_26 : decode cX3_ratingBehindTry 26 = .ok (.istore_n 3, 1) := by decide +kernel
theorem dX3_ratingBehindTry_27 : decode cX3_ratingBehindTry 27 = .ok (.sipush 3000, 3) := by decide +kernel
theorem dX3_ratingBehindTry_30 : decode cX3_ratingBehindTry 30 = .ok (.bipush 100, 2) := by decide +kernel
theorem dX3_ratingBehindTry_32 : decode cX3_ratingBehindTry 32 = .ok (.iload_n 0, 1) := by decide +kernel
theorem dX3_ratingBehindTry_33 : decode cX3_ratingBehindTry 33 = .ok (.iload_n 3, 1) := by decide +kernel
theorem dX3_ratingBehindTry_34 : decode cX3_ratingBehindTry 34 = .ok (.iadd, 1) := by decide +kernel
theorem dX3_ratingBehindTry_35 : decode cX3_ratingBehindTry 35 = .ok (.invokestatic 47, 3) := by decide +kernel
theorem dX3_ratingBehindTry_38 : decode cX3_ratingBehindTry 38 = .ok (.invokestatic 53, 3) := by decide +kernel
theorem dX3_ratingBehindTry_41 : decode cX3_ratingBehindTry 41 = .ok (.ireturn, 1) := by decide +kernel
theorem dX4_init_0 : decode cX4_init 0 = .ok (.aload_n 0, 1) := by decide +kernel
theorem dX4_init_1 : decode cX4_init 1 = .ok (.invokespecial 3, 3) := by decide +kernel
theorem dX4_init_4 : decode cX4_init 4 = .ok (.aload_n 0, 1) := by decide +kernel
theorem dX4_init_5 : decode cX4_init 5 = .ok (.iload_n 1, 1) := by decide +kernel
theorem dX4_init_6 : decode cX4_init 6 = .ok (.putfield 9, 3) := by decide +kernel
theorem dX4_init_9 : decode cX4_init 9 = .ok (.aload_n 0, 1) := by decide +kernel
theorem dX4_init_10 : decode cX4_init 10 = .ok (.iload_n 1, 1) := by decide +kernel
theorem dX4_init_11 : decode cX4_init 11 = .ok (.iconst 5, 1) := by decide +kernel
theorem dX4_init_12 : decode cX4_init 12 = .ok (.irem, 1) := by decide +kernel
theorem dX4_init_13 : decode cX4_init 13 = .ok (.putfield 15, 3) := by decide +kernel
theorem dX4_init_16 : decode cX4_init 16 = .ok (.aload_n 0, 1) := by decide +kernel
theorem dX4_init_17 : decode cX4_init 17 = .ok (.iload_n 2, 1) := by decide +kernel
theorem dX4_init_18 : decode cX4_init 18 = .ok (.putfield 18, 3) := by decide +kernel
theorem dX4_init_21 : decode cX4_init 21 = .ok (.return_, 1) := by decide +kernel
theorem dX5_init_0 : decode cX5_init 0 = .ok (.aload_n 0, 1) := by decide +kernel
theorem dX5_init_1 : decode cX5_init 1 = .ok (.invokespecial 1, 3) := by decide +kernel
theorem dX5_init_4 : decode cX5_init 4 = .ok (.aload_n 0, 1) := by decide +kernel
theorem dX5_init_5 : decode cX5_init 5 = .ok (.bipush 8, 2) := by decide +kernel
theorem dX5_init_7 : decode cX5_init 7 = .ok (.anewarray 9, 3) := by decide +kernel
theorem dX5_init_10 : decode cX5_init 10 = .ok (.putfield 11, 3) := by decide +kernel
theorem dX5_init_13 : decode cX5_init 13 = .ok (.aload_n 0, 1) := by decide +kernel
theorem dX5_init_14 : decode cX5_init 14 = .ok (.bipush 60, 2) := by decide +kernel
theorem dX5_init_16 : decode cX5_init 16 = .ok (.anewarray 15, 3) := by decide +kernel
theorem dX5_init_19 : decode cX5_init 19 = .ok (.putfield 17, 3) := by decide +kernel
theorem dX5_init_22 : decode cX5_init 22 = .ok (.aload_n 0, 1) := by decide +kernel
theorem dX5_init_23 : decode cX5_init 23 = .ok (.bipush 40, 2) := by decide +kernel
theorem dX5_init_25 : decode cX5_init 25 = .ok (.anewarray 21, 3) := by decide +kernel
theorem dX5_init_28 : decode cX5_init 28 = .ok (.putfield 23, 3) := by decide +kernel
theorem dX5_init_31 : decode cX5_init 31 = .ok (.aload_n 0, 1) := by decide +kernel
theorem dX5_init_32 : decode cX5_init 32 = .ok (.new 27, 3) := by decide +kernel
theorem dX5_init_35 : decode cX5_init 35 = .ok (.dup, 1) := by decide +kernel
theorem dX5_init_36 : decode cX5_init 36 = .ok (.invokespecial 29, 3) := by decide +kernel
theorem dX5_init_39 : decode cX5_init 39 = .ok (.putfield 30, 3) := by decide +kernel
theorem dX5_init_42 : decode cX5_init 42 = .ok (.return_, 1) := by decide +kernel
theorem dX5_after_0 : decode cX5_after 0 = .ok (.iload_n 1, 1) := by decide +kernel
theorem dX5_after_1 : decode cX5_after 1 = .ok (.invokestatic 34, 3) := by decide +kernel
theorem dX5_after_4 : decode cX5_after 4 = .ok (.iload_n 2, 1) := by decide +kernel
theorem dX5_after_5 : decode cX5_after 5 = .ok (.invokestatic 38, 3) := by decide +kernel
theorem dX5_after_8 : decode cX5_after 8 = .ok (.iload_n 1, 1) := by decide +kernel
theorem dX5_after_9 : decode cX5_after 9 = .ok (.iload_n 2, 1) := by decide +kernel
theorem dX5_after_10 : decode cX5_after 10 = .ok (.invokestatic 41, 3) := by decide +kernel
theorem dX5_after_13 : decode cX5_after 13 = .ok (.ireturn, 1) := by decide +kernel
theorem dX5_worth_0 : decode cX5_worth 0 = .ok (.iload_n 1, 1) := by decide +kernel
theorem dX5_worth_1 : decode cX5_worth 1 = .ok (.invokestatic 34, 3) := by decide +kernel
theorem dX5_worth_4 : decode cX5_worth 4 = .ok (.iload_n 1, 1) := by decide +kernel
theorem dX5_worth_5 : decode cX5_worth 5 = .ok (.invokestatic 45, 3) := by decide +kernel
theorem dX5_worth_8 : decode cX5_worth 8 = .ok (.ireturn, 1) := by decide +kernel
theorem dX5_best_0 : decode cX5_best 0 = .ok (.iload_n 1, 1) := by decide +kernel
theorem dX5_best_1 : decode cX5_best 1 = .ok (.invokestatic 34, 3) := by decide +kernel
theorem dX5_best_4 : decode cX5_best 4 = .ok (.iload_n 1, 1) := by decide +kernel
theorem dX5_best_5 : decode cX5_best 5 = .ok (.invokestatic 49, 3) := by decide +kernel
theorem dX5_best_8 : decode cX5_best 8 = .ok (.ireturn, 1) := by decide +kernel
theorem dX5_enter_0 : decode cX5_enter 0 = .ok (.aload_n 0, 1) := by decide +kernel
theorem dX5_enter_1 : decode cX5_enter 1 = .ok (.getfield 52, 3) := by decide +kernel
theorem dX5_enter_4 : decode cX5_enter 4 = .ok (.istore_n 1, 1) := by decide +kernel
theorem dX5_enter_5 : decode cX5_enter 5 = .ok (.iload_n 1, 1) := by decide +kernel
theorem dX5_enter_6 : decode cX5_enter 6 = .ok (.ifCond .lt 12, 3) := by decide +kernel
theorem dX5_enter_9 : decode cX5_enter 9 = .ok (.iload_n 1, 1) := by decide +kernel
theorem dX5_enter_10 : decode cX5_enter 10 = .ok (.aload_n 0, 1) := by decide +kernel
theorem dX5_enter_11 : decode cX5_enter 11 = .ok (.getfield 11, 3) := by decide +kernel
theorem dX5_enter_14 : decode cX5_enter 14 = .ok (.arraylength, 1) := by decide +kernel
theorem dX5_enter_15 : decode cX5_enter 15 = .ok (.if_icmp .lt 13, 3) := by decide +kernel
theorem dX5_enter_18 : decode cX5_enter 18 = .ok (.new 56, 3) := by decide +kernel
theorem dX5_enter_21 : decode cX5_enter 21 = .ok (.dup, 1) := by decide +kernel
theorem dX5_enter_22 : decode cX5_enter 22 = .ok (.ldc 58, 2) := by decide +kernel
theorem dX5_enter_24 : decode cX5_enter 24 = .ok (.invokespecial 60, 3) := by decide +kernel
theorem dX5_enter_27 : decode cX5_enter 27 = .ok (.athrow, 1) := by decide +kernel
theorem dX5_enter_28 : decode cX5_enter 28 = .ok (.aload_n 0, 1) := by decide +kernel
theorem dX5_enter_29 : decode cX5_enter 29 = .ok (.getfield 11, 3) := by decide +kernel
theorem dX5_enter_32 : decode cX5_enter 32 = .ok (.iload_n 1, 1) := by decide +kernel
theorem dX5_enter_33 : decode cX5_enter 33 = .ok (.new 9, 3) := by decide +kernel
theorem dX5_enter_36 : decode cX5_enter 36 = .ok (.dup, 1) := by decide +kernel
theorem dX5_enter_37 : decode cX5_enter 37 = .ok (.iload_n 1, 1) := by decide +kernel
theorem dX5_enter_38 : decode cX5_enter 38 = .ok (.invokespecial 63, 3) := by decide +kernel
theorem dX5_enter_41 : decode cX5_enter 41 = .ok (.aastore, 1) := by decide +kernel
theorem dX5_enter_42 : decode cX5_enter 42 = .ok (.aload_n 0, 1) := by decide +kernel
theorem dX5_enter_43 : decode cX5_enter 43 = .ok (.iload_n 1, 1) := by decide +kernel
theorem dX5_enter_44 : decode cX5_enter 44 = .ok (.iconst 1, 1) := by decide +kernel
theorem dX5_enter_45 : decode cX5_enter 45 = .ok (.iadd, 1) := by decide +kernel
theorem dX5_enter_46 : decode cX5_enter 46 = .ok (.putfield 52, 3) := by decide +kernel
theorem dX5_enter_49 : decode cX5_enter 49 = .ok (.iload_n 1, 1) := by decide +kernel
theorem dX5_enter_50 : decode cX5_enter 50 = .ok (.ireturn, 1) := by decide +kernel
theorem dX5_begin_0 : decode cX5_begin 0 = .ok (.aload_n 0, 1) := by decide +kernel
theorem dX5_begin_1 : decode cX5_begin 1 = .ok (.iload_n 1, 1) := by decide +kernel
theorem dX5_begin_2 : decode cX5_begin 2 = .ok (.invokevirtual 65, 3) := by decide +kernel
theorem dX5_begin_5 : decode cX5_begin 5 = .ok (.astore_n 3, 1) := by decide +kernel
theorem dX5_begin_6 : decode cX5_begin 6 = .ok (.aload_n 0, 1) := by decide +kernel
theorem dX5_begin_7 : decode cX5_begin 7 = .ok (.iload_n 2, 1) := by decide +kernel
theorem dX5_begin_8 : decode cX5_begin 8 = .ok (.invokevirtual 65, 3) := by decide +kernel
theorem dX5_begin_11 : decode cX5_begin 11 = .ok (.astore 4, 2) := by decide +kernel
theorem dX5_begin_13 : decode cX5_begin 13 = .ok (.iload_n 1, 1) := by decide +kernel
theorem dX5_begin_14 : decode cX5_begin 14 = .ok (.iload_n 2, 1) := by decide +kernel
theorem dX5_begin_15 : decode cX5_begin 15 = .ok (.if_icmp .ne 13, 3) := by decide +kernel
theorem dX5_begin_18 : decode cX5_begin 18 = .ok (.new 69, 3) := by decide +kernel
theorem dX5_begin_21 : decode cX5_begin 21 = .ok (.dup, 1) := by decide +kernel
theorem dX5_begin_22 : decode cX5_begin 22 = .ok (.ldc 71, 2) := by decide +kernel
theorem dX5_begin_24 : decode cX5_begin 24 = .ok (.invokespecial 73, 3) := by decide +kernel
theorem dX5_begin_27 : decode cX5_begin 27 = .ok (.athrow, 1) := by decide +kernel
theorem dX5_begin_28 : decode cX5_begin 28 = .ok (.aload_n 0, 1) := by decide +kernel
theorem dX5_begin_29 : decode cX5_begin 29 = .ok (.getfield 74, 3) := by decide +kernel
theorem dX5_begin_32 : decode cX5_begin 32 = .ok (.ifnull 13, 3) := by decide +kernel
theorem dX5_begin_35 : decode cX5_begin 35 = .ok (.new 56, 3) := by decide +kernel
theorem dX5_begin_38 : decode cX5_begin 38 = .ok (.dup, 1) := by decide +kernel
theorem dX5_begin_39 : decode cX5_begin 39 = .ok (.ldc 78, 2) := by decide +kernel
theorem dX5_begin_41 : decode cX5_begin 41 = .ok (.invokespecial 60, 3) := by decide +kernel
theorem dX5_begin_44 : decode cX5_begin 44 = .ok (.athrow, 1) := by decide +kernel
theorem dX5_begin_45 : decode cX5_begin 45 = .ok (.aload_n 0, 1) := by decide +kernel
theorem dX5_begin_46 : decode cX5_begin 46 = .ok (.getfield 80, 3) := by decide +kernel
theorem dX5_begin_49 : decode cX5_begin 49 = .ok (.istore 5, 2) := by decide +kernel
theorem dX5_begin_51 : decode cX5_begin 51 = .ok (.iload 5, 2) := by decide +kernel
theorem dX5_begin_53 : decode cX5_begin 53 = .ok (.ifCond .lt 13, 3) := by decide +kernel
theorem dX5_begin_56 : decode cX5_begin 56 = .ok (.iload 5, 2) := by decide +kernel
theorem dX5_begin_58 : decode cX5_begin 58 = .ok (.aload_n 0, 1) := by decide +kernel
theorem dX5_begin_59 : decode cX5_begin 59 = .ok (.getfield 17, 3) := by decide +kernel
theorem dX5_begin_62 : decode cX5_begin 62 = .ok (.arraylength, 1) := by decide +kernel
theorem dX5_begin_63 : decode cX5_begin 63 = .ok (.if_icmp .lt 13, 3) := by decide +kernel
theorem dX5_begin_66 : decode cX5_begin 66 = .ok (.new 56, 3) := by decide +kernel
theorem dX5_begin_69 : decode cX5_begin 69 = .ok (.dup, 1) := by decide +kernel
theorem dX5_begin_70 : decode cX5_begin 70 = .ok (.ldc 83, 2) := by decide +kernel
theorem dX5_begin_72 : decode cX5_begin 72 = .ok (.invokespecial 60, 3) := by decide +kernel
theorem dX5_begin_75 : decode cX5_begin 75 = .ok (.athrow, 1) := by decide +kernel
theorem dX5_begin_76 : decode cX5_begin 76 = .ok (.aload_n 0, 1) := by decide +kernel
theorem dX5_begin_77 : decode cX5_begin 77 = .ok (.new 15, 3) := by decide +kernel
theorem dX5_begin_80 : decode cX5_begin 80 = .ok (.dup, 1) := by decide +kernel
theorem dX5_begin_81 : decode cX5_begin 81 = .ok (.aload_n 3, 1) := by decide +kernel
theorem dX5_begin_82 : decode cX5_begin 82 = .ok (.aload 4, 2) := by decide +kernel
theorem dX5_begin_84 : decode cX5_begin 84 = .ok (.invokespecial 85, 3) := by decide +kernel
theorem dX5_begin_87 : decode cX5_begin 87 = .ok (.putfield 74, 3) := by decide +kernel
theorem dX5_begin_90 : decode cX5_begin 90 = .ok (.aload_n 0, 1) := by decide +kernel
theorem dX5_begin_91 : decode cX5_begin 91 = .ok (.getfield 17, 3) := by decide +kernel
theorem dX5_begin_94 : decode cX5_begin 94 = .ok (.iload 5, 2) := by decide +kernel
theorem dX5_begin_96 : decode cX5_begin 96 = .ok (.aload_n 0, 1) := by decide +kernel
theorem dX5_begin_97 : decode cX5_begin 97 = .ok (.getfield 74, 3) := by decide +kernel
theorem dX5_begin_100 : decode cX5_begin 100 = .ok (.aastore, 1) := by decide +kernel
theorem dX5_begin_101 : decode cX5_begin 101 = .ok (.aload_n 0, 1) := by decide +kernel
theorem dX5_begin_102 : decode cX5_begin 102 = .ok (.iload 5, 2) := by decide +kernel
theorem dX5_begin_104 : decode cX5_begin 104 = .ok (.iconst 1, 1) := by decide +kernel
theorem dX5_begin_105 : decode cX5_begin 105 = .ok (.iadd, 1) := by decide +kernel
theorem dX5_begin_106 : decode cX5_begin 106 = .ok (.putfield 80, 3) := by decide +kernel
theorem dX5_begin_109 : decode cX5_begin 109 = .ok (.iload 5, 2) := by decide +kernel
theorem dX5_begin_111 : decode cX5_begin 111 = .ok (.ireturn, 1) := by decide +kernel
theorem dX5_move_0 : decode cX5_move 0 = .ok (.iload_n 1, 1) := by decide +kernel
theorem dX5_move_1 : decode cX5_move 1 = .ok (.invokestatic 38, 3) := by decide +kernel
theorem dX5_move_4 : decode cX5_move 4 = .ok (.aload_n 0, 1) := by decide +kernel
theorem dX5_move_5 : decode cX5_move 5 = .ok (.getfield 74, 3) := by decide +kernel
theorem dX5_move_8 : decode cX5_move 8 = .ok (.astore_n 2, 1) := by decide +kernel
theorem dX5_move_9 : decode cX5_move 9 = .ok (.aload_n 2, 1) := by decide +kernel
theorem dX5_move_10 : decode cX5_move 10 = .ok (.ifnonnull 13, 3) := by decide +kernel
theorem dX5_move_13 : decode cX5_move 13 = .ok (.new 56, 3) := by decide +kernel
theorem dX5_move_16 : decode cX5_move 16 = .ok (.dup, 1) := by decide +kernel
theorem dX5_move_17 : decode cX5_move 17 = .ok (.ldc 88, 2) := by decide +kernel
theorem dX5_move_19 : decode cX5_move 19 = .ok (.invokespecial 60, 3) := by decide +kernel
theorem dX5_move_22 : decode cX5_move 22 = .ok (.athrow, 1) := by decide +kernel
theorem dX5_move_23 : decode cX5_move 23 = .ok (.aload_n 2, 1) := by decide +kernel
theorem dX5_move_24 : decode cX5_move 24 = .ok (.invokevirtual 90, 3) := by decide +kernel
theorem dX5_move_27 : decode cX5_move 27 = .ok (.ifCond .eq 13, 3) := by decide +kernel
theorem dX5_move_30 : decode cX5_move 30 = .ok (.new 56, 3) := by decide +kernel
theorem dX5_move_33 : decode cX5_move 33 = .ok (.dup, 1) := by decide +kernel
theorem dX5_move_34 : decode cX5_move 34 = .ok (.ldc 94, 2) := by decide +kernel
end
section
theorem dX5_move_36 : decode cX5_move 36 = .ok (.invokespecial 60, 3) := by decide +kernel
theorem dX5_move_39 : decode cX5_move 39 = .ok (.athrow, 1) := by decide +kernel
theorem dX5_move_40 : decode cX5_move 40 = .ok (.aload_n 2, 1) := by decide +kernel
theorem dX5_move_41 : decode cX5_move 41 = .ok (.getfield 96, 3) := by decide +kernel
theorem dX5_move_44 : decode cX5_move 44 = .ok (.iload_n 1, 1) := by decide +kernel
theorem dX5_move_45 : decode cX5_move 45 = .ok (.invokestatic 99, 3) := by decide +kernel
theorem dX5_move_48 : decode cX5_move 48 = .ok (.istore_n 3, 1) := by decide +kernel
theorem dX5_move_49 : decode cX5_move 49 = .ok (.aload_n 2, 1) := by decide +kernel
theorem dX5_move_50 : decode cX5_move 50 = .ok (.iload_n 1, 1) := by decide +kernel
theorem dX5_move_51 : decode cX5_move 51 = .ok (.invokevirtual 103, 3) := by decide +kernel
theorem dX5_move_54 : decode cX5_move 54 = .ok (.iload_n 3, 1) := by decide +kernel
theorem dX5_move_55 : decode cX5_move 55 = .ok (.ireturn, 1) := by decide +kernel
theorem dX5_end_0 : decode cX5_end 0 = .ok (.iload_n 1, 1) := by decide +kernel
theorem dX5_end_1 : decode cX5_end 1 = .ok (.ifCond .lt 8, 3) := by decide +kernel
theorem dX5_end_4 : decode cX5_end 4 = .ok (.iload_n 1, 1) := by decide +kernel
theorem dX5_end_5 : decode cX5_end 5 = .ok (.iconst 2, 1) := by decide +kernel
theorem dX5_end_6 : decode cX5_end 6 = .ok (.if_icmp .le 13, 3) := by decide +kernel
theorem dX5_end_9 : decode cX5_end 9 = .ok (.new 69, 3) := by decide +kernel
theorem dX5_end_12 : decode cX5_end 12 = .ok (.dup, 1) := by decide +kernel
theorem dX5_end_13 : decode cX5_end 13 = .ok (.ldc 106, 2) := by decide +kernel
theorem dX5_end_15 : decode cX5_end 15 = .ok (.invokespecial 73, 3) := by decide +kernel
theorem dX5_end_18 : decode cX5_end 18 = .ok (.athrow, 1) := by decide +kernel
theorem dX5_end_19 : decode cX5_end 19 = .ok (.aload_n 0, 1) := by decide +kernel
theorem dX5_end_20 : decode cX5_end 20 = .ok (.getfield 74, 3) := by decide +kernel
theorem dX5_end_23 : decode cX5_end 23 = .ok (.astore_n 2, 1) := by decide +kernel
theorem dX5_end_24 : decode cX5_end 24 = .ok (.aload_n 2, 1) := by decide +kernel
theorem dX5_end_25 : decode cX5_end 25 = .ok (.ifnonnull 13, 3) := by decide +kernel
theorem dX5_end_28 : decode cX5_end 28 = .ok (.new 56, 3) := by decide +kernel
theorem dX5_end_31 : decode cX5_end 31 = .ok (.dup, 1) := by decide +kernel
theorem dX5_end_32 : decode cX5_end 32 = .ok (.ldc 88, 2) := by decide +kernel
theorem dX5_end_34 : decode cX5_end 34 = .ok (.invokespecial 60, 3) := by decide +kernel
theorem dX5_end_37 : decode cX5_end 37 = .ok (.athrow, 1) := by decide +kernel
theorem dX5_end_38 : decode cX5_end 38 = .ok (.aload_n 2, 1) := by decide +kernel
theorem dX5_end_39 : decode cX5_end 39 = .ok (.iload_n 1, 1) := by decide +kernel
theorem dX5_end_40 : decode cX5_end 40 = .ok (.putfield 108, 3) := by decide +kernel
theorem dX5_end_43 : decode cX5_end 43 = .ok (.aload_n 0, 1) := by decide +kernel
theorem dX5_end_44 : decode cX5_end 44 = .ok (.aconst_null, 1) := by decide +kernel
theorem dX5_end_45 : decode cX5_end 45 = .ok (.putfield 74, 3) := by decide +kernel
theorem dX5_end_48 : decode cX5_end 48 = .ok (.aload_n 2, 1) := by decide +kernel
theorem dX5_end_49 : decode cX5_end 49 = .ok (.getfield 111, 3) := by decide +kernel
theorem dX5_end_52 : decode cX5_end 52 = .ok (.aload_n 2, 1) := by decide +kernel
theorem dX5_end_53 : decode cX5_end 53 = .ok (.getfield 115, 3) := by decide +kernel
theorem dX5_end_56 : decode cX5_end 56 = .ok (.iload_n 1, 1) := by decide +kernel
theorem dX5_end_57 : decode cX5_end 57 = .ok (.invokevirtual 118, 3) := by decide +kernel
theorem dX5_end_60 : decode cX5_end 60 = .ok (.aload_n 2, 1) := by decide +kernel
theorem dX5_end_61 : decode cX5_end 61 = .ok (.getfield 115, 3) := by decide +kernel
theorem dX5_end_64 : decode cX5_end 64 = .ok (.aload_n 2, 1) := by decide +kernel
theorem dX5_end_65 : decode cX5_end 65 = .ok (.getfield 111, 3) := by decide +kernel
theorem dX5_end_68 : decode cX5_end 68 = .ok (.iconst 2, 1) := by decide +kernel
theorem dX5_end_69 : decode cX5_end 69 = .ok (.iload_n 1, 1) := by decide +kernel
theorem dX5_end_70 : decode cX5_end 70 = .ok (.isub, 1) := by decide +kernel
theorem dX5_end_71 : decode cX5_end 71 = .ok (.invokevirtual 122, 3) := by decide +kernel
theorem dX5_end_74 : decode cX5_end 74 = .ok (.aload_n 0, 1) := by decide +kernel
theorem dX5_end_75 : decode cX5_end 75 = .ok (.getfield 30, 3) := by decide +kernel
theorem dX5_end_78 : decode cX5_end 78 = .ok (.aload_n 2, 1) := by decide +kernel
theorem dX5_end_79 : decode cX5_end 79 = .ok (.invokevirtual 125, 3) := by decide +kernel
theorem dX5_end_82 : decode cX5_end 82 = .ok (.aload_n 0, 1) := by decide +kernel
theorem dX5_end_83 : decode cX5_end 83 = .ok (.aload_n 2, 1) := by decide +kernel
theorem dX5_end_84 : decode cX5_end 84 = .ok (.aload_n 0, 1) := by decide +kernel
theorem dX5_end_85 : decode cX5_end 85 = .ok (.getfield 80, 3) := by decide +kernel
theorem dX5_end_88 : decode cX5_end 88 = .ok (.iconst 1, 1) := by decide +kernel
theorem dX5_end_89 : decode cX5_end 89 = .ok (.isub, 1) := by decide +kernel
theorem dX5_end_90 : decode cX5_end 90 = .ok (.invokevirtual 129, 3) := by decide +kernel
theorem dX5_end_93 : decode cX5_end 93 = .ok (.ireturn, 1) := by decide +kernel
theorem dX5_position_0 : decode cX5_position 0 = .ok (.aload_n 0, 1) := by decide +kernel
theorem dX5_position_1 : decode cX5_position 1 = .ok (.getfield 74, 3) := by decide +kernel
theorem dX5_position_4 : decode cX5_position 4 = .ok (.astore_n 1, 1) := by decide +kernel
theorem dX5_position_5 : decode cX5_position 5 = .ok (.aload_n 1, 1) := by decide +kernel
theorem dX5_position_6 : decode cX5_position 6 = .ok (.ifnonnull 7, 3) := by decide +kernel
theorem dX5_position_9 : decode cX5_position 9 = .ok (.iconst (-1), 1) := by decide +kernel
theorem dX5_position_10 : decode cX5_position 10 = .ok (.goto 7, 3) := by decide +kernel
theorem dX5_position_13 : decode cX5_position 13 = .ok (.aload_n 1, 1) := by decide +kernel
theorem dX5_position_14 : decode cX5_position 14 = .ok (.getfield 96, 3) := by decide +kernel
theorem dX5_position_17 : decode cX5_position 17 = .ok (.ireturn, 1) := by decide +kernel
theorem dX5_games_0 : decode cX5_games 0 = .ok (.aload_n 0, 1) := by decide +kernel
theorem dX5_games_1 : decode cX5_games 1 = .ok (.getfield 74, 3) := by decide +kernel
theorem dX5_games_4 : decode cX5_games 4 = .ok (.ifnonnull 10, 3) := by decide +kernel
theorem dX5_games_7 : decode cX5_games 7 = .ok (.aload_n 0, 1) := by decide +kernel
theorem dX5_games_8 : decode cX5_games 8 = .ok (.getfield 80, 3) := by decide +kernel
theorem dX5_games_11 : decode cX5_games 11 = .ok (.goto 9, 3) := by decide +kernel
theorem dX5_games_14 : decode cX5_games 14 = .ok (.aload_n 0, 1) := by decide +kernel
theorem dX5_games_15 : decode cX5_games 15 = .ok (.getfield 80, 3) := by decide +kernel
theorem dX5_games_18 : decode cX5_games 18 = .ok (.iconst 1, 1) := by decide +kernel
theorem dX5_games_19 : decode cX5_games 19 = .ok (.isub, 1) := by decide +kernel
theorem dX5_games_20 : decode cX5_games 20 = .ok (.ireturn, 1) := by decide +kernel
theorem dX5_score_0 : decode cX5_score 0 = .ok (.aload_n 0, 1) := by decide +kernel
theorem dX5_score_1 : decode cX5_score 1 = .ok (.iload_n 1, 1) := by decide +kernel
theorem dX5_score_2 : decode cX5_score 2 = .ok (.invokevirtual 65, 3) := by decide +kernel
theorem dX5_score_5 : decode cX5_score 5 = .ok (.getfield 133, 3) := by decide +kernel
theorem dX5_score_8 : decode cX5_score 8 = .ok (.ireturn, 1) := by decide +kernel
theorem dX5_puzzles_0 : decode cX5_puzzles 0 = .ok (.aload_n 0, 1) := by decide +kernel
theorem dX5_puzzles_1 : decode cX5_puzzles 1 = .ok (.getfield 136, 3) := by decide +kernel
theorem dX5_puzzles_4 : decode cX5_puzzles 4 = .ok (.ireturn, 1) := by decide +kernel
theorem dX5_puzzle_0 : decode cX5_puzzle 0 = .ok (.aload_n 0, 1) := by decide +kernel
theorem dX5_puzzle_1 : decode cX5_puzzle 1 = .ok (.iload_n 1, 1) := by decide +kernel
theorem dX5_puzzle_2 : decode cX5_puzzle 2 = .ok (.invokevirtual 139, 3) := by decide +kernel
theorem dX5_puzzle_5 : decode cX5_puzzle 5 = .ok (.getfield 143, 3) := by decide +kernel
theorem dX5_puzzle_8 : decode cX5_puzzle 8 = .ok (.ireturn, 1) := by decide +kernel
theorem dX5_source_0 : decode cX5_source 0 = .ok (.aload_n 0, 1) := by decide +kernel
theorem dX5_source_1 : decode cX5_source 1 = .ok (.iload_n 1, 1) := by decide +kernel
theorem dX5_source_2 : decode cX5_source 2 = .ok (.invokevirtual 139, 3) := by decide +kernel
theorem dX5_source_5 : decode cX5_source 5 = .ok (.getfield 146, 3) := by decide +kernel
theorem dX5_source_8 : decode cX5_source 8 = .ok (.ireturn, 1) := by decide +kernel
theorem dX5_solve_0 : decode cX5_solve 0 = .ok (.aload_n 0, 1) := by decide +kernel
theorem dX5_solve_1 : decode cX5_solve 1 = .ok (.iload_n 1, 1) := by decide +kernel
theorem dX5_solve_2 : decode cX5_solve 2 = .ok (.invokevirtual 65, 3) := by decide +kernel
theorem dX5_solve_5 : decode cX5_solve 5 = .ok (.astore 4, 2) := by decide +kernel
theorem dX5_solve_7 : decode cX5_solve 7 = .ok (.aload_n 0, 1) := by decide +kernel
theorem dX5_solve_8 : decode cX5_solve 8 = .ok (.iload_n 2, 1) := by decide +kernel
theorem dX5_solve_9 : decode cX5_solve 9 = .ok (.invokevirtual 139, 3) := by decide +kernel
theorem dX5_solve_12 : decode cX5_solve 12 = .ok (.astore 5, 2) := by decide +kernel
theorem dX5_solve_14 : decode cX5_solve 14 = .ok (.iload_n 3, 1) := by decide +kernel
theorem dX5_solve_15 : decode cX5_solve 15 = .ok (.invokestatic 38, 3) := by decide +kernel
theorem dX5_solve_18 : decode cX5_solve 18 = .ok (.aload 4, 2) := by decide +kernel
theorem dX5_solve_20 : decode cX5_solve 20 = .ok (.iload_n 2, 1) := by decide +kernel
theorem dX5_solve_21 : decode cX5_solve 21 = .ok (.invokevirtual 149, 3) := by decide +kernel
theorem dX5_solve_24 : decode cX5_solve 24 = .ok (.ifCond .eq 13, 3) := by decide +kernel
theorem dX5_solve_27 : decode cX5_solve 27 = .ok (.new 56, 3) := by decide +kernel
theorem dX5_solve_30 : decode cX5_solve 30 = .ok (.dup, 1) := by decide +kernel
theorem dX5_solve_31 : decode cX5_solve 31 = .ok (.ldc 153, 2) := by decide +kernel
theorem dX5_solve_33 : decode cX5_solve 33 = .ok (.invokespecial 60, 3) := by decide +kernel
theorem dX5_solve_36 : decode cX5_solve 36 = .ok (.athrow, 1) := by decide +kernel
theorem dX5_solve_37 : decode cX5_solve 37 = .ok (.iload_n 3, 1) := by decide +kernel
theorem dX5_solve_38 : decode cX5_solve 38 = .ok (.aload 5, 2) := by decide +kernel
theorem dX5_solve_40 : decode cX5_solve 40 = .ok (.getfield 143, 3) := by decide +kernel
theorem dX5_solve_43 : decode cX5_solve 43 = .ok (.invokestatic 49, 3) := by decide +kernel
theorem dX5_solve_46 : decode cX5_solve 46 = .ok (.if_icmp .ne 7, 3) := by decide +kernel
theorem dX5_solve_49 : decode cX5_solve 49 = .ok (.iconst 1, 1) := by decide +kernel
theorem dX5_solve_50 : decode cX5_solve 50 = .ok (.goto 4, 3) := by decide +kernel
theorem dX5_solve_53 : decode cX5_solve 53 = .ok (.iconst 0, 1) := by decide +kernel
theorem dX5_solve_54 : decode cX5_solve 54 = .ok (.istore 6, 2) := by decide +kernel
theorem dX5_solve_56 : decode cX5_solve 56 = .ok (.aload 4, 2) := by decide +kernel
theorem dX5_solve_58 : decode cX5_solve 58 = .ok (.iload_n 2, 1) := by decide +kernel
theorem dX5_solve_59 : decode cX5_solve 59 = .ok (.invokevirtual 155, 3) := by decide +kernel
theorem dX5_solve_62 : decode cX5_solve 62 = .ok (.aload 4, 2) := by decide +kernel
theorem dX5_solve_64 : decode cX5_solve 64 = .ok (.aload 5, 2) := by decide +kernel
theorem dX5_solve_66 : decode cX5_solve 66 = .ok (.getfield 158, 3) := by decide +kernel
theorem dX5_solve_69 : decode cX5_solve 69 = .ok (.iload 6, 2) := by decide +kernel
theorem dX5_solve_71 : decode cX5_solve 71 = .ok (.invokevirtual 161, 3) := by decide +kernel
theorem dX5_solve_74 : decode cX5_solve 74 = .ok (.iload 6, 2) := by decide +kernel
theorem dX5_solve_76 : decode cX5_solve 76 = .ok (.ireturn, 1) := by decide +kernel
theorem dX5_offered_0 : decode cX5_offered 0 = .ok (.aload_n 0, 1) := by decide +kernel
theorem dX5_offered_1 : decode cX5_offered 1 = .ok (.iload_n 1, 1) := by decide +kernel
theorem dX5_offered_2 : decode cX5_offered 2 = .ok (.invokevirtual 65, 3) := by decide +kernel
theorem dX5_offered_5 : decode cX5_offered 5 = .ok (.astore_n 2, 1) := by decide +kernel
theorem dX5_offered_6 : decode cX5_offered 6 = .ok (.iconst (-1), 1) := by decide +kernel
theorem dX5_offered_7 : decode cX5_offered 7 = .ok (.istore_n 3, 1) := by decide +kernel
theorem dX5_offered_8 : decode cX5_offered 8 = .ok (.iconst 0, 1) := by decide +kernel
theorem dX5_offered_9 : decode cX5_offered 9 = .ok (.istore 4, 2) := by decide +kernel
theorem dX5_offered_11 : decode cX5_offered 11 = .ok (.iconst 0, 1) := by decide +kernel
theorem dX5_offered_12 : decode cX5_offered 12 = .ok (.istore 5, 2) := by decide +kernel
theorem dX5_offered_14 : decode cX5_offered 14 = .ok (.iload 5, 2) := by decide +kernel
theorem dX5_offered_16 : decode cX5_offered 16 = .ok (.aload_n 0, 1) := by decide +kernel
theorem dX5_offered_17 : decode cX5_offered 17 = .ok (.getfield 23, 3) := by decide +kernel
theorem dX5_offered_20 : decode cX5_offered 20 = .ok (.arraylength, 1) := by decide +kernel
theorem dX5_offered_21 : decode cX5_offered 21 = .ok (.if_icmp .ge 63, 3) := by decide +kernel
theorem dX5_offered_24 : decode cX5_offered 24 = .ok (.aload_n 0, 1) := by decide +kernel
theorem dX5_offered_25 : decode cX5_offered 25 = .ok (.getfield 23, 3) := by decide +kernel
theorem dX5_offered_28 : decode cX5_offered 28 = .ok (.iload 5, 2) := by decide +kernel
theorem dX5_offered_30 : decode cX5_offered 30 = .ok (.aaload, 1) := by decide +kernel
theorem dX5_offered_31 : decode cX5_offered 31 = .ok (.astore 6, 2) := by decide +kernel
theorem dX5_offered_33 : decode cX5_offered 33 = .ok (.aload 6, 2) := by decide +kernel
theorem dX5_offered_35 : decode cX5_offered 35 = .ok (.ifnull 43, 3) := by decide +kernel
theorem dX5_offered_38 : decode cX5_offered 38 = .ok (.aload_n 2, 1) := by decide +kernel
theorem dX5_offered_39 : decode cX5_offered 39 = .ok (.iload 5, 2) := by decide +kernel
theorem dX5_offered_41 : decode cX5_offered 41 = .ok (.invokevirtual 149, 3) := by decide +kernel
theorem dX5_offered_44 : decode cX5_offered 44 = .ok (.ifCond .eq 6, 3) := by decide +kernel
theorem dX5_offered_47 : decode cX5_offered 47 = .ok (.goto 31, 3) := by decide +kernel
theorem dX5_offered_50 : decode cX5_offered 50 = .ok (.iload_n 3, 1) := by decide +kernel
theorem dX5_offered_51 : decode cX5_offered 51 = .ok (.ifCond .lt 17, 3) := by decide +kernel
theorem dX5_offered_54 : decode cX5_offered 54 = .ok (.aload_n 2, 1) := by decide +kernel
theorem dX5_offered_55 : decode cX5_offered 55 = .ok (.aload 6, 2) := by decide +kernel
theorem dX5_offered_57 : decode cX5_offered 57 = .ok (.getfield 158, 3) := by decide +kernel
theorem dX5_offered_60 : decode cX5_offered 60 = .ok (.iload 4, 2) := by decide +kernel
theorem dX5_offered_62 : decode cX5_offered 62 = .ok (.invokevirtual 165, 3) := by decide +kernel
theorem dX5_offered_65 : decode cX5_offered 65 = .ok (.ifCond .eq 13, 3) := by decide +kernel
theorem dX5_offered_68 : decode cX5_offered 68 = .ok (.iload 5, 2) := by decide +kernel
theorem dX5_offered_70 : decode cX5_offered 70 = .ok (.istore_n 3, 1) := by decide +kernel
theorem dX5_offered_71 : decode cX5_offered 71 = .ok (.aload 6, 2) := by decide +kernel
theorem dX5_offered_73 : decode cX5_offered 73 = .ok (.getfield 158, 3) := by decide +kernel
theorem dX5_offered_76 : decode cX5_offered 76 = .ok (.istore 4, 2) := by decide +kernel
theorem dX5_offered_78 : decode cX5_offered 78 = .ok (.iinc 5 1, 3) := by decide +kernel
theorem dX5_offered_81 : decode cX5_offered 81 = .ok (.goto (-67), 3) := by decide +kernel
theorem dX5_offered_84 : decode cX5_offered 84 = .ok (.iload_n 3, 1) := by decide +kernel
theorem dX5_offered_85 : decode cX5_offered 85 = .ok (.ireturn, 1) := by decide +kernel
theorem dX5_rating_0 : decode cX5_rating 0 = .ok (.aload_n 0, 1) := by decide +kernel
theorem dX5_rating_1 : decode cX5_rating 1 = .ok (.iload_n 1, 1) := by decide +kernel
theorem dX5_rating_2 : decode cX5_rating 2 = .ok (.invokevirtual 65, 3) := by decide +kernel
theorem dX5_rating_5 : decode cX5_rating 5 = .ok (.astore_n 3, 1) := by decide +kernel
theorem dX5_rating_6 : decode cX5_rating 6 = .ok (.iload_n 2, 1) := by decide +kernel
theorem dX5_rating_7 : decode cX5_rating 7 = .ok (.ifCond .lt 8, 3) := by decide +kernel
theorem dX5_rating_10 : decode cX5_rating 10 = .ok (.iload_n 2, 1) := by decide +kernel
theorem dX5_rating_11 : decode cX5_rating 11 = .ok (.iconst 5, 1) := by decide +kernel
theorem dX5_rating_12 : decode cX5_rating 12 = .ok (.if_icmp .lt 13, 3) := by decide +kernel
theorem dX5_rating_15 : decode cX5_rating 15 = .ok (.new 69, 3) := by decide +kernel
theorem dX5_rating_18 : decode cX5_rating 18 = .ok (.dup, 1) := by decide +kernel
theorem dX5_rating_19 : decode cX5_rating 19 = .ok (.ldc 168, 2) := by decide +kernel
theorem dX5_rating_21 : decode cX5_rating 21 = .ok (.invokespecial 73, 3) := by decide +kernel
theorem dX5_rating_24 : decode cX5_rating 24 = .ok (.athrow, 1) := by decide +kernel
theorem dX5_rating_25 : decode cX5_rating 25 = .ok (.aload_n 3, 1) := by decide +kernel
theorem dX5_rating_26 : decode cX5_rating 26 = .ok (.iload_n 2, 1) := by decide +kernel
theorem dX5_rating_27 : decode cX5_rating 27 = .ok (.invokevirtual 170, 3) := by decide +kernel
theorem dX5_rating_30 : decode cX5_rating 30 = .ok (.ireturn, 1) := by decide +kernel
theorem dX5_results_0 : decode cX5_results 0 = .ok (.iload_n 1, 1) := by decide +kernel
theorem dX5_results_1 : decode cX5_results 1 = .ok (.iload_n 2, 1) := by decide +kernel
theorem dX5_results_2 : decode cX5_results 2 = .ok (.invokestatic 173, 3) := by decide +kernel
theorem dX5_results_5 : decode cX5_results 5 = .ok (.aload_n 0, 1) := by decide +kernel
theorem dX5_results_6 : decode cX5_results 6 = .ok (.getfield 30, 3) := by decide +kernel
theorem dX5_results_9 : decode cX5_results 9 = .ok (.iload_n 1, 1) := by decide +kernel
theorem dX5_results_10 : decode cX5_results 10 = .ok (.iload_n 2, 1) := by decide +kernel
theorem dX5_results_11 : decode cX5_results 11 = .ok (.invokevirtual 177, 3) := by decide +kernel
theorem dX5_results_14 : decode cX5_results 14 = .ok (.astore_n 3, 1) := by decide +kernel
theorem dX5_results_15 : decode cX5_results 15 = .ok (.aload_n 3, 1) := by decide +kernel
theorem dX5_results_16 : decode cX5_results 16 = .ok (.ifnonnull 7, 3) := by decide +kernel
theorem dX5_results_19 : decode cX5_results 19 = .ok (.iconst 0, 1) := by decide +kernel
theorem dX5_results_20 : decode cX5_results 20 = .ok (.goto 7, 3) := by decide +kernel
theorem dX5_results_23 : decode cX5_results 23 = .ok (.aload_n 3, 1) := by decide +kernel
theorem dX5_results_24 : decode cX5_results 24 = .ok (.getfield 181, 3) := by decide +kernel
theorem dX5_results_27 : decode cX5_results 27 = .ok (.ireturn, 1) := by decide +kernel
theorem dX5_points_0 : decode cX5_points 0 = .ok (.iload_n 1, 1) := by decide +kernel
theorem dX5_points_1 : decode cX5_points 1 = .ok (.iload_n 2, 1) := by decide +kernel
theorem dX5_points_2 : decode cX5_points 2 = .ok (.invokestatic 173, 3) := by decide +kernel
theorem dX5_points_5 : decode cX5_points 5 = .ok (.aload_n 0, 1) := by decide +kernel
theorem dX5_points_6 : decode cX5_points 6 = .ok (.getfield 30, 3) := by decide +kernel
theorem dX5_points_9 : decode cX5_points 9 = .ok (.iload_n 1, 1) := by decide +kernel
theorem dX5_points_10 : decode cX5_points 10 = .ok (.iload_n 2, 1) := by decide +kernel
theorem dX5_points_11 : decode cX5_points 11 = .ok (.invokevirtual 177, 3) := by decide +kernel
theorem dX5_points_14 : decode cX5_points 14 = .ok (.astore_n 3, 1) := by decide +kernel
theorem dX5_points_15 : decode cX5_points 15 = .ok (.aload_n 3, 1) := by decide +kernel
theorem dX5_points_16 : decode cX5_points 16 = .ok (.ifnonnull 7, 3) := by decide +kernel
theorem dX5_points_19 : decode cX5_points 19 = .ok (.iconst 0, 1) := by decide +kernel
theorem dX5_points_20 : decode cX5_points 20 = .ok (.goto 7, 3) := by decide +kernel
theorem dX5_points_23 : decode cX5_points 23 = .ok (.aload_n 3, 1) := by decide +kernel
theorem dX5_points_24 : decode cX5_points 24 = .ok (.getfield 186, 3) := by decide +kernel
theorem dX5_points_27 : decode cX5_points 27 = .ok (.ireturn, 1) := by decide +kernel
theorem dX5_isDropped_0 : decode cX5_isDropped 0 = .ok (.iload_n 1, 1) := by decide +kernel
theorem dX5_isDropped_1 : decode cX5_isDropped 1 = .ok (.iload_n 2, 1) := by decide +kernel
theorem dX5_isDropped_2 : decode cX5_isDropped 2 = .ok (.invokestatic 173, 3) := by decide +kernel
theorem dX5_isDropped_5 : decode cX5_isDropped 5 = .ok (.aload_n 0, 1) := by decide +kernel
theorem dX5_isDropped_6 : decode cX5_isDropped 6 = .ok (.getfield 30, 3) := by decide +kernel
theorem dX5_isDropped_9 : decode cX5_isDropped 9 = .ok (.iload_n 1, 1) := by decide +kernel
theorem dX5_isDropped_10 : decode cX5_isDropped 10 = .ok (.iload_n 2, 1) := by decide +kernel
theorem dX5_isDropped_11 : decode cX5_isDropped 11 = .ok (.invokevirtual 189, 3) := by decide +kernel
theorem dX5_isDropped_14 : decode cX5_isDropped 14 = .ok (.ireturn, 1) := by decide +kernel
theorem dX5_pointsOfGames_0 : decode cX5_pointsOfGames 0 = .ok (.iload_n 1, 1) := by decide +kernel
theorem dX5_pointsOfGames_1 : decode cX5_pointsOfGames 1 = .ok (.iload_n 2, 1) := by decide +kernel
theorem dX5_pointsOfGames_2 : decode cX5_pointsOfGames 2 = .ok (.invokestatic 173, 3) := by decide +kernel
theorem dX5_pointsOfGames_5 : decode cX5_pointsOfGames 5 = .ok (.iconst 0, 1) := by decide +kernel
theorem dX5_pointsOfGames_6 : decode cX5_pointsOfGames 6 = .ok (.istore_n 3, 1) := by decide +kernel
theorem dX5_pointsOfGames_7 : decode cX5_pointsOfGames 7 = .ok (.aload_n 0, 1) := by decide +kernel
theorem dX5_pointsOfGames_8 : decode cX5_pointsOfGames 8 = .ok (.getfield 17, 3) := by decide +kernel
theorem dX5_pointsOfGames_11 : decode cX5_pointsOfGames 11 = .ok (.astore 4, 2) := by decide +kernel
theorem dX5_pointsOfGames_13 : decode cX5_pointsOfGames 13 = .ok (.aload 4, 2) := by decide +kernel
theorem dX5_pointsOfGames_15 : decode cX5_pointsOfGames 15 = .ok (.arraylength, 1) := by decide +kernel
theorem dX5_pointsOfGames_16 : decode cX5_pointsOfGames 16 = .ok (.istore 5, 2) := by decide +kernel
theorem dX5_pointsOfGames_18 : decode cX5_pointsOfGames 18 = .ok (.iconst 0, 1) := by decide +kernel
theorem dX5_pointsOfGames_19 : decode cX5_pointsOfGames 19 = .ok (.istore 6, 2) := by decide +kernel
theorem dX5_pointsOfGames_21 : decode cX5_pointsOfGames 21 = .ok (.iload 6, 2) := by decide +kernel
theorem dX5_pointsOfGames_23 : decode cX5_pointsOfGames 23 = .ok (.iload 5, 2) := by decide +kernel
theorem dX5_pointsOfGames_25 : decode cX5_pointsOfGames 25 = .ok (.if_icmp .ge 48, 3) := by decide +kernel
theorem dX5_pointsOfGames_28 : decode cX5_pointsOfGames 28 = .ok (.aload 4, 2) := by decide +kernel
theorem dX5_pointsOfGames_30 : decode cX5_pointsOfGames 30 = .ok (.iload 6, 2) := by decide +kernel
theorem dX5_pointsOfGames_32 : decode cX5_pointsOfGames 32 = .ok (.aaload, 1) := by decide +kernel
theorem dX5_pointsOfGames_33 : decode cX5_pointsOfGames 33 = .ok (.astore 7, 2) := by decide +kernel
theorem dX5_pointsOfGames_35 : decode cX5_pointsOfGames 35 = .ok (.aload 7, 2) := by decide +kernel
theorem dX5_pointsOfGames_37 : decode cX5_pointsOfGames 37 = .ok (.ifnull 30, 3) := by decide +kernel
theorem dX5_pointsOfGames_40 : decode cX5_pointsOfGames 40 = .ok (.aload 7, 2) := by decide +kernel
theorem dX5_pointsOfGames_42 : decode cX5_pointsOfGames 42 = .ok (.aload_n 0, 1) := by decide +kernel
theorem dX5_pointsOfGames_43 : decode cX5_pointsOfGames 43 = .ok (.getfield 74, 3) := by decide +kernel
theorem dX5_pointsOfGames_46 : decode cX5_pointsOfGames 46 = .ok (.if_acmp .eq 21, 3) := by decide +kernel
theorem dX5_pointsOfGames_49 : decode cX5_pointsOfGames 49 = .ok (.aload 7, 2) := by decide +kernel
theorem dX5_pointsOfGames_51 : decode cX5_pointsOfGames 51 = .ok (.iload_n 1, 1) := by decide +kernel
theorem dX5_pointsOfGames_52 : decode cX5_pointsOfGames 52 = .ok (.iload_n 2, 1) := by decide +kernel
theorem dX5_pointsOfGames_53 : decode cX5_pointsOfGames 53 = .ok (.invokevirtual 192, 3) := by decide +kernel
theorem dX5_pointsOfGames_56 : decode cX5_pointsOfGames 56 = .ok (.ifCond .eq 11, 3) := by decide +kernel
theorem dX5_pointsOfGames_59 : decode cX5_pointsOfGames 59 = .ok (.iload_n 3, 1) := by decide +kernel
theorem dX5_pointsOfGames_60 : decode cX5_pointsOfGames 60 = .ok (.aload 7, 2) := by decide +kernel
theorem dX5_pointsOfGames_62 : decode cX5_pointsOfGames 62 = .ok (.getfield 108, 3) := by decide +kernel
theorem dX5_pointsOfGames_65 : decode cX5_pointsOfGames 65 = .ok (.iadd, 1) := by decide +kernel
theorem dX5_pointsOfGames_66 : decode cX5_pointsOfGames 66 = .ok (.istore_n 3, 1) := by decide +kernel
theorem dX5_pointsOfGames_67 : decode cX5_pointsOfGames 67 = .ok (.iinc 6 1, 3) := by decide +kernel
theorem dX5_pointsOfGames_70 : decode cX5_pointsOfGames 70 = .ok (.goto (-49), 3) := by decide +kernel
theorem dX5_pointsOfGames_73 : decode cX5_pointsOfGames 73 = .ok (.iload_n 3, 1) := by decide +kernel
theorem dX5_pointsOfGames_74 : decode cX5_pointsOfGames 74 = .ok (.ireturn, 1) := by decide +kernel
theorem dX5_mean_0 : decode cX5_mean 0 = .ok (.iload_n 1, 1) := by decide +kernel
theorem dX5_mean_1 : decode cX5_mean 1 = .ok (.iload_n 2, 1) := by decide +kernel
theorem dX5_mean_2 : decode cX5_mean 2 = .ok (.invokestatic 173, 3) := by decide +kernel
theorem dX5_mean_5 : decode cX5_mean 5 = .ok (.aload_n 0, 1) := by decide +kernel
theorem dX5_mean_6 : decode cX5_mean 6 = .ok (.getfield 30, 3) := by decide +kernel
theorem dX5_mean_9 : decode cX5_mean 9 = .ok (.iload_n 1, 1) := by decide +kernel
theorem dX5_mean_10 : decode cX5_mean 10 = .ok (.iload_n 2, 1) := by decide +kernel
theorem dX5_mean_11 : decode cX5_mean 11 = .ok (.invokevirtual 177, 3) := by decide +kernel
theorem dX5_mean_14 : decode cX5_mean 14 = .ok (.astore_n 3, 1) := by decide +kernel
theorem dX5_mean_15 : decode cX5_mean 15 = .ok (.aload_n 3, 1) := by decide +kernel
theorem dX5_mean_16 : decode cX5_mean 16 = .ok (.ifnull 10, 3) := by decide +kernel
theorem dX5_mean_19 : decode cX5_mean 19 = .ok (.aload_n 3, 1) := by decide +kernel
theorem dX5_mean_20 : decode cX5_mean 20 = .ok (.getfield 181, 3) := by decide +kernel
theorem dX5_mean_23 : decode cX5_mean 23 = .ok (.ifCond .ne 5, 3) := by decide +kernel
theorem dX5_mean_26 : decode cX5_mean 26 = .ok (.fconst 0, 1) := by decide +kernel
theorem dX5_mean_27 : decode cX5_mean 27 = .ok (.freturn, 1) := by decide +kernel
theorem dX5_mean_28 : decode cX5_mean 28 = .ok (.aload_n 3, 1) := by decide +kernel
theorem dX5_mean_29 : decode cX5_mean 29 = .ok (.getfield 186, 3) := by decide +kernel
theorem dX5_mean_32 : decode cX5_mean 32 = .ok (.i2f, 1) := by decide +kernel
theorem dX5_mean_33 : decode cX5_mean 33 = .ok (.aload_n 3, 1) := by decide +kernel
theorem dX5_mean_34 : decode cX5_mean 34 = .ok (.getfield 181, 3) := by decide +kernel
theorem dX5_mean_37 : decode cX5_mean 37 = .ok (.i2f, 1) := by decide +kernel
theorem dX5_mean_38 : decode cX5_mean 38 = .ok (.fdiv, 1) := by decide +kernel
theorem dX5_mean_39 : decode cX5_mean 39 = .ok (.freturn, 1) := by decide +kernel
theorem dX5_opponent_0 : decode cX5_opponent 0 = .ok (.aload_n 0, 1) := by decide +kernel
theorem dX5_opponent_1 : decode cX5_opponent 1 = .ok (.iload_n 1, 1) := by decide +kernel
theorem dX5_opponent_2 : decode cX5_opponent 2 = .ok (.invokevirtual 65, 3) := by decide +kernel
theorem dX5_opponent_5 : decode cX5_opponent 5 = .ok (.astore_n 2, 1) := by decide +kernel
theorem dX5_opponent_6 : decode cX5_opponent 6 = .ok (.aload_n 0, 1) := by decide +kernel
theorem dX5_opponent_7 : decode cX5_opponent 7 = .ok (.invokevirtual 195, 3) := by decide +kernel
theorem dX5_opponent_10 : decode cX5_opponent 10 = .ok (.aload_n 2, 1) := by decide +kernel
theorem dX5_opponent_11 : decode cX5_opponent 11 = .ok (.getfield 198, 3) := by decide +kernel
theorem dX5_opponent_14 : decode cX5_opponent 14 = .ok (.astore_n 3, 1) := by decide +kernel
theorem dX5_opponent_15 : decode cX5_opponent 15 = .ok (.aload_n 3, 1) := by decide +kernel
theorem dX5_opponent_16 : decode cX5_opponent 16 = .ok (.ifnonnull 7, 3) := by decide +kernel
theorem dX5_opponent_19 : decode cX5_opponent 19 = .ok (.iconst (-1), 1) := by decide +kernel
theorem dX5_opponent_20 : decode cX5_opponent 20 = .ok (.goto 7, 3) := by decide +kernel
theorem dX5_opponent_23 : decode cX5_opponent 23 = .ok (.aload_n 3, 1) := by decide +kernel
theorem dX5_opponent_24 : decode cX5_opponent 24 = .ok (.getfield 201, 3) := by decide +kernel
theorem dX5_opponent_27 : decode cX5_opponent 27 = .ok (.ireturn, 1) := by decide +kernel
theorem dX5_hasWhite_0 : decode cX5_hasWhite 0 = .ok (.aload_n 0, 1) := by decide +kernel
theorem dX5_hasWhite_1 : decode cX5_hasWhite 1 = .ok (.iload_n 1, 1) := by decide +kernel
theorem dX5_hasWhite_2 : decode cX5_hasWhite 2 = .ok (.invokevirtual 65, 3) := by decide +kernel
theorem dX5_hasWhite_5 : decode cX5_hasWhite 5 = .ok (.astore_n 2, 1) := by decide +kernel
theorem dX5_hasWhite_6 : decode cX5_hasWhite 6 = .ok (.aload_n 0, 1) := by decide +kernel
theorem dX5_hasWhite_7 : decode cX5_hasWhite 7 = .ok (.invokevirtual 195, 3) := by decide +kernel
theorem dX5_hasWhite_10 : decode cX5_hasWhite 10 = .ok (.aload_n 2, 1) := by decide +kernel
theorem dX5_hasWhite_11 : decode cX5_hasWhite 11 = .ok (.getfield 198, 3) := by decide +kernel
theorem dX5_hasWhite_14 : decode cX5_hasWhite 14 = .ok (.astore_n 3, 1) := by decide +kernel
theorem dX5_hasWhite_15 : decode cX5_hasWhite 15 = .ok (.aload_n 3, 1) := by decide +kernel
theorem dX5_hasWhite_16 : decode cX5_hasWhite 16 = .ok (.ifnonnull 13, 3) := by decide +kernel
theorem dX5_hasWhite_19 : decode cX5_hasWhite 19 = .ok (.new 56, 3) := by decide +kernel
theorem dX5_hasWhite_22 : decode cX5_hasWhite 22 = .ok (.dup, 1) := by decide +kernel
theorem dX5_hasWhite_23 : decode cX5_hasWhite 23 = .ok (.ldc 204, 2) := by decide +kernel
theorem dX5_hasWhite_25 : decode cX5_hasWhite 25 = .ok (.invokespecial 60, 3) := by decide +kernel
theorem dX5_hasWhite_28 : decode cX5_hasWhite 28 = .ok (.athrow, 1) := by decide +kernel
theorem dX5_hasWhite_29 : decode cX5_hasWhite 29 = .ok (.aload_n 2, 1) := by decide +kernel
theorem dX5_hasWhite_30 : decode cX5_hasWhite 30 = .ok (.invokevirtual 206, 3) := by decide +kernel
theorem dX5_hasWhite_33 : decode cX5_hasWhite 33 = .ok (.aload_n 3, 1) := by decide +kernel
theorem dX5_hasWhite_34 : decode cX5_hasWhite 34 = .ok (.invokevirtual 206, 3) := by decide +kernel
theorem dX5_hasWhite_37 : decode cX5_hasWhite 37 = .ok (.if_icmp .eq 20, 3) := by decide +kernel
theorem dX5_hasWhite_40 : decode cX5_hasWhite 40 = .ok (.aload_n 2, 1) := by decide +kernel
theorem dX5_hasWhite_41 : decode cX5_hasWhite 41 = .ok (.invokevirtual 206, 3) := by decide +kernel
theorem dX5_hasWhite_44 : decode cX5_hasWhite 44 = .ok (.aload_n 3, 1) := by decide +kernel
theorem dX5_hasWhite_45 : decode cX5_hasWhite 45 = .ok (.invokevirtual 206, 3) := by decide +kernel
theorem dX5_hasWhite_48 : decode cX5_hasWhite 48 = .ok (.if_icmp .ge 7, 3) := by decide +kernel
theorem dX5_hasWhite_51 : decode cX5_hasWhite 51 = .ok (.iconst 1, 1) := by decide +kernel
theorem dX5_hasWhite_52 : decode cX5_hasWhite 52 = .ok (.goto 4, 3) := by decide +kernel
theorem dX5_hasWhite_55 : decode cX5_hasWhite 55 = .ok (.iconst 0, 1) := by decide +kernel
theorem dX5_hasWhite_56 : decode cX5_hasWhite 56 = .ok (.ireturn, 1) := by decide +kernel
theorem dX5_hasWhite_57 : decode cX5_hasWhite 57 = .ok (.aload_n 2, 1) := by decide +kernel
theorem dX5_hasWhite_58 : decode cX5_hasWhite 58 = .ok (.getfield 201, 3) := by decide +kernel
theorem dX5_hasWhite_61 : decode cX5_hasWhite 61 = .ok (.aload_n 3, 1) := by decide +kernel
theorem dX5_hasWhite_62 : decode cX5_hasWhite 62 = .ok (.getfield 201, 3) := by decide +kernel
theorem dX5_hasWhite_65 : decode cX5_hasWhite 65 = .ok (.if_icmp .ge 7, 3) := by decide +kernel
theorem dX5_hasWhite_68 : decode cX5_hasWhite 68 = .ok (.iconst 1, 1) := by decide +kernel
theorem dX5_hasWhite_69 : decode cX5_hasWhite 69 = .ok (.goto 4, 3) := by decide +kernel
theorem dX5_hasWhite_72 : decode cX5_hasWhite 72 = .ok (.iconst 0, 1) := by decide +kernel
theorem dX5_hasWhite_73 : decode cX5_hasWhite 73 = .ok (.ireturn, 1) := by decide +kernel
theorem dX5_checkPosition_0 : decode cX5_checkPosition 0 = .ok (.iload_n 0, 1) := by decide +kernel
theorem dX5_checkPosition_1 : decode cX5_checkPosition 1 = .ok (.ifCond .lt 10, 3) := by decide +kernel
theorem dX5_checkPosition_4 : decode cX5_checkPosition 4 = .ok (.iload_n 0, 1) := by decide +kernel
theorem dX5_checkPosition_5 : decode cX5_checkPosition 5 = .ok (.sipush 1000, 3) := by decide +kernel
theorem dX5_checkPosition_8 : decode cX5_checkPosition 8 = .ok (.if_icmp .lt 13, 3) := by decide +kernel
theorem dX5_checkPosition_11 : decode cX5_checkPosition 11 = .ok (.new 69, 3) := by decide +kernel
theorem dX5_checkPosition_14 : decode cX5_checkPosition 14 = .ok (.dup, 1) := by decide +kernel
theorem dX5_checkPosition_15 : decode cX5_checkPosition 15 = .ok (.ldc 210, 2) := by decide +kernel
theorem dX5_checkPosition_17 : decode cX5_checkPosition 17 = .ok (.invokespecial 73, 3) := by decide +kernel
theorem dX5_checkPosition_20 : decode cX5_checkPosition 20 = .ok (.athrow, 1) := by decide +kernel
theorem dX5_checkPosition_21 : decode cX5_checkPosition 21 = .ok (.return_, 1) := by decide +kernel
theorem dX5_checkMove_0 : decode cX5_checkMove 0 = .ok (.iload_n 0, 1) := by decide +kernel
theorem dX5_checkMove_1 : decode cX5_checkMove 1 = .ok (.ifCond .lt 8, 3) := by decide +kernel
theorem dX5_checkMove_4 : decode cX5_checkMove 4 = .ok (.iload_n 0, 1) := by decide +kernel
theorem dX5_checkMove_5 : decode cX5_checkMove 5 = .ok (.iconst 4, 1) := by decide +kernel
theorem dX5_checkMove_6 : decode cX5_checkMove 6 = .ok (.if_icmp .lt 13, 3) := by decide +kernel
theorem dX5_checkMove_9 : decode cX5_checkMove 9 = .ok (.new 69, 3) := by decide +kernel
theorem dX5_checkMove_12 : decode cX5_checkMove 12 = .ok (.dup, 1) := by decide +kernel
theorem dX5_checkMove_13 : decode cX5_checkMove 13 = .ok (.ldc 212, 2) := by decide +kernel
theorem dX5_checkMove_15 : decode cX5_checkMove 15 = .ok (.invokespecial 73, 3) := by decide +kernel
theorem dX5_checkMove_18 : decode cX5_checkMove 18 = .ok (.athrow, 1) := by decide +kernel
theorem dX5_checkMove_19 : decode cX5_checkMove 19 = .ok (.return_, 1) := by decide +kernel
theorem dX5_checkLine_0 : decode cX5_checkLine 0 = .ok (.iload_n 1, 1) := by decide +kernel
theorem dX5_checkLine_1 : decode cX5_checkLine 1 = .ok (.iconst 1, 1) := by decide +kernel
theorem dX5_checkLine_2 : decode cX5_checkLine 2 = .ok (.if_icmp .lt 9, 3) := by decide +kernel
theorem dX5_checkLine_5 : decode cX5_checkLine 5 = .ok (.iload_n 1, 1) := by decide +kernel
theorem dX5_checkLine_6 : decode cX5_checkLine 6 = .ok (.bipush 6, 2) := by decide +kernel
theorem dX5_checkLine_8 : decode cX5_checkLine 8 = .ok (.if_icmp .le 13, 3) := by decide +kernel
theorem dX5_checkLine_11 : decode cX5_checkLine 11 = .ok (.new 69, 3) := by decide +kernel
theorem dX5_checkLine_14 : decode cX5_checkLine 14 = .ok (.dup, 1) := by decide +kernel
theorem dX5_checkLine_15 : decode cX5_checkLine 15 = .ok (.ldc 214, 2) := by decide +kernel
theorem dX5_checkLine_17 : decode cX5_checkLine 17 = .ok (.invokespecial 73, 3) := by decide +kernel
theorem dX5_checkLine_20 : decode cX5_checkLine 20 = .ok (.athrow, 1) := by decide +kernel
theorem dX5_checkLine_21 : decode cX5_checkLine 21 = .ok (.iload_n 0, 1) := by decide +kernel
theorem dX5_checkLine_22 : decode cX5_checkLine 22 = .ok (.ifCond .lt 12, 3) := by decide +kernel
theorem dX5_checkLine_25 : decode cX5_checkLine 25 = .ok (.iload_n 0, 1) := by decide +kernel
theorem dX5_checkLine_26 : decode cX5_checkLine 26 = .ok (.iconst 1, 1) := by decide +kernel
theorem dX5_checkLine_27 : decode cX5_checkLine 27 = .ok (.iconst 2, 1) := by decide +kernel
theorem dX5_checkLine_28 : decode cX5_checkLine 28 = .ok (.iload_n 1, 1) := by decide +kernel
theorem dX5_checkLine_29 : decode cX5_checkLine 29 = .ok (.imul, 1) := by decide +kernel
theorem dX5_checkLine_30 : decode cX5_checkLine 30 = .ok (.ishl, 1) := by decide +kernel
theorem dX5_checkLine_31 : decode cX5_checkLine 31 = .ok (.if_icmp .lt 13, 3) := by decide +kernel
theorem dX5_checkLine_34 : decode cX5_checkLine 34 = .ok (.new 69, 3) := by decide +kernel
theorem dX5_checkLine_37 : decode cX5_checkLine 37 = .ok (.dup, 1) := by decide +kernel
theorem dX5_checkLine_38 : decode cX5_checkLine 38 = .ok (.ldc 216, 2) := by decide +kernel
theorem dX5_checkLine_40 : decode cX5_checkLine 40 = .ok (.invokespecial 73, 3) := by decide +kernel
theorem dX5_checkLine_43 : decode cX5_checkLine 43 = .ok (.athrow, 1) := by decide +kernel
theorem dX5_checkLine_44 : decode cX5_checkLine 44 = .ok (.return_, 1) := by decide +kernel
theorem dX5_knownPlayer_0 : decode cX5_knownPlayer 0 = .ok (.iload_n 1, 1) := by decide +kernel
theorem dX5_knownPlayer_1 : decode cX5_knownPlayer 1 = .ok (.ifCond .lt 21, 3) := by decide +kernel
theorem dX5_knownPlayer_4 : decode cX5_knownPlayer 4 = .ok (.iload_n 1, 1) := by decide +kernel
theorem dX5_knownPlayer_5 : decode cX5_knownPlayer 5 = .ok (.aload_n 0, 1) := by decide +kernel
theorem dX5_knownPlayer_6 : decode cX5_knownPlayer 6 = .ok (.getfield 11, 3) := by decide +kernel
theorem dX5_knownPlayer_9 : decode cX5_knownPlayer 9 = .ok (.arraylength, 1) := by decide +kernel
theorem dX5_knownPlayer_10 : decode cX5_knownPlayer 10 = .ok (.if_icmp .ge 12, 3) := by decide +kernel
theorem dX5_knownPlayer_13 : decode cX5_knownPlayer 13 = .ok (.aload_n 0, 1) := by decide +kernel
theorem dX5_knownPlayer_14 : decode cX5_knownPlayer 14 = .ok (.getfield 11, 3) := by decide +kernel
theorem dX5_knownPlayer_17 : decode cX5_knownPlayer 17 = .ok (.iload_n 1, 1) := by decide +kernel
theorem dX5_knownPlayer_18 : decode cX5_knownPlayer 18 = .ok (.aaload, 1) := by decide +kernel
theorem dX5_knownPlayer_19 : decode cX5_knownPlayer 19 = .ok (.goto 4, 3) := by decide +kernel
theorem dX5_knownPlayer_22 : decode cX5_knownPlayer 22 = .ok (.aconst_null, 1) := by decide +kernel
theorem dX5_knownPlayer_23 : decode cX5_knownPlayer 23 = .ok (.astore_n 2, 1) := by decide +kernel
theorem dX5_knownPlayer_24 : decode cX5_knownPlayer 24 = .ok (.aload_n 2, 1) := by decide +kernel
theorem dX5_knownPlayer_25 : decode cX5_knownPlayer 25 = .ok (.ifnonnull 13, 3) := by decide +kernel
theorem dX5_knownPlayer_28 : decode cX5_knownPlayer 28 = .ok (.new 218, 3) := by decide +kernel
theorem dX5_knownPlayer_31 : decode cX5_knownPlayer 31 = .ok (.dup, 1) := by decide +kernel
theorem dX5_knownPlayer_32 : decode cX5_knownPlayer 32 = .ok (.ldc 220, 2) := by decide +kernel
theorem dX5_knownPlayer_34 : decode cX5_knownPlayer 34 = .ok (.invokespecial 222, 3) := by decide +kernel
theorem dX5_knownPlayer_37 : decode cX5_knownPlayer 37 = .ok (.athrow, 1) := by decide +kernel
theorem dX5_knownPlayer_38 : decode cX5_knownPlayer 38 = .ok (.aload_n 2, 1) := by decide +kernel
theorem dX5_knownPlayer_39 : decode cX5_knownPlayer 39 = .ok (.areturn, 1) := by decide +kernel
theorem dX5_knownPuzzle_0 : decode cX5_knownPuzzle 0 = .ok (.iload_n 1, 1) := by decide +kernel
theorem dX5_knownPuzzle_1 : decode cX5_knownPuzzle 1 = .ok (.ifCond .lt 21, 3) := by decide +kernel
theorem dX5_knownPuzzle_4 : decode cX5_knownPuzzle 4 = .ok (.iload_n 1, 1) := by decide +kernel
theorem dX5_knownPuzzle_5 : decode cX5_knownPuzzle 5 = .ok (.aload_n 0, 1) := by decide +kernel
theorem dX5_knownPuzzle_6 : decode cX5_knownPuzzle 6 = .ok (.getfield 23, 3) := by decide +kernel
theorem dX5_knownPuzzle_9 : decode cX5_knownPuzzle 9 = .ok (.arraylength, 1) := by decide +kernel
theorem dX5_knownPuzzle_10 : decode cX5_knownPuzzle 10 = .ok (.if_icmp .ge 12, 3) := by decide +kernel
theorem dX5_knownPuzzle_13 : decode cX5_knownPuzzle 13 = .ok (.aload_n 0, 1) := by decide +kernel
theorem dX5_knownPuzzle_14 : decode cX5_knownPuzzle 14 = .ok (.getfield 23, 3) := by decide +kernel
theorem dX5_knownPuzzle_17 : decode cX5_knownPuzzle 17 = .ok (.iload_n 1, 1) := by decide +kernel
theorem dX5_knownPuzzle_18 : decode cX5_knownPuzzle 18 = .ok (.aaload, 1) := by decide +kernel
theorem dX5_knownPuzzle_19 : decode cX5_knownPuzzle 19 = .ok (.goto 4, 3) := by decide +kernel
theorem dX5_knownPuzzle_22 : decode cX5_knownPuzzle 22 = .ok (.aconst_null, 1) := by decide +kernel
theorem dX5_knownPuzzle_23 : decode cX5_knownPuzzle 23 = .ok (.astore_n 2, 1) := by decide +kernel
theorem dX5_knownPuzzle_24 : decode cX5_knownPuzzle 24 = .ok (.aload_n 2, 1) := by decide +kernel
theorem dX5_knownPuzzle_25 : decode cX5_knownPuzzle 25 = .ok (.ifnonnull 13, 3) := by decide +kernel
theorem dX5_knownPuzzle_28 : decode cX5_knownPuzzle 28 = .ok (.new 218, 3) := by decide +kernel
theorem dX5_knownPuzzle_31 : decode cX5_knownPuzzle 31 = .ok (.dup, 1) := by decide +kernel
theorem dX5_knownPuzzle_32 : decode cX5_knownPuzzle 32 = .ok (.ldc 223, 2) := by decide +kernel
theorem dX5_knownPuzzle_34 : decode cX5_knownPuzzle 34 = .ok (.invokespecial 222, 3) := by decide +kernel
theorem dX5_knownPuzzle_37 : decode cX5_knownPuzzle 37 = .ok (.athrow, 1) := by decide +kernel
theorem dX5_knownPuzzle_38 : decode cX5_knownPuzzle 38 = .ok (.aload_n 2, 1) := by decide +kernel
theorem dX5_knownPuzzle_39 : decode cX5_knownPuzzle 39 = .ok (.areturn, 1) := by decide +kernel
theorem dX5_positionAfter_0 : decode cX5_positionAfter 0 = .ok (.bipush 7, 2) := by decide +kernel
theorem dX5_positionAfter_2 : decode cX5_positionAfter 2 = .ok (.iload_n 0, 1) := by decide +kernel
theorem dX5_positionAfter_3 : decode cX5_positionAfter 3 = .ok (.imul, 1) := by decide +kernel
theorem dX5_positionAfter_4 : decode cX5_positionAfter 4 = .ok (.bipush 13, 2) := by decide +kernel
theorem dX5_positionAfter_6 : decode cX5_positionAfter 6 = .ok (.iload_n 1, 1) := by decide +kernel
theorem dX5_positionAfter_7 : decode cX5_positionAfter 7 = .ok (.imul, 1) := by decide +kernel
theorem dX5_positionAfter_8 : decode cX5_positionAfter 8 = .ok (.iadd, 1) := by decide +kernel
theorem dX5_positionAfter_9 : decode cX5_positionAfter 9 = .ok (.iconst 5, 1) := by decide +kernel
theorem dX5_positionAfter_10 : decode cX5_positionAfter 10 = .ok (.iadd, 1) := by decide +kernel
theorem dX5_positionAfter_11 : decode cX5_positionAfter 11 = .ok (.sipush 1000, 3) := by decide +kernel
theorem dX5_positionAfter_14 : decode cX5_positionAfter 14 = .ok (.irem, 1) := by decide +kernel
theorem dX5_positionAfter_15 : decode cX5_positionAfter 15 = .ok (.ireturn, 1) := by decide +kernel
theorem dX5_worthOf_0 : decode cX5_worthOf 0 = .ok (.iload_n 0, 1) := by decide +kernel
theorem dX5_worthOf_1 : decode cX5_worthOf 1 = .ok (.bipush 37, 2) := by decide +kernel
theorem dX5_worthOf_3 : decode cX5_worthOf 3 = .ok (.imul, 1) := by decide +kernel
theorem dX5_worthOf_4 : decode cX5_worthOf 4 = .ok (.bipush 101, 2) := by decide +kernel
theorem dX5_worthOf_6 : decode cX5_worthOf 6 = .ok (.irem, 1) := by decide +kernel
theorem dX5_worthOf_7 : decode cX5_worthOf 7 = .ok (.bipush 50, 2) := by decide +kernel
theorem dX5_worthOf_9 : decode cX5_worthOf 9 = .ok (.isub, 1) := by decide +kernel
theorem dX5_worthOf_10 : decode cX5_worthOf 10 = .ok (.ireturn, 1) := by decide +kernel
theorem dX5_worthAfter_0 : decode cX5_worthAfter 0 = .ok (.iload_n 0, 1) := by decide +kernel
theorem dX5_worthAfter_1 : decode cX5_worthAfter 1 = .ok (.iload_n 1, 1) := by decide +kernel
theorem dX5_worthAfter_2 : decode cX5_worthAfter 2 = .ok (.invokestatic 41, 3) := by decide +kernel
theorem dX5_worthAfter_5 : decode cX5_worthAfter 5 = .ok (.invokestatic 45, 3) := by decide +kernel
theorem dX5_worthAfter_8 : decode cX5_worthAfter 8 = .ok (.ireturn, 1) := by decide +kernel
theorem dX5_bestMove_0 : decode cX5_bestMove 0 = .ok (.iconst 0, 1) := by decide +kernel
theorem dX5_bestMove_1 : decode cX5_bestMove 1 = .ok (.istore_n 1, 1) := by decide +kernel
theorem dX5_bestMove_2 : decode cX5_bestMove 2 = .ok (.iconst 1, 1) := by decide +kernel
theorem dX5_bestMove_3 : decode cX5_bestMove 3 = .ok (.istore_n 2, 1) := by decide +kernel
theorem dX5_bestMove_4 : decode cX5_bestMove 4 = .ok (.iload_n 2, 1) := by decide +kernel
theorem dX5_bestMove_5 : decode cX5_bestMove 5 = .ok (.iconst 4, 1) := by decide +kernel
theorem dX5_bestMove_6 : decode cX5_bestMove 6 = .ok (.if_icmp .ge 24, 3) := by decide +kernel
theorem dX5_bestMove_9 : decode cX5_bestMove 9 = .ok (.iload_n 0, 1) := by decide +kernel
theorem dX5_bestMove_10 : decode cX5_bestMove 10 = .ok (.iload_n 2, 1) := by decide +kernel
theorem dX5_bestMove_11 : decode cX5_bestMove 11 = .ok (.invokestatic 225, 3) := by decide +kernel
theorem dX5_bestMove_14 : decode cX5_bestMove 14 = .ok (.iload_n 0, 1) := by decide +kernel
theorem dX5_bestMove_15 : decode cX5_bestMove 15 = .ok (.iload_n 1, 1) := by decide +kernel
theorem dX5_bestMove_16 : decode cX5_bestMove 16 = .ok (.invokestatic 225, 3) := by decide +kernel
theorem dX5_bestMove_19 : decode cX5_bestMove 19 = .ok (.if_icmp .le 5, 3) := by decide +kernel
theorem dX5_bestMove_22 : decode cX5_bestMove 22 = .ok (.iload_n 2, 1) := by decide +kernel
theorem dX5_bestMove_23 : decode cX5_bestMove 23 = .ok (.istore_n 1, 1) := by decide +kernel
theorem dX5_bestMove_24 : decode cX5_bestMove 24 = .ok (.iinc 2 1, 3) := by decide +kernel
theorem dX5_bestMove_27 : decode cX5_bestMove 27 = .ok (.goto (-23), 3) := by decide +kernel
theorem dX5_bestMove_30 : decode cX5_bestMove 30 = .ok (.iload_n 1, 1) := by decide +kernel
theorem dX5_bestMove_31 : decode cX5_bestMove 31 = .ok (.ireturn, 1) := by decide +kernel
theorem dX5_isBlunder_0 : decode cX5_isBlunder 0 = .ok (.iload_n 0, 1) := by decide +kernel
theorem dX5_isBlunder_1 : decode cX5_isBlunder 1 = .ok (.iload_n 0, 1) := by decide +kernel
theorem dX5_isBlunder_2 : decode cX5_isBlunder 2 = .ok (.invokestatic 49, 3) := by decide +kernel
theorem dX5_isBlunder_5 : decode cX5_isBlunder 5 = .ok (.invokestatic 225, 3) := by decide +kernel
theorem dX5_isBlunder_8 : decode cX5_isBlunder 8 = .ok (.iload_n 0, 1) := by decide +kernel
theorem dX5_isBlunder_9 : decode cX5_isBlunder 9 = .ok (.iload_n 1, 1) := by decide +kernel
theorem dX5_isBlunder_10 : decode cX5_isBlunder 10 = .ok (.invokestatic 225, 3) := by decide +kernel
theorem dX5_isBlunder_13 : decode cX5_isBlunder 13 = .ok (.isub, 1) := by decide +kernel
theorem dX5_isBlunder_14 : decode cX5_isBlunder 14 = .ok (.bipush 40, 2) := by decide +kernel
theorem dX5_isBlunder_16 : decode cX5_isBlunder 16 = .ok (.if_icmp .lt 7, 3) := by decide +kernel
theorem dX5_isBlunder_19 : decode cX5_isBlunder 19 = .ok (.iconst 1, 1) := by decide +kernel
theorem dX5_isBlunder_20 : decode cX5_isBlunder 20 = .ok (.goto 4, 3) := by decide +kernel
theorem dX5_isBlunder_23 : decode cX5_isBlunder 23 = .ok (.iconst 0, 1) := by decide +kernel
theorem dX5_isBlunder_24 : decode cX5_isBlunder 24 = .ok (.ireturn, 1) := by decide +kernel
theorem dX5_moveOfLine_0 : decode cX5_moveOfLine 0 = .ok (.iload_n 0, 1) := by decide +kernel
theorem dX5_moveOfLine_1 : decode cX5_moveOfLine 1 = .ok (.iconst 2, 1) := by decide +kernel
theorem dX5_moveOfLine_2 : decode cX5_moveOfLine 2 = .ok (.iload_n 1, 1) := by decide +kernel
theorem dX5_moveOfLine_3 : decode cX5_moveOfLine 3 = .ok (.imul, 1) := by decide +kernel
theorem dX5_moveOfLine_4 : decode cX5_moveOfLine 4 = .ok (.ishr, 1) := by decide +kernel
theorem dX5_moveOfLine_5 : decode cX5_moveOfLine 5 = .ok (.iconst 3, 1) := by decide +kernel
theorem dX5_moveOfLine_6 : decode cX5_moveOfLine 6 = .ok (.iand, 1) := by decide +kernel
theorem dX5_moveOfLine_7 : decode cX5_moveOfLine 7 = .ok (.ireturn, 1) := by decide +kernel
theorem dX5_makePuzzles_0 : decode cX5_makePuzzles 0 = .ok (.iconst 0, 1) := by decide +kernel
theorem dX5_makePuzzles_1 : decode cX5_makePuzzles 1 = .ok (.istore_n 3, 1) := by decide +kernel
theorem dX5_makePuzzles_2 : decode cX5_makePuzzles 2 = .ok (.iconst 1, 1) := by decide +kernel
theorem dX5_makePuzzles_3 : decode cX5_makePuzzles 3 = .ok (.istore 4, 2) := by decide +kernel
theorem dX5_makePuzzles_5 : decode cX5_makePuzzles 5 = .ok (.iconst 0, 1) := by decide +kernel
theorem dX5_makePuzzles_6 : decode cX5_makePuzzles 6 = .ok (.istore 5, 2) := by decide +kernel
theorem dX5_makePuzzles_8 : decode cX5_makePuzzles 8 = .ok (.iload 5, 2) := by decide +kernel
theorem dX5_makePuzzles_10 : decode cX5_makePuzzles 10 = .ok (.aload_n 1, 1) := by decide +kernel
theorem dX5_makePuzzles_11 : decode cX5_makePuzzles 11 = .ok (.getfield 228, 3) := by decide +kernel
theorem dX5_makePuzzles_14 : decode cX5_makePuzzles 14 = .ok (.if_icmp .ge 49, 3) := by decide +kernel
theorem dX5_makePuzzles_17 : decode cX5_makePuzzles 17 = .ok (.aload_n 1, 1) := by decide +kernel
theorem dX5_makePuzzles_18 : decode cX5_makePuzzles 18 = .ok (.iload 5, 2) := by decide +kernel
theorem dX5_makePuzzles_20 : decode cX5_makePuzzles 20 = .ok (.invokevirtual 231, 3) := by decide +kernel
theorem dX5_makePuzzles_23 : decode cX5_makePuzzles 23 = .ok (.istore 6, 2) := by decide +kernel
theorem dX5_makePuzzles_25 : decode cX5_makePuzzles 25 = .ok (.iload 4, 2) := by decide +kernel
theorem dX5_makePuzzles_27 : decode cX5_makePuzzles 27 = .ok (.iload 6, 2) := by decide +kernel
theorem dX5_makePuzzles_29 : decode cX5_makePuzzles 29 = .ok (.invokestatic 99, 3) := by decide +kernel
theorem dX5_makePuzzles_32 : decode cX5_makePuzzles 32 = .ok (.ifCond .eq 16, 3) := by decide +kernel
theorem dX5_makePuzzles_35 : decode cX5_makePuzzles 35 = .ok (.aload_n 0, 1) := by decide +kernel
theorem dX5_makePuzzles_36 : decode cX5_makePuzzles 36 = .ok (.iload 4, 2) := by decide +kernel
theorem dX5_makePuzzles_38 : decode cX5_makePuzzles 38 = .ok (.iload_n 2, 1) := by decide +kernel
theorem dX5_makePuzzles_39 : decode cX5_makePuzzles 39 = .ok (.invokevirtual 234, 3) := by decide +kernel
theorem dX5_makePuzzles_42 : decode cX5_makePuzzles 42 = .ok (.ifCond .eq 6, 3) := by decide +kernel
theorem dX5_makePuzzles_45 : decode cX5_makePuzzles 45 = .ok (.iinc 3 1, 3) := by decide +kernel
theorem dX5_makePuzzles_48 : decode cX5_makePuzzles 48 = .ok (.iload 4, 2) := by decide +kernel
theorem dX5_makePuzzles_50 : decode cX5_makePuzzles 50 = .ok (.iload 6, 2) := by decide +kernel
theorem dX5_makePuzzles_52 : decode cX5_makePuzzles 52 = .ok (.invokestatic 41, 3) := by decide +kernel
theorem dX5_makePuzzles_55 : decode cX5_makePuzzles 55 = .ok (.istore 4, 2) := by decide +kernel
theorem dX5_makePuzzles_57 : decode cX5_makePuzzles 57 = .ok (.iinc 5 1, 3) := by decide +kernel
theorem dX5_makePuzzles_60 : decode cX5_makePuzzles 60 = .ok (.goto (-52), 3) := by decide +kernel
theorem dX5_makePuzzles_63 : decode cX5_makePuzzles 63 = .ok (.iload_n 3, 1) := by decide +kernel
theorem dX5_makePuzzles_64 : decode cX5_makePuzzles 64 = .ok (.ireturn, 1) := by decide +kernel
theorem dX5_addPuzzle_0 : decode cX5_addPuzzle 0 = .ok (.aload_n 0, 1) := by decide +kernel
theorem dX5_addPuzzle_1 : decode cX5_addPuzzle 1 = .ok (.getfield 136, 3) := by decide +kernel
theorem dX5_addPuzzle_4 : decode cX5_addPuzzle 4 = .ok (.istore_n 3, 1) := by decide +kernel
theorem dX5_addPuzzle_5 : decode cX5_addPuzzle 5 = .ok (.iload_n 3, 1) := by decide +kernel
theorem dX5_addPuzzle_6 : decode cX5_addPuzzle 6 = .ok (.ifCond .lt 20, 3) := by decide +kernel
theorem dX5_addPuzzle_9 : decode cX5_addPuzzle 9 = .ok (.iload_n 3, 1) := by decide +kernel
theorem dX5_addPuzzle_10 : decode cX5_addPuzzle 10 = .ok (.aload_n 0, 1) := by decide +kernel
theorem dX5_addPuzzle_11 : decode cX5_addPuzzle 11 = .ok (.getfield 23, 3) := by decide +kernel
theorem dX5_addPuzzle_14 : decode cX5_addPuzzle 14 = .ok (.arraylength, 1) := by decide +kernel
theorem dX5_addPuzzle_15 : decode cX5_addPuzzle 15 = .ok (.if_icmp .ge 11, 3) := by decide +kernel
theorem dX5_addPuzzle_18 : decode cX5_addPuzzle 18 = .ok (.aload_n 0, 1) := by decide +kernel
theorem dX5_addPuzzle_19 : decode cX5_addPuzzle 19 = .ok (.iload_n 1, 1) := by decide +kernel
theorem dX5_addPuzzle_20 : decode cX5_addPuzzle 20 = .ok (.invokevirtual 237, 3) := by decide +kernel
theorem dX5_addPuzzle_23 : decode cX5_addPuzzle 23 = .ok (.ifCond .eq 5, 3) := by decide +kernel
theorem dX5_addPuzzle_26 : decode cX5_addPuzzle 26 = .ok (.iconst 0, 1) := by decide +kernel
theorem dX5_addPuzzle_27 : decode cX5_addPuzzle 27 = .ok (.ireturn, 1) := by decide +kernel
theorem dX5_addPuzzle_28 : decode cX5_addPuzzle 28 = .ok (.aload_n 0, 1) := by decide +kernel
theorem dX5_addPuzzle_29 : decode cX5_addPuzzle 29 = .ok (.getfield 23, 3) := by decide +kernel
theorem dX5_addPuzzle_32 : decode cX5_addPuzzle 32 = .ok (.iload_n 3, 1) := by decide +kernel
theorem dX5_addPuzzle_33 : decode cX5_addPuzzle 33 = .ok (.new 21, 3) := by decide +kernel
theorem dX5_addPuzzle_36 : decode cX5_addPuzzle 36 = .ok (.dup, 1) := by decide +kernel
theorem dX5_addPuzzle_37 : decode cX5_addPuzzle 37 = .ok (.iload_n 1, 1) := by decide +kernel
theorem dX5_addPuzzle_38 : decode cX5_addPuzzle 38 = .ok (.iload_n 2, 1) := by decide +kernel
theorem dX5_addPuzzle_39 : decode cX5_addPuzzle 39 = .ok (.invokespecial 240, 3) := by decide +kernel
theorem dX5_addPuzzle_42 : decode cX5_addPuzzle 42 = .ok (.aastore, 1) := by decide +kernel
theorem dX5_addPuzzle_43 : decode cX5_addPuzzle 43 = .ok (.aload_n 0, 1) := by decide +kernel
theorem dX5_addPuzzle_44 : decode cX5_addPuzzle 44 = .ok (.iload_n 3, 1) := by decide +kernel
theorem dX5_addPuzzle_45 : decode cX5_addPuzzle 45 = .ok (.iconst 1, 1) := by decide +kernel
theorem dX5_addPuzzle_46 : decode cX5_addPuzzle 46 = .ok (.iadd, 1) := by decide +kernel
theorem dX5_addPuzzle_47 : decode cX5_addPuzzle 47 = .ok (.putfield 136, 3) := by decide +kernel
theorem dX5_addPuzzle_50 : decode cX5_addPuzzle 50 = .ok (.iconst 1, 1) := by decide +kernel
theorem dX5_addPuzzle_51 : decode cX5_addPuzzle 51 = .ok (.ireturn, 1) := by decide +kernel
theorem dX5_hasPuzzleFor_0 : decode cX5_hasPuzzleFor 0 = .ok (.aload_n 0, 1) := by decide +kernel
theorem dX5_hasPuzzleFor_1 : decode cX5_hasPuzzleFor 1 = .ok (.getfield 23, 3) := by decide +kernel
theorem dX5_hasPuzzleFor_4 : decode cX5_hasPuzzleFor 4 = .ok (.astore_n 2, 1) := by decide +kernel
theorem dX5_hasPuzzleFor_5 : decode cX5_hasPuzzleFor 5 = .ok (.aload_n 2, 1) := by decide +kernel
theorem dX5_hasPuzzleFor_6 : decode cX5_hasPuzzleFor 6 = .ok (.arraylength, 1) := by decide +kernel
theorem dX5_hasPuzzleFor_7 : decode cX5_hasPuzzleFor 7 = .ok (.istore_n 3, 1) := by decide +kernel
theorem dX5_hasPuzzleFor_8 : decode cX5_hasPuzzleFor 8 = .ok (.iconst 0, 1) := by decide +kernel
theorem dX5_hasPuzzleFor_9 : decode cX5_hasPuzzleFor 9 = .ok (.istore 4, 2) := by decide +kernel
theorem dX5_hasPuzzleFor_11 : decode cX5_hasPuzzleFor 11 = .ok (.iload 4, 2) := by decide +kernel
theorem dX5_hasPuzzleFor_13 : decode cX5_hasPuzzleFor 13 = .ok (.iload_n 3, 1) := by decide +kernel
theorem dX5_hasPuzzleFor_14 : decode cX5_hasPuzzleFor 14 = .ok (.if_icmp .ge 31, 3) := by decide +kernel
theorem dX5_hasPuzzleFor_17 : decode cX5_hasPuzzleFor 17 = .ok (.aload_n 2, 1) := by decide +kernel
theorem dX5_hasPuzzleFor_18 : decode cX5_hasPuzzleFor 18 = .ok (.iload 4, 2) := by decide +kernel
theorem dX5_hasPuzzleFor_20 : decode cX5_hasPuzzleFor 20 = .ok (.aaload, 1) := by decide +kernel
theorem dX5_hasPuzzleFor_21 : decode cX5_hasPuzzleFor 21 = .ok (.astore 5, 2) := by decide +kernel
theorem dX5_hasPuzzleFor_23 : decode cX5_hasPuzzleFor 23 = .ok (.aload 5, 2) := by decide +kernel
theorem dX5_hasPuzzleFor_25 : decode cX5_hasPuzzleFor 25 = .ok (.ifnull 14, 3) := by decide +kernel
theorem dX5_hasPuzzleFor_28 : decode cX5_hasPuzzleFor 28 = .ok (.aload 5, 2) := by decide +kernel
theorem dX5_hasPuzzleFor_30 : decode cX5_hasPuzzleFor 30 = .ok (.getfield 143, 3) := by decide +kernel
theorem dX5_hasPuzzleFor_33 : decode cX5_hasPuzzleFor 33 = .ok (.iload_n 1, 1) := by decide +kernel
theorem dX5_hasPuzzleFor_34 : decode cX5_hasPuzzleFor 34 = .ok (.if_icmp .ne 5, 3) := by decide +kernel
theorem dX5_hasPuzzleFor_37 : decode cX5_hasPuzzleFor 37 = .ok (.iconst 1, 1) := by decide +kernel
theorem dX5_hasPuzzleFor_38 : decode cX5_hasPuzzleFor 38 = .ok (.ireturn, 1) := by decide +kernel
theorem dX5_hasPuzzleFor_39 : decode cX5_hasPuzzleFor 39 = .ok (.iinc 4 1, 3) := by decide +kernel
theorem dX5_hasPuzzleFor_42 : decode cX5_hasPuzzleFor 42 = .ok (.goto (-31), 3) := by decide +kernel
theorem dX5_hasPuzzleFor_45 : decode cX5_hasPuzzleFor 45 = .ok (.iconst 0, 1) := by decide +kernel
theorem dX5_hasPuzzleFor_46 : decode cX5_hasPuzzleFor 46 = .ok (.ireturn, 1) := by decide +kernel
theorem dX5_pairPlayers_0 : decode cX5_pairPlayers 0 = .ok (.aload_n 0, 1) := by decide +kernel
theorem dX5_pairPlayers_1 : decode cX5_pairPlayers 1 = .ok (.getfield 11, 3) := by decide +kernel
theorem dX5_pairPlayers_4 : decode cX5_pairPlayers 4 = .ok (.astore_n 1, 1) := by decide +kernel
theorem dX5_pairPlayers_5 : decode cX5_pairPlayers 5 = .ok (.aload_n 1, 1) := by decide +kernel
theorem dX5_pairPlayers_6 : decode cX5_pairPlayers 6 = .ok (.arraylength, 1) := by decide +kernel
theorem dX5_pairPlayers_7 : decode cX5_pairPlayers 7 = .ok (.istore_n 2, 1) := by decide +kernel
theorem dX5_pairPlayers_8 : decode cX5_pairPlayers 8 = .ok (.iconst 0, 1) := by decide +kernel
theorem dX5_pairPlayers_9 : decode cX5_pairPlayers 9 = .ok (.istore_n 3, 1) := by decide +kernel
theorem dX5_pairPlayers_10 : decode cX5_pairPlayers 10 = .ok (.iload_n 3, 1) := by decide +kernel
theorem dX5_pairPlayers_11 : decode cX5_pairPlayers 11 = .ok (.iload_n 2, 1) := by decide +kernel
theorem dX5_pairPlayers_12 : decode cX5_pairPlayers 12 = .ok (.if_icmp .ge 25, 3) := by decide +kernel
theorem dX5_pairPlayers_15 : decode cX5_pairPlayers 15 = .ok (.aload_n 1, 1) := by decide +kernel
theorem dX5_pairPlayers_16 : decode cX5_pairPlayers 16 = .ok (.iload_n 3, 1) := by decide +kernel
theorem dX5_pairPlayers_17 : decode cX5_pairPlayers 17 = .ok (.aaload, 1) := by decide +kernel
theorem dX5_pairPlayers_18 : decode cX5_pairPlayers 18 = .ok (.astore 4, 2) := by decide +kernel
theorem dX5_pairPlayers_20 : decode cX5_pairPlayers 20 = .ok (.aload 4, 2) := by decide +kernel
theorem dX5_pairPlayers_22 : decode cX5_pairPlayers 22 = .ok (.ifnull 9, 3) := by decide +kernel
theorem dX5_pairPlayers_25 : decode cX5_pairPlayers 25 = .ok (.aload 4, 2) := by decide +kernel
theorem dX5_pairPlayers_27 : decode cX5_pairPlayers 27 = .ok (.aconst_null, 1) := by decide +kernel
theorem dX5_pairPlayers_28 : decode cX5_pairPlayers 28 = .ok (.putfield 198, 3) := by decide +kernel
theorem dX5_pairPlayers_31 : decode cX5_pairPlayers 31 = .ok (.iinc 3 1, 3) := by decide +kernel
theorem dX5_pairPlayers_34 : decode cX5_pairPlayers 34 = .ok (.goto (-24), 3) := by decide +kernel
theorem dX5_pairPlayers_37 : decode cX5_pairPlayers 37 = .ok (.iconst 0, 1) := by decide +kernel
theorem dX5_pairPlayers_38 : decode cX5_pairPlayers 38 = .ok (.istore_n 1, 1) := by decide +kernel
theorem dX5_pairPlayers_39 : decode cX5_pairPlayers 39 = .ok (.iload_n 1, 1) := by decide +kernel
theorem dX5_pairPlayers_40 : decode cX5_pairPlayers 40 = .ok (.iconst 4, 1) := by decide +kernel
theorem dX5_pairPlayers_41 : decode cX5_pairPlayers 41 = .ok (.if_icmp .ge 47, 3) := by decide +kernel
theorem dX5_pairPlayers_44 : decode cX5_pairPlayers 44 = .ok (.aload_n 0, 1) := by decide +kernel
theorem dX5_pairPlayers_45 : decode cX5_pairPlayers 45 = .ok (.invokevirtual 242, 3) := by decide +kernel
theorem dX5_pairPlayers_48 : decode cX5_pairPlayers 48 = .ok (.astore_n 2, 1) := by decide +kernel
theorem dX5_pairPlayers_49 : decode cX5_pairPlayers 49 = .ok (.aload_n 2, 1) := by decide +kernel
theorem dX5_pairPlayers_50 : decode cX5_pairPlayers 50 = .ok (.ifnonnull 7, 3) := by decide +kernel
theorem dX5_pairPlayers_53 : decode cX5_pairPlayers 53 = .ok (.aconst_null, 1) := by decide +kernel
theorem dX5_pairPlayers_54 : decode cX5_pairPlayers 54 = .ok (.goto 8, 3) := by decide +kernel
theorem dX5_pairPlayers_57 : decode cX5_pairPlayers 57 = .ok (.aload_n 0, 1) := by decide +kernel
theorem dX5_pairPlayers_58 : decode cX5_pairPlayers 58 = .ok (.aload_n 2, 1) := by decide +kernel
theorem dX5_pairPlayers_59 : decode cX5_pairPlayers 59 = .ok (.invokevirtual 246, 3) := by decide +kernel
theorem dX5_pairPlayers_62 : decode cX5_pairPlayers 62 = .ok (.astore_n 3, 1) := by decide +kernel
theorem dX5_pairPlayers_63 : decode cX5_pairPlayers 63 = .ok (.aload_n 2, 1) := by decide +kernel
theorem dX5_pairPlayers_64 : decode cX5_pairPlayers 64 = .ok (.ifnull 7, 3) := by decide +kernel
theorem dX5_pairPlayers_67 : decode cX5_pairPlayers 67 = .ok (.aload_n 3, 1) := by decide +kernel
theorem dX5_pairPlayers_68 : decode cX5_pairPlayers 68 = .ok (.ifnonnull 4, 3) := by decide +kernel
theorem dX5_pairPlayers_71 : decode cX5_pairPlayers 71 = .ok (.return_, 1) := by decide +kernel
theorem dX5_pairPlayers_72 : decode cX5_pairPlayers 72 = .ok (.aload_n 2, 1) := by decide +kernel
theorem dX5_pairPlayers_73 : decode cX5_pairPlayers 73 = .ok (.aload_n 3, 1) := by decide +kernel
theorem dX5_pairPlayers_74 : decode cX5_pairPlayers 74 = .ok (.putfield 198, 3) := by decide +kernel
theorem dX5_pairPlayers_77 : decode cX5_pairPlayers 77 = .ok (.aload_n 3, 1) := by decide +kernel
theorem dX5_pairPlayers_78 : decode cX5_pairPlayers 78 = .ok (.aload_n 2, 1) := by decide +kernel
theorem dX5_pairPlayers_79 : decode cX5_pairPlayers 79 = .ok (.putfield 198, 3) := by decide +kernel
theorem dX5_pairPlayers_82 : decode cX5_pairPlayers 82 = .ok (.iinc 1 1, 3) := by decide +kernel
theorem dX5_pairPlayers_85 : decode cX5_pairPlayers 85 = .ok (.goto (-46), 3) := by decide +kernel
theorem dX5_pairPlayers_88 : decode cX5_pairPlayers 88 = .ok (.return_, 1) := by decide +kernel
theorem dX5_firstUnpaired_0 : decode cX5_firstUnpaired 0 = .ok (.aconst_null, 1) := by decide +kernel
theorem dX5_firstUnpaired_1 : decode cX5_firstUnpaired 1 = .ok (.astore_n 1, 1) := by decide +kernel
theorem dX5_firstUnpaired_2 : decode cX5_firstUnpaired 2 = .ok (.aload_n 0, 1) := by decide +kernel
theorem dX5_firstUnpaired_3 : decode cX5_firstUnpaired 3 = .ok (.getfield 11, 3) := by decide +kernel
theorem dX5_firstUnpaired_6 : decode cX5_firstUnpaired 6 = .ok (.astore_n 2, 1) := by decide +kernel
theorem dX5_firstUnpaired_7 : decode cX5_firstUnpaired 7 = .ok (.aload_n 2, 1) := by decide +kernel
theorem dX5_firstUnpaired_8 : decode cX5_firstUnpaired 8 = .ok (.arraylength, 1) := by decide +kernel
theorem dX5_firstUnpaired_9 : decode cX5_firstUnpaired 9 = .ok (.istore_n 3, 1) := by decide +kernel
theorem dX5_firstUnpaired_10 : decode cX5_firstUnpaired 10 = .ok (.iconst 0, 1) := by decide +kernel
theorem dX5_firstUnpaired_11 : decode cX5_firstUnpaired 11 = .ok (.istore 4, 2) := by decide +kernel
theorem dX5_firstUnpaired_13 : decode cX5_firstUnpaired 13 = .ok (.iload 4, 2) := by decide +kernel
theorem dX5_firstUnpaired_15 : decode cX5_firstUnpaired 15 = .ok (.iload_n 3, 1) := by decide +kernel
theorem dX5_firstUnpaired_16 : decode cX5_firstUnpaired 16 = .ok (.if_icmp .ge 40, 3) := by decide +kernel
theorem dX5_firstUnpaired_19 : decode cX5_firstUnpaired 19 = .ok (.aload_n 2, 1) := by decide +kernel
theorem dX5_firstUnpaired_20 : decode cX5_firstUnpaired 20 = .ok (.iload 4, 2) := by decide +kernel
theorem dX5_firstUnpaired_22 : decode cX5_firstUnpaired 22 = .ok (.aaload, 1) := by decide +kernel
theorem dX5_firstUnpaired_23 : decode cX5_firstUnpaired 23 = .ok (.astore 5, 2) := by decide +kernel
theorem dX5_firstUnpaired_25 : decode cX5_firstUnpaired 25 = .ok (.aload 5, 2) := by decide +kernel
theorem dX5_firstUnpaired_27 : decode cX5_firstUnpaired 27 = .ok (.ifnull 23, 3) := by decide +kernel
theorem dX5_firstUnpaired_30 : decode cX5_firstUnpaired 30 = .ok (.aload 5, 2) := by decide +kernel
theorem dX5_firstUnpaired_32 : decode cX5_firstUnpaired 32 = .ok (.getfield 198, 3) := by decide +kernel
theorem dX5_firstUnpaired_35 : decode cX5_firstUnpaired 35 = .ok (.ifnonnull 15, 3) := by decide +kernel
theorem dX5_firstUnpaired_38 : decode cX5_firstUnpaired 38 = .ok (.aload 5, 2) := by decide +kernel
theorem dX5_firstUnpaired_40 : decode cX5_firstUnpaired 40 = .ok (.aload_n 1, 1) := by decide +kernel
theorem dX5_firstUnpaired_41 : decode cX5_firstUnpaired 41 = .ok (.invokevirtual 250, 3) := by decide +kernel
theorem dX5_firstUnpaired_44 : decode cX5_firstUnpaired 44 = .ok (.ifCond .eq 6, 3) := by decide +kernel
theorem dX5_firstUnpaired_47 : decode cX5_firstUnpaired 47 = .ok (.aload 5, 2) := by decide +kernel
theorem dX5_firstUnpaired_49 : decode cX5_firstUnpaired 49 = .ok (.astore_n 1, 1) := by decide +kernel
theorem dX5_firstUnpaired_50 : decode cX5_firstUnpaired 50 = .ok (.iinc 4 1, 3) := by decide +kernel
theorem dX5_firstUnpaired_53 : decode cX5_firstUnpaired 53 = .ok (.goto (-40), 3) := by decide +kernel
theorem dX5_firstUnpaired_56 : decode cX5_firstUnpaired 56 = .ok (.aload_n 1, 1) := by decide +kernel
theorem dX5_firstUnpaired_57 : decode cX5_firstUnpaired 57 = .ok (.areturn, 1) := by decide +kernel
theorem dX5_partnerFor_0 : decode cX5_partnerFor 0 = .ok (.aconst_null, 1) := by decide +kernel
end
section
theorem dX5_partnerFor_1 : decode cX5_partnerFor 1 = .ok (.astore_n 2, 1) := by decide +kernel
theorem dX5_partnerFor_2 : decode cX5_partnerFor 2 = .ok (.aconst_null, 1) := by decide +kernel
theorem dX5_partnerFor_3 : decode cX5_partnerFor 3 = .ok (.astore_n 3, 1) := by decide +kernel
theorem dX5_partnerFor_4 : decode cX5_partnerFor 4 = .ok (.aload_n 0, 1) := by decide +kernel
theorem dX5_partnerFor_5 : decode cX5_partnerFor 5 = .ok (.getfield 11, 3) := by decide +kernel
theorem dX5_partnerFor_8 : decode cX5_partnerFor 8 = .ok (.astore 4, 2) := by decide +kernel
theorem dX5_partnerFor_10 : decode cX5_partnerFor 10 = .ok (.aload 4, 2) := by decide +kernel
theorem dX5_partnerFor_12 : decode cX5_partnerFor 12 = .ok (.arraylength, 1) := by decide +kernel
theorem dX5_partnerFor_13 : decode cX5_partnerFor 13 = .ok (.istore 5, 2) := by decide +kernel
theorem dX5_partnerFor_15 : decode cX5_partnerFor 15 = .ok (.iconst 0, 1) := by decide +kernel
theorem dX5_partnerFor_16 : decode cX5_partnerFor 16 = .ok (.istore 6, 2) := by decide +kernel
theorem dX5_partnerFor_18 : decode cX5_partnerFor 18 = .ok (.iload 6, 2) := by decide +kernel
theorem dX5_partnerFor_20 : decode cX5_partnerFor 20 = .ok (.iload 5, 2) := by decide +kernel
theorem dX5_partnerFor_22 : decode cX5_partnerFor 22 = .ok (.if_icmp .ge 71, 3) := by decide +kernel
theorem dX5_partnerFor_25 : decode cX5_partnerFor 25 = .ok (.aload 4, 2) := by decide +kernel
theorem dX5_partnerFor_27 : decode cX5_partnerFor 27 = .ok (.iload 6, 2) := by decide +kernel
theorem dX5_partnerFor_29 : decode cX5_partnerFor 29 = .ok (.aaload, 1) := by decide +kernel
theorem dX5_partnerFor_30 : decode cX5_partnerFor 30 = .ok (.astore 7, 2) := by decide +kernel
theorem dX5_partnerFor_32 : decode cX5_partnerFor 32 = .ok (.aload 7, 2) := by decide +kernel
theorem dX5_partnerFor_34 : decode cX5_partnerFor 34 = .ok (.ifnull 53, 3) := by decide +kernel
theorem dX5_partnerFor_37 : decode cX5_partnerFor 37 = .ok (.aload 7, 2) := by decide +kernel
theorem dX5_partnerFor_39 : decode cX5_partnerFor 39 = .ok (.aload_n 1, 1) := by decide +kernel
theorem dX5_partnerFor_40 : decode cX5_partnerFor 40 = .ok (.if_acmp .eq 47, 3) := by decide +kernel
theorem dX5_partnerFor_43 : decode cX5_partnerFor 43 = .ok (.aload 7, 2) := by decide +kernel
theorem dX5_partnerFor_45 : decode cX5_partnerFor 45 = .ok (.getfield 198, 3) := by decide +kernel
theorem dX5_partnerFor_48 : decode cX5_partnerFor 48 = .ok (.ifnull 6, 3) := by decide +kernel
theorem dX5_partnerFor_51 : decode cX5_partnerFor 51 = .ok (.goto 36, 3) := by decide +kernel
theorem dX5_partnerFor_54 : decode cX5_partnerFor 54 = .ok (.aload 7, 2) := by decide +kernel
theorem dX5_partnerFor_56 : decode cX5_partnerFor 56 = .ok (.aload_n 2, 1) := by decide +kernel
theorem dX5_partnerFor_57 : decode cX5_partnerFor 57 = .ok (.invokevirtual 250, 3) := by decide +kernel
theorem dX5_partnerFor_60 : decode cX5_partnerFor 60 = .ok (.ifCond .eq 6, 3) := by decide +kernel
theorem dX5_partnerFor_63 : decode cX5_partnerFor 63 = .ok (.aload 7, 2) := by decide +kernel
theorem dX5_partnerFor_65 : decode cX5_partnerFor 65 = .ok (.astore_n 2, 1) := by decide +kernel
theorem dX5_partnerFor_66 : decode cX5_partnerFor 66 = .ok (.aload_n 1, 1) := by decide +kernel
theorem dX5_partnerFor_67 : decode cX5_partnerFor 67 = .ok (.aload 7, 2) := by decide +kernel
theorem dX5_partnerFor_69 : decode cX5_partnerFor 69 = .ok (.invokevirtual 254, 3) := by decide +kernel
theorem dX5_partnerFor_72 : decode cX5_partnerFor 72 = .ok (.ifCond .ne 15, 3) := by decide +kernel
theorem dX5_partnerFor_75 : decode cX5_partnerFor 75 = .ok (.aload 7, 2) := by decide +kernel
theorem dX5_partnerFor_77 : decode cX5_partnerFor 77 = .ok (.aload_n 3, 1) := by decide +kernel
theorem dX5_partnerFor_78 : decode cX5_partnerFor 78 = .ok (.invokevirtual 250, 3) := by decide +kernel
theorem dX5_partnerFor_81 : decode cX5_partnerFor 81 = .ok (.ifCond .eq 6, 3) := by decide +kernel
theorem dX5_partnerFor_84 : decode cX5_partnerFor 84 = .ok (.aload 7, 2) := by decide +kernel
theorem dX5_partnerFor_86 : decode cX5_partnerFor 86 = .ok (.astore_n 3, 1) := by decide +kernel
theorem dX5_partnerFor_87 : decode cX5_partnerFor 87 = .ok (.iinc 6 1, 3) := by decide +kernel
theorem dX5_partnerFor_90 : decode cX5_partnerFor 90 = .ok (.goto (-72), 3) := by decide +kernel
theorem dX5_partnerFor_93 : decode cX5_partnerFor 93 = .ok (.aload_n 3, 1) := by decide +kernel
theorem dX5_partnerFor_94 : decode cX5_partnerFor 94 = .ok (.ifnonnull 7, 3) := by decide +kernel
theorem dX5_partnerFor_97 : decode cX5_partnerFor 97 = .ok (.aload_n 2, 1) := by decide +kernel
theorem dX5_partnerFor_98 : decode cX5_partnerFor 98 = .ok (.goto 4, 3) := by decide +kernel
theorem dX5_partnerFor_101 : decode cX5_partnerFor 101 = .ok (.aload_n 3, 1) := by decide +kernel
theorem dX5_partnerFor_102 : decode cX5_partnerFor 102 = .ok (.areturn, 1) := by decide +kernel
theorem dX6_init_0 : decode cX6_init 0 = .ok (.aload_n 0, 1) := by decide +kernel
theorem dX6_init_1 : decode cX6_init 1 = .ok (.invokespecial 1, 3) := by decide +kernel
theorem dX6_init_4 : decode cX6_init 4 = .ok (.aload_n 0, 1) := by decide +kernel
theorem dX6_init_5 : decode cX6_init 5 = .ok (.bipush 8, 2) := by decide +kernel
theorem dX6_init_7 : decode cX6_init 7 = .ok (.newarray .int, 2) := by decide +kernel
theorem dX6_init_9 : decode cX6_init 9 = .ok (.putfield 7, 3) := by decide +kernel
theorem dX6_init_12 : decode cX6_init 12 = .ok (.aload_n 0, 1) := by decide +kernel
theorem dX6_init_13 : decode cX6_init 13 = .ok (.bipush 8, 2) := by decide +kernel
theorem dX6_init_15 : decode cX6_init 15 = .ok (.newarray .int, 2) := by decide +kernel
theorem dX6_init_17 : decode cX6_init 17 = .ok (.putfield 13, 3) := by decide +kernel
theorem dX6_init_20 : decode cX6_init 20 = .ok (.aload_n 0, 1) := by decide +kernel
theorem dX6_init_21 : decode cX6_init 21 = .ok (.bipush 40, 2) := by decide +kernel
theorem dX6_init_23 : decode cX6_init 23 = .ok (.newarray .int, 2) := by decide +kernel
theorem dX6_init_25 : decode cX6_init 25 = .ok (.putfield 16, 3) := by decide +kernel
theorem dX6_init_28 : decode cX6_init 28 = .ok (.aload_n 0, 1) := by decide +kernel
theorem dX6_init_29 : decode cX6_init 29 = .ok (.sipush 320, 3) := by decide +kernel
theorem dX6_init_32 : decode cX6_init 32 = .ok (.newarray .boolean, 2) := by decide +kernel
theorem dX6_init_34 : decode cX6_init 34 = .ok (.putfield 19, 3) := by decide +kernel
theorem dX6_init_37 : decode cX6_init 37 = .ok (.aload_n 0, 1) := by decide +kernel
theorem dX6_init_38 : decode cX6_init 38 = .ok (.bipush 60, 2) := by decide +kernel
theorem dX6_init_40 : decode cX6_init 40 = .ok (.newarray .int, 2) := by decide +kernel
theorem dX6_init_42 : decode cX6_init 42 = .ok (.putfield 23, 3) := by decide +kernel
theorem dX6_init_45 : decode cX6_init 45 = .ok (.aload_n 0, 1) := by decide +kernel
theorem dX6_init_46 : decode cX6_init 46 = .ok (.bipush 60, 2) := by decide +kernel
theorem dX6_init_48 : decode cX6_init 48 = .ok (.newarray .int, 2) := by decide +kernel
theorem dX6_init_50 : decode cX6_init 50 = .ok (.putfield 26, 3) := by decide +kernel
theorem dX6_init_53 : decode cX6_init 53 = .ok (.aload_n 0, 1) := by decide +kernel
theorem dX6_init_54 : decode cX6_init 54 = .ok (.bipush 60, 2) := by decide +kernel
theorem dX6_init_56 : decode cX6_init 56 = .ok (.newarray .int, 2) := by decide +kernel
theorem dX6_init_58 : decode cX6_init 58 = .ok (.putfield 29, 3) := by decide +kernel
theorem dX6_init_61 : decode cX6_init 61 = .ok (.aload_n 0, 1) := by decide +kernel
theorem dX6_init_62 : decode cX6_init 62 = .ok (.bipush 60, 2) := by decide +kernel
theorem dX6_init_64 : decode cX6_init 64 = .ok (.newarray .int, 2) := by decide +kernel
theorem dX6_init_66 : decode cX6_init 66 = .ok (.putfield 32, 3) := by decide +kernel
theorem dX6_init_69 : decode cX6_init 69 = .ok (.aload_n 0, 1) := by decide +kernel
theorem dX6_init_70 : decode cX6_init 70 = .ok (.sipush 720, 3) := by decide +kernel
theorem dX6_init_73 : decode cX6_init 73 = .ok (.newarray .int, 2) := by decide +kernel
theorem dX6_init_75 : decode cX6_init 75 = .ok (.putfield 35, 3) := by decide +kernel
theorem dX6_init_78 : decode cX6_init 78 = .ok (.aload_n 0, 1) := by decide +kernel
theorem dX6_init_79 : decode cX6_init 79 = .ok (.bipush 40, 2) := by decide +kernel
theorem dX6_init_81 : decode cX6_init 81 = .ok (.newarray .int, 2) := by decide +kernel
theorem dX6_init_83 : decode cX6_init 83 = .ok (.putfield 38, 3) := by decide +kernel
theorem dX6_init_86 : decode cX6_init 86 = .ok (.aload_n 0, 1) := by decide +kernel
theorem dX6_init_87 : decode cX6_init 87 = .ok (.bipush 40, 2) := by decide +kernel
theorem dX6_init_89 : decode cX6_init 89 = .ok (.newarray .int, 2) := by decide +kernel
theorem dX6_init_91 : decode cX6_init 91 = .ok (.putfield 41, 3) := by decide +kernel
theorem dX6_init_94 : decode cX6_init 94 = .ok (.aload_n 0, 1) := by decide +kernel
theorem dX6_init_95 : decode cX6_init 95 = .ok (.sipush 5460, 3) := by decide +kernel
theorem dX6_init_98 : decode cX6_init 98 = .ok (.newarray .int, 2) := by decide +kernel
theorem dX6_init_100 : decode cX6_init 100 = .ok (.putfield 44, 3) := by decide +kernel
theorem dX6_init_103 : decode cX6_init 103 = .ok (.aload_n 0, 1) := by decide +kernel
theorem dX6_init_104 : decode cX6_init 104 = .ok (.sipush 5460, 3) := by decide +kernel
theorem dX6_init_107 : decode cX6_init 107 = .ok (.newarray .int, 2) := by decide +kernel
theorem dX6_init_109 : decode cX6_init 109 = .ok (.putfield 47, 3) := by decide +kernel
theorem dX6_init_112 : decode cX6_init 112 = .ok (.aload_n 0, 1) := by decide +kernel
theorem dX6_init_113 : decode cX6_init 113 = .ok (.sipush 5460, 3) := by decide +kernel
theorem dX6_init_116 : decode cX6_init 116 = .ok (.newarray .boolean, 2) := by decide +kernel
theorem dX6_init_118 : decode cX6_init 118 = .ok (.putfield 50, 3) := by decide +kernel
theorem dX6_init_121 : decode cX6_init 121 = .ok (.aload_n 0, 1) := by decide +kernel
theorem dX6_init_122 : decode cX6_init 122 = .ok (.bipush 8, 2) := by decide +kernel
theorem dX6_init_124 : decode cX6_init 124 = .ok (.newarray .int, 2) := by decide +kernel
theorem dX6_init_126 : decode cX6_init 126 = .ok (.putfield 53, 3) := by decide +kernel
theorem dX6_init_129 : decode cX6_init 129 = .ok (.aload_n 0, 1) := by decide +kernel
theorem dX6_init_130 : decode cX6_init 130 = .ok (.bipush 8, 2) := by decide +kernel
theorem dX6_init_132 : decode cX6_init 132 = .ok (.newarray .int, 2) := by decide +kernel
theorem dX6_init_134 : decode cX6_init 134 = .ok (.putfield 56, 3) := by decide +kernel
theorem dX6_init_137 : decode cX6_init 137 = .ok (.return_, 1) := by decide +kernel
theorem dX6_thrown_0 : decode cX6_thrown 0 = .ok (.aload_n 0, 1) := by decide +kernel
theorem dX6_thrown_1 : decode cX6_thrown 1 = .ok (.getfield 59, 3) := by decide +kernel
theorem dX6_thrown_4 : decode cX6_thrown 4 = .ok (.ireturn, 1) := by decide +kernel
theorem dX6_in_0 : decode cX6_in 0 = .ok (.iload_n 0, 1) := by decide +kernel
theorem dX6_in_1 : decode cX6_in 1 = .ok (.iload_n 1, 1) := by decide +kernel
theorem dX6_in_2 : decode cX6_in 2 = .ok (.if_icmp .lt 12, 3) := by decide +kernel
theorem dX6_in_5 : decode cX6_in 5 = .ok (.iload_n 0, 1) := by decide +kernel
theorem dX6_in_6 : decode cX6_in 6 = .ok (.iload_n 2, 1) := by decide +kernel
theorem dX6_in_7 : decode cX6_in 7 = .ok (.if_icmp .gt 7, 3) := by decide +kernel
theorem dX6_in_10 : decode cX6_in 10 = .ok (.iconst 1, 1) := by decide +kernel
theorem dX6_in_11 : decode cX6_in 11 = .ok (.goto 4, 3) := by decide +kernel
theorem dX6_in_14 : decode cX6_in 14 = .ok (.iconst 0, 1) := by decide +kernel
theorem dX6_in_15 : decode cX6_in 15 = .ok (.ireturn, 1) := by decide +kernel
theorem dX6_goes_0 : decode cX6_goes 0 = .ok (.aload_n 0, 1) := by decide +kernel
theorem dX6_goes_1 : decode cX6_goes 1 = .ok (.iload_n 1, 1) := by decide +kernel
theorem dX6_goes_2 : decode cX6_goes 2 = .ok (.ifCond .ne 7, 3) := by decide +kernel
theorem dX6_goes_5 : decode cX6_goes 5 = .ok (.iconst 1, 1) := by decide +kernel
theorem dX6_goes_6 : decode cX6_goes 6 = .ok (.goto 20, 3) := by decide +kernel
theorem dX6_goes_9 : decode cX6_goes 9 = .ok (.iload_n 2, 1) := by decide +kernel
theorem dX6_goes_10 : decode cX6_goes 10 = .ok (.ifCond .ne 7, 3) := by decide +kernel
theorem dX6_goes_13 : decode cX6_goes 13 = .ok (.iconst 2, 1) := by decide +kernel
theorem dX6_goes_14 : decode cX6_goes 14 = .ok (.goto 12, 3) := by decide +kernel
theorem dX6_goes_17 : decode cX6_goes 17 = .ok (.iload_n 3, 1) := by decide +kernel
theorem dX6_goes_18 : decode cX6_goes 18 = .ok (.ifCond .ne 7, 3) := by decide +kernel
theorem dX6_goes_21 : decode cX6_goes 21 = .ok (.iconst 3, 1) := by decide +kernel
theorem dX6_goes_22 : decode cX6_goes 22 = .ok (.goto 4, 3) := by decide +kernel
theorem dX6_goes_25 : decode cX6_goes 25 = .ok (.iconst 0, 1) := by decide +kernel
theorem dX6_goes_26 : decode cX6_goes 26 = .ok (.putfield 59, 3) := by decide +kernel
theorem dX6_goes_29 : decode cX6_goes 29 = .ok (.aload_n 0, 1) := by decide +kernel
theorem dX6_goes_30 : decode cX6_goes 30 = .ok (.getfield 59, 3) := by decide +kernel
theorem dX6_goes_33 : decode cX6_goes 33 = .ok (.ifCond .ne 7, 3) := by decide +kernel
theorem dX6_goes_36 : decode cX6_goes 36 = .ok (.iconst 1, 1) := by decide +kernel
theorem dX6_goes_37 : decode cX6_goes 37 = .ok (.goto 4, 3) := by decide +kernel
theorem dX6_goes_40 : decode cX6_goes 40 = .ok (.iconst 0, 1) := by decide +kernel
theorem dX6_goes_41 : decode cX6_goes 41 = .ok (.ireturn, 1) := by decide +kernel
theorem dX6_told_0 : decode cX6_told 0 = .ok (.aload_n 0, 1) := by decide +kernel
theorem dX6_told_1 : decode cX6_told 1 = .ok (.iconst 0, 1) := by decide +kernel
theorem dX6_told_2 : decode cX6_told 2 = .ok (.putfield 59, 3) := by decide +kernel
theorem dX6_told_5 : decode cX6_told 5 = .ok (.iload_n 1, 1) := by decide +kernel
theorem dX6_told_6 : decode cX6_told 6 = .ok (.ireturn, 1) := by decide +kernel
theorem dX6_isPosition_0 : decode cX6_isPosition 0 = .ok (.iload_n 0, 1) := by decide +kernel
theorem dX6_isPosition_1 : decode cX6_isPosition 1 = .ok (.iconst 0, 1) := by decide +kernel
theorem dX6_isPosition_2 : decode cX6_isPosition 2 = .ok (.sipush 999, 3) := by decide +kernel
theorem dX6_isPosition_5 : decode cX6_isPosition 5 = .ok (.invokestatic 63, 3) := by decide +kernel
theorem dX6_isPosition_8 : decode cX6_isPosition 8 = .ok (.ireturn, 1) := by decide +kernel
theorem dX6_isMove_0 : decode cX6_isMove 0 = .ok (.iload_n 0, 1) := by decide +kernel
theorem dX6_isMove_1 : decode cX6_isMove 1 = .ok (.iconst 0, 1) := by decide +kernel
theorem dX6_isMove_2 : decode cX6_isMove 2 = .ok (.iconst 3, 1) := by decide +kernel
theorem dX6_isMove_3 : decode cX6_isMove 3 = .ok (.invokestatic 63, 3) := by decide +kernel
theorem dX6_isMove_6 : decode cX6_isMove 6 = .ok (.ireturn, 1) := by decide +kernel
theorem dX6_isPlayer_0 : decode cX6_isPlayer 0 = .ok (.iload_n 1, 1) := by decide +kernel
theorem dX6_isPlayer_1 : decode cX6_isPlayer 1 = .ok (.iconst 0, 1) := by decide +kernel
theorem dX6_isPlayer_2 : decode cX6_isPlayer 2 = .ok (.aload_n 0, 1) := by decide +kernel
theorem dX6_isPlayer_3 : decode cX6_isPlayer 3 = .ok (.getfield 67, 3) := by decide +kernel
theorem dX6_isPlayer_6 : decode cX6_isPlayer 6 = .ok (.iconst 1, 1) := by decide +kernel
theorem dX6_isPlayer_7 : decode cX6_isPlayer 7 = .ok (.isub, 1) := by decide +kernel
theorem dX6_isPlayer_8 : decode cX6_isPlayer 8 = .ok (.invokestatic 63, 3) := by decide +kernel
theorem dX6_isPlayer_11 : decode cX6_isPlayer 11 = .ok (.ireturn, 1) := by decide +kernel
theorem dX6_isPuzzle_0 : decode cX6_isPuzzle 0 = .ok (.iload_n 1, 1) := by decide +kernel
theorem dX6_isPuzzle_1 : decode cX6_isPuzzle 1 = .ok (.iconst 0, 1) := by decide +kernel
theorem dX6_isPuzzle_2 : decode cX6_isPuzzle 2 = .ok (.aload_n 0, 1) := by decide +kernel
theorem dX6_isPuzzle_3 : decode cX6_isPuzzle 3 = .ok (.getfield 70, 3) := by decide +kernel
theorem dX6_isPuzzle_6 : decode cX6_isPuzzle 6 = .ok (.iconst 1, 1) := by decide +kernel
theorem dX6_isPuzzle_7 : decode cX6_isPuzzle 7 = .ok (.isub, 1) := by decide +kernel
theorem dX6_isPuzzle_8 : decode cX6_isPuzzle 8 = .ok (.invokestatic 63, 3) := by decide +kernel
theorem dX6_isPuzzle_11 : decode cX6_isPuzzle 11 = .ok (.ireturn, 1) := by decide +kernel
theorem dX6_next_0 : decode cX6_next 0 = .ok (.bipush 7, 2) := by decide +kernel
theorem dX6_next_2 : decode cX6_next 2 = .ok (.iload_n 0, 1) := by decide +kernel
theorem dX6_next_3 : decode cX6_next 3 = .ok (.imul, 1) := by decide +kernel
theorem dX6_next_4 : decode cX6_next 4 = .ok (.bipush 13, 2) := by decide +kernel
theorem dX6_next_6 : decode cX6_next 6 = .ok (.iload_n 1, 1) := by decide +kernel
theorem dX6_next_7 : decode cX6_next 7 = .ok (.imul, 1) := by decide +kernel
theorem dX6_next_8 : decode cX6_next 8 = .ok (.iadd, 1) := by decide +kernel
theorem dX6_next_9 : decode cX6_next 9 = .ok (.iconst 5, 1) := by decide +kernel
theorem dX6_next_10 : decode cX6_next 10 = .ok (.iadd, 1) := by decide +kernel
theorem dX6_next_11 : decode cX6_next 11 = .ok (.sipush 1000, 3) := by decide +kernel
theorem dX6_next_14 : decode cX6_next 14 = .ok (.irem, 1) := by decide +kernel
theorem dX6_next_15 : decode cX6_next 15 = .ok (.ireturn, 1) := by decide +kernel
theorem dX6_worthOf_0 : decode cX6_worthOf 0 = .ok (.iload_n 0, 1) := by decide +kernel
theorem dX6_worthOf_1 : decode cX6_worthOf 1 = .ok (.bipush 37, 2) := by decide +kernel
theorem dX6_worthOf_3 : decode cX6_worthOf 3 = .ok (.imul, 1) := by decide +kernel
theorem dX6_worthOf_4 : decode cX6_worthOf 4 = .ok (.bipush 101, 2) := by decide +kernel
theorem dX6_worthOf_6 : decode cX6_worthOf 6 = .ok (.irem, 1) := by decide +kernel
theorem dX6_worthOf_7 : decode cX6_worthOf 7 = .ok (.bipush 50, 2) := by decide +kernel
theorem dX6_worthOf_9 : decode cX6_worthOf 9 = .ok (.isub, 1) := by decide +kernel
theorem dX6_worthOf_10 : decode cX6_worthOf 10 = .ok (.ireturn, 1) := by decide +kernel
theorem dX6_bestIn_0 : decode cX6_bestIn 0 = .ok (.iconst 0, 1) := by decide +kernel
theorem dX6_bestIn_1 : decode cX6_bestIn 1 = .ok (.istore_n 1, 1) := by decide +kernel
theorem dX6_bestIn_2 : decode cX6_bestIn 2 = .ok (.iconst 1, 1) := by decide +kernel
theorem dX6_bestIn_3 : decode cX6_bestIn 3 = .ok (.istore_n 2, 1) := by decide +kernel
theorem dX6_bestIn_4 : decode cX6_bestIn 4 = .ok (.iload_n 2, 1) := by decide +kernel
theorem dX6_bestIn_5 : decode cX6_bestIn 5 = .ok (.iconst 4, 1) := by decide +kernel
theorem dX6_bestIn_6 : decode cX6_bestIn 6 = .ok (.if_icmp .ge 34, 3) := by decide +kernel
theorem dX6_bestIn_9 : decode cX6_bestIn 9 = .ok (.iload_n 0, 1) := by decide +kernel
theorem dX6_bestIn_10 : decode cX6_bestIn 10 = .ok (.iload_n 2, 1) := by decide +kernel
theorem dX6_bestIn_11 : decode cX6_bestIn 11 = .ok (.invokestatic 73, 3) := by decide +kernel
theorem dX6_bestIn_14 : decode cX6_bestIn 14 = .ok (.invokestatic 77, 3) := by decide +kernel
theorem dX6_bestIn_17 : decode cX6_bestIn 17 = .ok (.iload_n 0, 1) := by decide +kernel
theorem dX6_bestIn_18 : decode cX6_bestIn 18 = .ok (.iload_n 1, 1) := by decide +kernel
theorem dX6_bestIn_19 : decode cX6_bestIn 19 = .ok (.invokestatic 73, 3) := by decide +kernel
theorem dX6_bestIn_22 : decode cX6_bestIn 22 = .ok (.invokestatic 77, 3) := by decide +kernel
theorem dX6_bestIn_25 : decode cX6_bestIn 25 = .ok (.if_icmp .le 7, 3) := by decide +kernel
theorem dX6_bestIn_28 : decode cX6_bestIn 28 = .ok (.iload_n 2, 1) := by decide +kernel
theorem dX6_bestIn_29 : decode cX6_bestIn 29 = .ok (.goto 4, 3) := by decide +kernel
theorem dX6_bestIn_32 : decode cX6_bestIn 32 = .ok (.iload_n 1, 1) := by decide +kernel
theorem dX6_bestIn_33 : decode cX6_bestIn 33 = .ok (.istore_n 1, 1) := by decide +kernel
theorem dX6_bestIn_34 : decode cX6_bestIn 34 = .ok (.iinc 2 1, 3) := by decide +kernel
theorem dX6_bestIn_37 : decode cX6_bestIn 37 = .ok (.goto (-33), 3) := by decide +kernel
theorem dX6_bestIn_40 : decode cX6_bestIn 40 = .ok (.iload_n 1, 1) := by decide +kernel
theorem dX6_bestIn_41 : decode cX6_bestIn 41 = .ok (.ireturn, 1) := by decide +kernel
theorem dX6_isBlunder_0 : decode cX6_isBlunder 0 = .ok (.iload_n 0, 1) := by decide +kernel
theorem dX6_isBlunder_1 : decode cX6_isBlunder 1 = .ok (.iload_n 1, 1) := by decide +kernel
theorem dX6_isBlunder_2 : decode cX6_isBlunder 2 = .ok (.invokestatic 73, 3) := by decide +kernel
theorem dX6_isBlunder_5 : decode cX6_isBlunder 5 = .ok (.invokestatic 77, 3) := by decide +kernel
theorem dX6_isBlunder_8 : decode cX6_isBlunder 8 = .ok (.iload_n 0, 1) := by decide +kernel
theorem dX6_isBlunder_9 : decode cX6_isBlunder 9 = .ok (.iload_n 0, 1) := by decide +kernel
theorem dX6_isBlunder_10 : decode cX6_isBlunder 10 = .ok (.invokestatic 81, 3) := by decide +kernel
theorem dX6_isBlunder_13 : decode cX6_isBlunder 13 = .ok (.invokestatic 73, 3) := by decide +kernel
theorem dX6_isBlunder_16 : decode cX6_isBlunder 16 = .ok (.invokestatic 77, 3) := by decide +kernel
theorem dX6_isBlunder_19 : decode cX6_isBlunder 19 = .ok (.bipush 40, 2) := by decide +kernel
theorem dX6_isBlunder_21 : decode cX6_isBlunder 21 = .ok (.isub, 1) := by decide +kernel
theorem dX6_isBlunder_22 : decode cX6_isBlunder 22 = .ok (.if_icmp .gt 7, 3) := by decide +kernel
theorem dX6_isBlunder_25 : decode cX6_isBlunder 25 = .ok (.iconst 1, 1) := by decide +kernel
theorem dX6_isBlunder_26 : decode cX6_isBlunder 26 = .ok (.goto 4, 3) := by decide +kernel
theorem dX6_isBlunder_29 : decode cX6_isBlunder 29 = .ok (.iconst 0, 1) := by decide +kernel
theorem dX6_isBlunder_30 : decode cX6_isBlunder 30 = .ok (.ireturn, 1) := by decide +kernel
theorem dX6_after_0 : decode cX6_after 0 = .ok (.aload_n 0, 1) := by decide +kernel
theorem dX6_after_1 : decode cX6_after 1 = .ok (.iload_n 1, 1) := by decide +kernel
theorem dX6_after_2 : decode cX6_after 2 = .ok (.invokestatic 84, 3) := by decide +kernel
theorem dX6_after_5 : decode cX6_after 5 = .ok (.ifCond .eq 14, 3) := by decide +kernel
theorem dX6_after_8 : decode cX6_after 8 = .ok (.iload_n 2, 1) := by decide +kernel
theorem dX6_after_9 : decode cX6_after 9 = .ok (.invokestatic 88, 3) := by decide +kernel
theorem dX6_after_12 : decode cX6_after 12 = .ok (.ifCond .eq 7, 3) := by decide +kernel
theorem dX6_after_15 : decode cX6_after 15 = .ok (.iconst 1, 1) := by decide +kernel
theorem dX6_after_16 : decode cX6_after 16 = .ok (.goto 4, 3) := by decide +kernel
theorem dX6_after_19 : decode cX6_after 19 = .ok (.iconst 0, 1) := by decide +kernel
theorem dX6_after_20 : decode cX6_after 20 = .ok (.iconst 1, 1) := by decide +kernel
theorem dX6_after_21 : decode cX6_after 21 = .ok (.iconst 1, 1) := by decide +kernel
theorem dX6_after_22 : decode cX6_after 22 = .ok (.invokevirtual 91, 3) := by decide +kernel
theorem dX6_after_25 : decode cX6_after 25 = .ok (.ifCond .eq 11, 3) := by decide +kernel
theorem dX6_after_28 : decode cX6_after 28 = .ok (.iload_n 1, 1) := by decide +kernel
theorem dX6_after_29 : decode cX6_after 29 = .ok (.iload_n 2, 1) := by decide +kernel
theorem dX6_after_30 : decode cX6_after 30 = .ok (.invokestatic 73, 3) := by decide +kernel
theorem dX6_after_33 : decode cX6_after 33 = .ok (.goto 4, 3) := by decide +kernel
theorem dX6_after_36 : decode cX6_after 36 = .ok (.iconst 0, 1) := by decide +kernel
theorem dX6_after_37 : decode cX6_after 37 = .ok (.ireturn, 1) := by decide +kernel
theorem dX6_worth_0 : decode cX6_worth 0 = .ok (.aload_n 0, 1) := by decide +kernel
theorem dX6_worth_1 : decode cX6_worth 1 = .ok (.iload_n 1, 1) := by decide +kernel
theorem dX6_worth_2 : decode cX6_worth 2 = .ok (.invokestatic 84, 3) := by decide +kernel
theorem dX6_worth_5 : decode cX6_worth 5 = .ok (.iconst 1, 1) := by decide +kernel
theorem dX6_worth_6 : decode cX6_worth 6 = .ok (.iconst 1, 1) := by decide +kernel
theorem dX6_worth_7 : decode cX6_worth 7 = .ok (.invokevirtual 91, 3) := by decide +kernel
theorem dX6_worth_10 : decode cX6_worth 10 = .ok (.ifCond .eq 10, 3) := by decide +kernel
theorem dX6_worth_13 : decode cX6_worth 13 = .ok (.iload_n 1, 1) := by decide +kernel
theorem dX6_worth_14 : decode cX6_worth 14 = .ok (.invokestatic 77, 3) := by decide +kernel
theorem dX6_worth_17 : decode cX6_worth 17 = .ok (.goto 4, 3) := by decide +kernel
theorem dX6_worth_20 : decode cX6_worth 20 = .ok (.iconst 0, 1) := by decide +kernel
theorem dX6_worth_21 : decode cX6_worth 21 = .ok (.ireturn, 1) := by decide +kernel
theorem dX6_best_0 : decode cX6_best 0 = .ok (.aload_n 0, 1) := by decide +kernel
theorem dX6_best_1 : decode cX6_best 1 = .ok (.iload_n 1, 1) := by decide +kernel
theorem dX6_best_2 : decode cX6_best 2 = .ok (.invokestatic 84, 3) := by decide +kernel
theorem dX6_best_5 : decode cX6_best 5 = .ok (.iconst 1, 1) := by decide +kernel
theorem dX6_best_6 : decode cX6_best 6 = .ok (.iconst 1, 1) := by decide +kernel
theorem dX6_best_7 : decode cX6_best 7 = .ok (.invokevirtual 91, 3) := by decide +kernel
theorem dX6_best_10 : decode cX6_best 10 = .ok (.ifCond .eq 10, 3) := by decide +kernel
theorem dX6_best_13 : decode cX6_best 13 = .ok (.iload_n 1, 1) := by decide +kernel
theorem dX6_best_14 : decode cX6_best 14 = .ok (.invokestatic 81, 3) := by decide +kernel
theorem dX6_best_17 : decode cX6_best 17 = .ok (.goto 4, 3) := by decide +kernel
theorem dX6_best_20 : decode cX6_best 20 = .ok (.iconst 0, 1) := by decide +kernel
theorem dX6_best_21 : decode cX6_best 21 = .ok (.ireturn, 1) := by decide +kernel
theorem dX6_enter_0 : decode cX6_enter 0 = .ok (.aload_n 0, 1) := by decide +kernel
theorem dX6_enter_1 : decode cX6_enter 1 = .ok (.aload_n 0, 1) := by decide +kernel
theorem dX6_enter_2 : decode cX6_enter 2 = .ok (.getfield 67, 3) := by decide +kernel
theorem dX6_enter_5 : decode cX6_enter 5 = .ok (.bipush 8, 2) := by decide +kernel
theorem dX6_enter_7 : decode cX6_enter 7 = .ok (.if_icmp .ge 7, 3) := by decide +kernel
theorem dX6_enter_10 : decode cX6_enter 10 = .ok (.iconst 1, 1) := by decide +kernel
theorem dX6_enter_11 : decode cX6_enter 11 = .ok (.goto 4, 3) := by decide +kernel
theorem dX6_enter_14 : decode cX6_enter 14 = .ok (.iconst 0, 1) := by decide +kernel
theorem dX6_enter_15 : decode cX6_enter 15 = .ok (.iconst 1, 1) := by decide +kernel
theorem dX6_enter_16 : decode cX6_enter 16 = .ok (.iconst 1, 1) := by decide +kernel
theorem dX6_enter_17 : decode cX6_enter 17 = .ok (.invokevirtual 91, 3) := by decide +kernel
theorem dX6_enter_20 : decode cX6_enter 20 = .ok (.ifCond .ne 5, 3) := by decide +kernel
theorem dX6_enter_23 : decode cX6_enter 23 = .ok (.iconst 0, 1) := by decide +kernel
theorem dX6_enter_24 : decode cX6_enter 24 = .ok (.ireturn, 1) := by decide +kernel
theorem dX6_enter_25 : decode cX6_enter 25 = .ok (.iconst 0, 1) := by decide +kernel
theorem dX6_enter_26 : decode cX6_enter 26 = .ok (.istore_n 1, 1) := by decide +kernel
theorem dX6_enter_27 : decode cX6_enter 27 = .ok (.iload_n 1, 1) := by decide +kernel
theorem dX6_enter_28 : decode cX6_enter 28 = .ok (.iconst 5, 1) := by decide +kernel
theorem dX6_enter_29 : decode cX6_enter 29 = .ok (.if_icmp .ge 25, 3) := by decide +kernel
theorem dX6_enter_32 : decode cX6_enter 32 = .ok (.aload_n 0, 1) := by decide +kernel
theorem dX6_enter_33 : decode cX6_enter 33 = .ok (.getfield 16, 3) := by decide +kernel
theorem dX6_enter_36 : decode cX6_enter 36 = .ok (.iconst 5, 1) := by decide +kernel
theorem dX6_enter_37 : decode cX6_enter 37 = .ok (.aload_n 0, 1) := by decide +kernel
theorem dX6_enter_38 : decode cX6_enter 38 = .ok (.getfield 67, 3) := by decide +kernel
theorem dX6_enter_41 : decode cX6_enter 41 = .ok (.imul, 1) := by decide +kernel
theorem dX6_enter_42 : decode cX6_enter 42 = .ok (.iload_n 1, 1) := by decide +kernel
theorem dX6_enter_43 : decode cX6_enter 43 = .ok (.iadd, 1) := by decide +kernel
theorem dX6_enter_44 : decode cX6_enter 44 = .ok (.sipush 1000, 3) := by decide +kernel
theorem dX6_enter_47 : decode cX6_enter 47 = .ok (.iastore, 1) := by decide +kernel
theorem dX6_enter_48 : decode cX6_enter 48 = .ok (.iinc 1 1, 3) := by decide +kernel
theorem dX6_enter_51 : decode cX6_enter 51 = .ok (.goto (-24), 3) := by decide +kernel
theorem dX6_enter_54 : decode cX6_enter 54 = .ok (.aload_n 0, 1) := by decide +kernel
theorem dX6_enter_55 : decode cX6_enter 55 = .ok (.dup, 1) := by decide +kernel
theorem dX6_enter_56 : decode cX6_enter 56 = .ok (.getfield 67, 3) := by decide +kernel
theorem dX6_enter_59 : decode cX6_enter 59 = .ok (.iconst 1, 1) := by decide +kernel
theorem dX6_enter_60 : decode cX6_enter 60 = .ok (.iadd, 1) := by decide +kernel
theorem dX6_enter_61 : decode cX6_enter 61 = .ok (.putfield 67, 3) := by decide +kernel
theorem dX6_enter_64 : decode cX6_enter 64 = .ok (.aload_n 0, 1) := by decide +kernel
theorem dX6_enter_65 : decode cX6_enter 65 = .ok (.getfield 67, 3) := by decide +kernel
theorem dX6_enter_68 : decode cX6_enter 68 = .ok (.iconst 1, 1) := by decide +kernel
theorem dX6_enter_69 : decode cX6_enter 69 = .ok (.isub, 1) := by decide +kernel
theorem dX6_enter_70 : decode cX6_enter 70 = .ok (.ireturn, 1) := by decide +kernel
theorem dX6_ended_0 : decode cX6_ended 0 = .ok (.aload_n 0, 1) := by decide +kernel
theorem dX6_ended_1 : decode cX6_ended 1 = .ok (.getfield 95, 3) := by decide +kernel
theorem dX6_ended_4 : decode cX6_ended 4 = .ok (.aload_n 0, 1) := by decide +kernel
theorem dX6_ended_5 : decode cX6_ended 5 = .ok (.getfield 98, 3) := by decide +kernel
theorem dX6_ended_8 : decode cX6_ended 8 = .ok (.ifCond .eq 7, 3) := by decide +kernel
theorem dX6_ended_11 : decode cX6_ended 11 = .ok (.iconst 1, 1) := by decide +kernel
theorem dX6_ended_12 : decode cX6_ended 12 = .ok (.goto 4, 3) := by decide +kernel
theorem dX6_ended_15 : decode cX6_ended 15 = .ok (.iconst 0, 1) := by decide +kernel
theorem dX6_ended_16 : decode cX6_ended 16 = .ok (.isub, 1) := by decide +kernel
theorem dX6_ended_17 : decode cX6_ended 17 = .ok (.ireturn, 1) := by decide +kernel
theorem dX6_begin_0 : decode cX6_begin 0 = .ok (.aload_n 0, 1) := by decide +kernel
theorem dX6_begin_1 : decode cX6_begin 1 = .ok (.aload_n 0, 1) := by decide +kernel
theorem dX6_begin_2 : decode cX6_begin 2 = .ok (.iload_n 1, 1) := by decide +kernel
theorem dX6_begin_3 : decode cX6_begin 3 = .ok (.invokevirtual 102, 3) := by decide +kernel
theorem dX6_begin_6 : decode cX6_begin 6 = .ok (.ifCond .eq 15, 3) := by decide +kernel
theorem dX6_begin_9 : decode cX6_begin 9 = .ok (.aload_n 0, 1) := by decide +kernel
theorem dX6_begin_10 : decode cX6_begin 10 = .ok (.iload_n 2, 1) := by decide +kernel
theorem dX6_begin_11 : decode cX6_begin 11 = .ok (.invokevirtual 102, 3) := by decide +kernel
theorem dX6_begin_14 : decode cX6_begin 14 = .ok (.ifCond .eq 7, 3) := by decide +kernel
theorem dX6_begin_17 : decode cX6_begin 17 = .ok (.iconst 1, 1) := by decide +kernel
theorem dX6_begin_18 : decode cX6_begin 18 = .ok (.goto 4, 3) := by decide +kernel
theorem dX6_begin_21 : decode cX6_begin 21 = .ok (.iconst 0, 1) := by decide +kernel
theorem dX6_begin_22 : decode cX6_begin 22 = .ok (.iload_n 1, 1) := by decide +kernel
theorem dX6_begin_23 : decode cX6_begin 23 = .ok (.iload_n 2, 1) := by decide +kernel
theorem dX6_begin_24 : decode cX6_begin 24 = .ok (.if_icmp .eq 7, 3) := by decide +kernel
theorem dX6_begin_27 : decode cX6_begin 27 = .ok (.iconst 1, 1) := by decide +kernel
theorem dX6_begin_28 : decode cX6_begin 28 = .ok (.goto 4, 3) := by decide +kernel
theorem dX6_begin_31 : decode cX6_begin 31 = .ok (.iconst 0, 1) := by decide +kernel
theorem dX6_begin_32 : decode cX6_begin 32 = .ok (.aload_n 0, 1) := by decide +kernel
theorem dX6_begin_33 : decode cX6_begin 33 = .ok (.getfield 98, 3) := by decide +kernel
theorem dX6_begin_36 : decode cX6_begin 36 = .ok (.ifCond .ne 16, 3) := by decide +kernel
theorem dX6_begin_39 : decode cX6_begin 39 = .ok (.aload_n 0, 1) := by decide +kernel
theorem dX6_begin_40 : decode cX6_begin 40 = .ok (.getfield 95, 3) := by decide +kernel
theorem dX6_begin_43 : decode cX6_begin 43 = .ok (.bipush 60, 2) := by decide +kernel
theorem dX6_begin_45 : decode cX6_begin 45 = .ok (.if_icmp .ge 7, 3) := by decide +kernel
theorem dX6_begin_48 : decode cX6_begin 48 = .ok (.iconst 1, 1) := by decide +kernel
theorem dX6_begin_49 : decode cX6_begin 49 = .ok (.goto 4, 3) := by decide +kernel
theorem dX6_begin_52 : decode cX6_begin 52 = .ok (.iconst 0, 1) := by decide +kernel
theorem dX6_begin_53 : decode cX6_begin 53 = .ok (.invokevirtual 91, 3) := by decide +kernel
theorem dX6_begin_56 : decode cX6_begin 56 = .ok (.ifCond .ne 5, 3) := by decide +kernel
theorem dX6_begin_59 : decode cX6_begin 59 = .ok (.iconst 0, 1) := by decide +kernel
theorem dX6_begin_60 : decode cX6_begin 60 = .ok (.ireturn, 1) := by decide +kernel
theorem dX6_begin_61 : decode cX6_begin 61 = .ok (.aload_n 0, 1) := by decide +kernel
theorem dX6_begin_62 : decode cX6_begin 62 = .ok (.getfield 23, 3) := by decide +kernel
theorem dX6_begin_65 : decode cX6_begin 65 = .ok (.aload_n 0, 1) := by decide +kernel
theorem dX6_begin_66 : decode cX6_begin 66 = .ok (.getfield 95, 3) := by decide +kernel
theorem dX6_begin_69 : decode cX6_begin 69 = .ok (.iload_n 1, 1) := by decide +kernel
theorem dX6_begin_70 : decode cX6_begin 70 = .ok (.iastore, 1) := by decide +kernel
theorem dX6_begin_71 : decode cX6_begin 71 = .ok (.aload_n 0, 1) := by decide +kernel
theorem dX6_begin_72 : decode cX6_begin 72 = .ok (.getfield 26, 3) := by decide +kernel
theorem dX6_begin_75 : decode cX6_begin 75 = .ok (.aload_n 0, 1) := by decide +kernel
theorem dX6_begin_76 : decode cX6_begin 76 = .ok (.getfield 95, 3) := by decide +kernel
theorem dX6_begin_79 : decode cX6_begin 79 = .ok (.iload_n 2, 1) := by decide +kernel
theorem dX6_begin_80 : decode cX6_begin 80 = .ok (.iastore, 1) := by decide +kernel
theorem dX6_begin_81 : decode cX6_begin 81 = .ok (.aload_n 0, 1) := by decide +kernel
theorem dX6_begin_82 : decode cX6_begin 82 = .ok (.iconst 1, 1) := by decide +kernel
theorem dX6_begin_83 : decode cX6_begin 83 = .ok (.putfield 98, 3) := by decide +kernel
theorem dX6_begin_86 : decode cX6_begin 86 = .ok (.aload_n 0, 1) := by decide +kernel
theorem dX6_begin_87 : decode cX6_begin 87 = .ok (.iconst 1, 1) := by decide +kernel
theorem dX6_begin_88 : decode cX6_begin 88 = .ok (.putfield 105, 3) := by decide +kernel
theorem dX6_begin_91 : decode cX6_begin 91 = .ok (.aload_n 0, 1) := by decide +kernel
theorem dX6_begin_92 : decode cX6_begin 92 = .ok (.dup, 1) := by decide +kernel
theorem dX6_begin_93 : decode cX6_begin 93 = .ok (.getfield 95, 3) := by decide +kernel
theorem dX6_begin_96 : decode cX6_begin 96 = .ok (.iconst 1, 1) := by decide +kernel
theorem dX6_begin_97 : decode cX6_begin 97 = .ok (.iadd, 1) := by decide +kernel
theorem dX6_begin_98 : decode cX6_begin 98 = .ok (.putfield 95, 3) := by decide +kernel
theorem dX6_begin_101 : decode cX6_begin 101 = .ok (.aload_n 0, 1) := by decide +kernel
theorem dX6_begin_102 : decode cX6_begin 102 = .ok (.getfield 95, 3) := by decide +kernel
theorem dX6_begin_105 : decode cX6_begin 105 = .ok (.iconst 1, 1) := by decide +kernel
theorem dX6_begin_106 : decode cX6_begin 106 = .ok (.isub, 1) := by decide +kernel
theorem dX6_begin_107 : decode cX6_begin 107 = .ok (.ireturn, 1) := by decide +kernel
theorem dX6_move_0 : decode cX6_move 0 = .ok (.aload_n 0, 1) := by decide +kernel
theorem dX6_move_1 : decode cX6_move 1 = .ok (.iload_n 1, 1) := by decide +kernel
theorem dX6_move_2 : decode cX6_move 2 = .ok (.invokestatic 88, 3) := by decide +kernel
theorem dX6_move_5 : decode cX6_move 5 = .ok (.aload_n 0, 1) := by decide +kernel
theorem dX6_move_6 : decode cX6_move 6 = .ok (.getfield 98, 3) := by decide +kernel
theorem dX6_move_9 : decode cX6_move 9 = .ok (.ifCond .eq 23, 3) := by decide +kernel
theorem dX6_move_12 : decode cX6_move 12 = .ok (.aload_n 0, 1) := by decide +kernel
theorem dX6_move_13 : decode cX6_move 13 = .ok (.getfield 29, 3) := by decide +kernel
theorem dX6_move_16 : decode cX6_move 16 = .ok (.aload_n 0, 1) := by decide +kernel
theorem dX6_move_17 : decode cX6_move 17 = .ok (.getfield 95, 3) := by decide +kernel
theorem dX6_move_20 : decode cX6_move 20 = .ok (.iconst 1, 1) := by decide +kernel
theorem dX6_move_21 : decode cX6_move 21 = .ok (.isub, 1) := by decide +kernel
theorem dX6_move_22 : decode cX6_move 22 = .ok (.iaload, 1) := by decide +kernel
theorem dX6_move_23 : decode cX6_move 23 = .ok (.bipush 12, 2) := by decide +kernel
theorem dX6_move_25 : decode cX6_move 25 = .ok (.if_icmp .ge 7, 3) := by decide +kernel
theorem dX6_move_28 : decode cX6_move 28 = .ok (.iconst 1, 1) := by decide +kernel
theorem dX6_move_29 : decode cX6_move 29 = .ok (.goto 4, 3) := by decide +kernel
theorem dX6_move_32 : decode cX6_move 32 = .ok (.iconst 0, 1) := by decide +kernel
theorem dX6_move_33 : decode cX6_move 33 = .ok (.iconst 1, 1) := by decide +kernel
theorem dX6_move_34 : decode cX6_move 34 = .ok (.invokevirtual 91, 3) := by decide +kernel
theorem dX6_move_37 : decode cX6_move 37 = .ok (.ifCond .ne 5, 3) := by decide +kernel
theorem dX6_move_40 : decode cX6_move 40 = .ok (.iconst 0, 1) := by decide +kernel
theorem dX6_move_41 : decode cX6_move 41 = .ok (.ireturn, 1) := by decide +kernel
theorem dX6_move_42 : decode cX6_move 42 = .ok (.aload_n 0, 1) := by decide +kernel
theorem dX6_move_43 : decode cX6_move 43 = .ok (.getfield 95, 3) := by decide +kernel
theorem dX6_move_46 : decode cX6_move 46 = .ok (.iconst 1, 1) := by decide +kernel
theorem dX6_move_47 : decode cX6_move 47 = .ok (.isub, 1) := by decide +kernel
theorem dX6_move_48 : decode cX6_move 48 = .ok (.istore_n 2, 1) := by decide +kernel
theorem dX6_move_49 : decode cX6_move 49 = .ok (.aload_n 0, 1) := by decide +kernel
theorem dX6_move_50 : decode cX6_move 50 = .ok (.getfield 105, 3) := by decide +kernel
theorem dX6_move_53 : decode cX6_move 53 = .ok (.iload_n 1, 1) := by decide +kernel
theorem dX6_move_54 : decode cX6_move 54 = .ok (.invokestatic 108, 3) := by decide +kernel
theorem dX6_move_57 : decode cX6_move 57 = .ok (.istore_n 3, 1) := by decide +kernel
theorem dX6_move_58 : decode cX6_move 58 = .ok (.aload_n 0, 1) := by decide +kernel
theorem dX6_move_59 : decode cX6_move 59 = .ok (.getfield 35, 3) := by decide +kernel
theorem dX6_move_62 : decode cX6_move 62 = .ok (.bipush 12, 2) := by decide +kernel
theorem dX6_move_64 : decode cX6_move 64 = .ok (.iload_n 2, 1) := by decide +kernel
theorem dX6_move_65 : decode cX6_move 65 = .ok (.imul, 1) := by decide +kernel
theorem dX6_move_66 : decode cX6_move 66 = .ok (.aload_n 0, 1) := by decide +kernel
theorem dX6_move_67 : decode cX6_move 67 = .ok (.getfield 29, 3) := by decide +kernel
theorem dX6_move_70 : decode cX6_move 70 = .ok (.iload_n 2, 1) := by decide +kernel
theorem dX6_move_71 : decode cX6_move 71 = .ok (.iaload, 1) := by decide +kernel
theorem dX6_move_72 : decode cX6_move 72 = .ok (.iadd, 1) := by decide +kernel
theorem dX6_move_73 : decode cX6_move 73 = .ok (.iload_n 1, 1) := by decide +kernel
theorem dX6_move_74 : decode cX6_move 74 = .ok (.iastore, 1) := by decide +kernel
theorem dX6_move_75 : decode cX6_move 75 = .ok (.aload_n 0, 1) := by decide +kernel
theorem dX6_move_76 : decode cX6_move 76 = .ok (.getfield 29, 3) := by decide +kernel
theorem dX6_move_79 : decode cX6_move 79 = .ok (.iload_n 2, 1) := by decide +kernel
theorem dX6_move_80 : decode cX6_move 80 = .ok (.dup2, 1) := by decide +kernel
theorem dX6_move_81 : decode cX6_move 81 = .ok (.iaload, 1) := by decide +kernel
theorem dX6_move_82 : decode cX6_move 82 = .ok (.iconst 1, 1) := by decide +kernel
theorem dX6_move_83 : decode cX6_move 83 = .ok (.iadd, 1) := by decide +kernel
theorem dX6_move_84 : decode cX6_move 84 = .ok (.iastore, 1) := by decide +kernel
theorem dX6_move_85 : decode cX6_move 85 = .ok (.aload_n 0, 1) := by decide +kernel
theorem dX6_move_86 : decode cX6_move 86 = .ok (.aload_n 0, 1) := by decide +kernel
theorem dX6_move_87 : decode cX6_move 87 = .ok (.getfield 105, 3) := by decide +kernel
theorem dX6_move_90 : decode cX6_move 90 = .ok (.iload_n 1, 1) := by decide +kernel
theorem dX6_move_91 : decode cX6_move 91 = .ok (.invokestatic 73, 3) := by decide +kernel
theorem dX6_move_94 : decode cX6_move 94 = .ok (.putfield 105, 3) := by decide +kernel
theorem dX6_move_97 : decode cX6_move 97 = .ok (.iload_n 3, 1) := by decide +kernel
theorem dX6_move_98 : decode cX6_move 98 = .ok (.ireturn, 1) := by decide +kernel
theorem dX6_hasPuzzle_0 : decode cX6_hasPuzzle 0 = .ok (.iconst 0, 1) := by decide +kernel
theorem dX6_hasPuzzle_1 : decode cX6_hasPuzzle 1 = .ok (.istore_n 2, 1) := by decide +kernel
theorem dX6_hasPuzzle_2 : decode cX6_hasPuzzle 2 = .ok (.iconst 0, 1) := by decide +kernel
theorem dX6_hasPuzzle_3 : decode cX6_hasPuzzle 3 = .ok (.istore_n 3, 1) := by decide +kernel
theorem dX6_hasPuzzle_4 : decode cX6_hasPuzzle 4 = .ok (.iload_n 3, 1) := by decide +kernel
theorem dX6_hasPuzzle_5 : decode cX6_hasPuzzle 5 = .ok (.aload_n 0, 1) := by decide +kernel
theorem dX6_hasPuzzle_6 : decode cX6_hasPuzzle 6 = .ok (.getfield 70, 3) := by decide +kernel
theorem dX6_hasPuzzle_9 : decode cX6_hasPuzzle 9 = .ok (.if_icmp .ge 29, 3) := by decide +kernel
theorem dX6_hasPuzzle_12 : decode cX6_hasPuzzle 12 = .ok (.iload_n 2, 1) := by decide +kernel
theorem dX6_hasPuzzle_13 : decode cX6_hasPuzzle 13 = .ok (.ifCond .ne 13, 3) := by decide +kernel
theorem dX6_hasPuzzle_16 : decode cX6_hasPuzzle 16 = .ok (.aload_n 0, 1) := by decide +kernel
theorem dX6_hasPuzzle_17 : decode cX6_hasPuzzle 17 = .ok (.getfield 38, 3) := by decide +kernel
theorem dX6_hasPuzzle_20 : decode cX6_hasPuzzle 20 = .ok (.iload_n 3, 1) := by decide +kernel
theorem dX6_hasPuzzle_21 : decode cX6_hasPuzzle 21 = .ok (.iaload, 1) := by decide +kernel
theorem dX6_hasPuzzle_22 : decode cX6_hasPuzzle 22 = .ok (.iload_n 1, 1) := by decide +kernel
theorem dX6_hasPuzzle_23 : decode cX6_hasPuzzle 23 = .ok (.if_icmp .ne 7, 3) := by decide +kernel
theorem dX6_hasPuzzle_26 : decode cX6_hasPuzzle 26 = .ok (.iconst 1, 1) := by decide +kernel
theorem dX6_hasPuzzle_27 : decode cX6_hasPuzzle 27 = .ok (.goto 4, 3) := by decide +kernel
theorem dX6_hasPuzzle_30 : decode cX6_hasPuzzle 30 = .ok (.iconst 0, 1) := by decide +kernel
theorem dX6_hasPuzzle_31 : decode cX6_hasPuzzle 31 = .ok (.istore_n 2, 1) := by decide +kernel
theorem dX6_hasPuzzle_32 : decode cX6_hasPuzzle 32 = .ok (.iinc 3 1, 3) := by decide +kernel
theorem dX6_hasPuzzle_35 : decode cX6_hasPuzzle 35 = .ok (.goto (-31), 3) := by decide +kernel
theorem dX6_hasPuzzle_38 : decode cX6_hasPuzzle 38 = .ok (.iload_n 2, 1) := by decide +kernel
theorem dX6_hasPuzzle_39 : decode cX6_hasPuzzle 39 = .ok (.ireturn, 1) := by decide +kernel
theorem dX6_makes_0 : decode cX6_makes 0 = .ok (.aload_n 0, 1) := by decide +kernel
theorem dX6_makes_1 : decode cX6_makes 1 = .ok (.getfield 70, 3) := by decide +kernel
theorem dX6_makes_4 : decode cX6_makes 4 = .ok (.istore_n 2, 1) := by decide +kernel
theorem dX6_makes_5 : decode cX6_makes 5 = .ok (.iconst 1, 1) := by decide +kernel
theorem dX6_makes_6 : decode cX6_makes 6 = .ok (.istore_n 3, 1) := by decide +kernel
theorem dX6_makes_7 : decode cX6_makes 7 = .ok (.iconst 0, 1) := by decide +kernel
theorem dX6_makes_8 : decode cX6_makes 8 = .ok (.istore 4, 2) := by decide +kernel
theorem dX6_makes_10 : decode cX6_makes 10 = .ok (.iload 4, 2) := by decide +kernel
theorem dX6_makes_12 : decode cX6_makes 12 = .ok (.aload_n 0, 1) := by decide +kernel
theorem dX6_makes_13 : decode cX6_makes 13 = .ok (.getfield 29, 3) := by decide +kernel
theorem dX6_makes_16 : decode cX6_makes 16 = .ok (.iload_n 1, 1) := by decide +kernel
theorem dX6_makes_17 : decode cX6_makes 17 = .ok (.iaload, 1) := by decide +kernel
theorem dX6_makes_18 : decode cX6_makes 18 = .ok (.if_icmp .ge 86, 3) := by decide +kernel
theorem dX6_makes_21 : decode cX6_makes 21 = .ok (.aload_n 0, 1) := by decide +kernel
theorem dX6_makes_22 : decode cX6_makes 22 = .ok (.getfield 35, 3) := by decide +kernel
theorem dX6_makes_25 : decode cX6_makes 25 = .ok (.bipush 12, 2) := by decide +kernel
theorem dX6_makes_27 : decode cX6_makes 27 = .ok (.iload_n 1, 1) := by decide +kernel
theorem dX6_makes_28 : decode cX6_makes 28 = .ok (.imul, 1) := by decide +kernel
theorem dX6_makes_29 : decode cX6_makes 29 = .ok (.iload 4, 2) := by decide +kernel
theorem dX6_makes_31 : decode cX6_makes 31 = .ok (.iadd, 1) := by decide +kernel
theorem dX6_makes_32 : decode cX6_makes 32 = .ok (.iaload, 1) := by decide +kernel
theorem dX6_makes_33 : decode cX6_makes 33 = .ok (.istore 5, 2) := by decide +kernel
theorem dX6_makes_35 : decode cX6_makes 35 = .ok (.iload_n 3, 1) := by decide +kernel
theorem dX6_makes_36 : decode cX6_makes 36 = .ok (.iload 5, 2) := by decide +kernel
theorem dX6_makes_38 : decode cX6_makes 38 = .ok (.invokestatic 108, 3) := by decide +kernel
theorem dX6_makes_41 : decode cX6_makes 41 = .ok (.ifCond .eq 50, 3) := by decide +kernel
theorem dX6_makes_44 : decode cX6_makes 44 = .ok (.aload_n 0, 1) := by decide +kernel
theorem dX6_makes_45 : decode cX6_makes 45 = .ok (.iload_n 3, 1) := by decide +kernel
theorem dX6_makes_46 : decode cX6_makes 46 = .ok (.invokevirtual 112, 3) := by decide +kernel
theorem dX6_makes_49 : decode cX6_makes 49 = .ok (.ifCond .ne 42, 3) := by decide +kernel
theorem dX6_makes_52 : decode cX6_makes 52 = .ok (.aload_n 0, 1) := by decide +kernel
theorem dX6_makes_53 : decode cX6_makes 53 = .ok (.getfield 70, 3) := by decide +kernel
theorem dX6_makes_56 : decode cX6_makes 56 = .ok (.bipush 40, 2) := by decide +kernel
theorem dX6_makes_58 : decode cX6_makes 58 = .ok (.if_icmp .ge 33, 3) := by decide +kernel
theorem dX6_makes_61 : decode cX6_makes 61 = .ok (.aload_n 0, 1) := by decide +kernel
theorem dX6_makes_62 : decode cX6_makes 62 = .ok (.getfield 38, 3) := by decide +kernel
theorem dX6_makes_65 : decode cX6_makes 65 = .ok (.aload_n 0, 1) := by decide +kernel
theorem dX6_makes_66 : decode cX6_makes 66 = .ok (.getfield 70, 3) := by decide +kernel
theorem dX6_makes_69 : decode cX6_makes 69 = .ok (.iload_n 3, 1) := by decide +kernel
theorem dX6_makes_70 : decode cX6_makes 70 = .ok (.iastore, 1) := by decide +kernel
theorem dX6_makes_71 : decode cX6_makes 71 = .ok (.aload_n 0, 1) := by decide +kernel
theorem dX6_makes_72 : decode cX6_makes 72 = .ok (.getfield 41, 3) := by decide +kernel
theorem dX6_makes_75 : decode cX6_makes 75 = .ok (.aload_n 0, 1) := by decide +kernel
theorem dX6_makes_76 : decode cX6_makes 76 = .ok (.getfield 70, 3) := by decide +kernel
theorem dX6_makes_79 : decode cX6_makes 79 = .ok (.iload_n 1, 1) := by decide +kernel
theorem dX6_makes_80 : decode cX6_makes 80 = .ok (.iastore, 1) := by decide +kernel
theorem dX6_makes_81 : decode cX6_makes 81 = .ok (.aload_n 0, 1) := by decide +kernel
theorem dX6_makes_82 : decode cX6_makes 82 = .ok (.dup, 1) := by decide +kernel
theorem dX6_makes_83 : decode cX6_makes 83 = .ok (.getfield 70, 3) := by decide +kernel
theorem dX6_makes_86 : decode cX6_makes 86 = .ok (.iconst 1, 1) := by decide +kernel
theorem dX6_makes_87 : decode cX6_makes 87 = .ok (.iadd, 1) := by decide +kernel
theorem dX6_makes_88 : decode cX6_makes 88 = .ok (.putfield 70, 3) := by decide +kernel
theorem dX6_makes_91 : decode cX6_makes 91 = .ok (.iload_n 3, 1) := by decide +kernel
theorem dX6_makes_92 : decode cX6_makes 92 = .ok (.iload 5, 2) := by decide +kernel
theorem dX6_makes_94 : decode cX6_makes 94 = .ok (.invokestatic 73, 3) := by decide +kernel
theorem dX6_makes_97 : decode cX6_makes 97 = .ok (.istore_n 3, 1) := by decide +kernel
theorem dX6_makes_98 : decode cX6_makes 98 = .ok (.iinc 4 1, 3) := by decide +kernel
theorem dX6_makes_101 : decode cX6_makes 101 = .ok (.goto (-91), 3) := by decide +kernel
theorem dX6_makes_104 : decode cX6_makes 104 = .ok (.aload_n 0, 1) := by decide +kernel
theorem dX6_makes_105 : decode cX6_makes 105 = .ok (.getfield 70, 3) := by decide +kernel
theorem dX6_makes_108 : decode cX6_makes 108 = .ok (.iload_n 2, 1) := by decide +kernel
theorem dX6_makes_109 : decode cX6_makes 109 = .ok (.isub, 1) := by decide +kernel
theorem dX6_makes_110 : decode cX6_makes 110 = .ok (.ireturn, 1) := by decide +kernel
theorem dX6_shorter_0 : decode cX6_shorter 0 = .ok (.iconst 1, 1) := by decide +kernel
theorem dX6_shorter_1 : decode cX6_shorter 1 = .ok (.iconst 2, 1) := by decide +kernel
theorem dX6_shorter_2 : decode cX6_shorter 2 = .ok (.iload_n 0, 1) := by decide +kernel
theorem dX6_shorter_3 : decode cX6_shorter 3 = .ok (.imul, 1) := by decide +kernel
theorem dX6_shorter_4 : decode cX6_shorter 4 = .ok (.ishl, 1) := by decide +kernel
theorem dX6_shorter_5 : decode cX6_shorter 5 = .ok (.iconst 4, 1) := by decide +kernel
theorem dX6_shorter_6 : decode cX6_shorter 6 = .ok (.isub, 1) := by decide +kernel
theorem dX6_shorter_7 : decode cX6_shorter 7 = .ok (.iconst 3, 1) := by decide +kernel
theorem dX6_shorter_8 : decode cX6_shorter 8 = .ok (.idiv, 1) := by decide +kernel
theorem dX6_shorter_9 : decode cX6_shorter 9 = .ok (.ireturn, 1) := by decide +kernel
theorem dX6_isGone_0 : decode cX6_isGone 0 = .ok (.iconst 0, 1) := by decide +kernel
theorem dX6_isGone_1 : decode cX6_isGone 1 = .ok (.istore_n 3, 1) := by decide +kernel
theorem dX6_isGone_2 : decode cX6_isGone 2 = .ok (.iconst 1, 1) := by decide +kernel
theorem dX6_isGone_3 : decode cX6_isGone 3 = .ok (.istore 4, 2) := by decide +kernel
theorem dX6_isGone_5 : decode cX6_isGone 5 = .ok (.iload 4, 2) := by decide +kernel
theorem dX6_isGone_7 : decode cX6_isGone 7 = .ok (.iload_n 2, 1) := by decide +kernel
theorem dX6_isGone_8 : decode cX6_isGone 8 = .ok (.if_icmp .gt 43, 3) := by decide +kernel
theorem dX6_isGone_11 : decode cX6_isGone 11 = .ok (.iload_n 3, 1) := by decide +kernel
theorem dX6_isGone_12 : decode cX6_isGone 12 = .ok (.ifCond .ne 27, 3) := by decide +kernel
theorem dX6_isGone_15 : decode cX6_isGone 15 = .ok (.aload_n 0, 1) := by decide +kernel
theorem dX6_isGone_16 : decode cX6_isGone 16 = .ok (.getfield 50, 3) := by decide +kernel
theorem dX6_isGone_19 : decode cX6_isGone 19 = .ok (.iload 4, 2) := by decide +kernel
theorem dX6_isGone_21 : decode cX6_isGone 21 = .ok (.invokestatic 115, 3) := by decide +kernel
theorem dX6_isGone_24 : decode cX6_isGone 24 = .ok (.iload_n 1, 1) := by decide +kernel
theorem dX6_isGone_25 : decode cX6_isGone 25 = .ok (.iconst 1, 1) := by decide +kernel
theorem dX6_isGone_26 : decode cX6_isGone 26 = .ok (.iconst 2, 1) := by decide +kernel
theorem dX6_isGone_27 : decode cX6_isGone 27 = .ok (.iload 4, 2) := by decide +kernel
theorem dX6_isGone_29 : decode cX6_isGone 29 = .ok (.imul, 1) := by decide +kernel
theorem dX6_isGone_30 : decode cX6_isGone 30 = .ok (.ishl, 1) := by decide +kernel
theorem dX6_isGone_31 : decode cX6_isGone 31 = .ok (.iconst 1, 1) := by decide +kernel
theorem dX6_isGone_32 : decode cX6_isGone 32 = .ok (.isub, 1) := by decide +kernel
theorem dX6_isGone_33 : decode cX6_isGone 33 = .ok (.iand, 1) := by decide +kernel
theorem dX6_isGone_34 : decode cX6_isGone 34 = .ok (.iadd, 1) := by decide +kernel
theorem dX6_isGone_35 : decode cX6_isGone 35 = .ok (.baload, 1) := by decide +kernel
theorem dX6_isGone_36 : decode cX6_isGone 36 = .ok (.ifCond .eq 7, 3) := by decide +kernel
theorem dX6_isGone_39 : decode cX6_isGone 39 = .ok (.iconst 1, 1) := by decide +kernel
theorem dX6_isGone_40 : decode cX6_isGone 40 = .ok (.goto 4, 3) := by decide +kernel
theorem dX6_isGone_43 : decode cX6_isGone 43 = .ok (.iconst 0, 1) := by decide +kernel
theorem dX6_isGone_44 : decode cX6_isGone 44 = .ok (.istore_n 3, 1) := by decide +kernel
theorem dX6_isGone_45 : decode cX6_isGone 45 = .ok (.iinc 4 1, 3) := by decide +kernel
theorem dX6_isGone_48 : decode cX6_isGone 48 = .ok (.goto (-43), 3) := by decide +kernel
theorem dX6_isGone_51 : decode cX6_isGone 51 = .ok (.iload_n 3, 1) := by decide +kernel
theorem dX6_isGone_52 : decode cX6_isGone 52 = .ok (.ireturn, 1) := by decide +kernel
theorem dX6_lineOf_0 : decode cX6_lineOf 0 = .ok (.iconst 0, 1) := by decide +kernel
theorem dX6_lineOf_1 : decode cX6_lineOf 1 = .ok (.istore_n 3, 1) := by decide +kernel
theorem dX6_lineOf_2 : decode cX6_lineOf 2 = .ok (.iconst 0, 1) := by decide +kernel
theorem dX6_lineOf_3 : decode cX6_lineOf 3 = .ok (.istore 4, 2) := by decide +kernel
theorem dX6_lineOf_5 : decode cX6_lineOf 5 = .ok (.iload 4, 2) := by decide +kernel
theorem dX6_lineOf_7 : decode cX6_lineOf 7 = .ok (.iload_n 2, 1) := by decide +kernel
theorem dX6_lineOf_8 : decode cX6_lineOf 8 = .ok (.if_icmp .ge 29, 3) := by decide +kernel
theorem dX6_lineOf_11 : decode cX6_lineOf 11 = .ok (.iload_n 3, 1) := by decide +kernel
theorem dX6_lineOf_12 : decode cX6_lineOf 12 = .ok (.aload_n 0, 1) := by decide +kernel
theorem dX6_lineOf_13 : decode cX6_lineOf 13 = .ok (.getfield 35, 3) := by decide +kernel
theorem dX6_lineOf_16 : decode cX6_lineOf 16 = .ok (.bipush 12, 2) := by decide +kernel
theorem dX6_lineOf_18 : decode cX6_lineOf 18 = .ok (.iload_n 1, 1) := by decide +kernel
theorem dX6_lineOf_19 : decode cX6_lineOf 19 = .ok (.imul, 1) := by decide +kernel
theorem dX6_lineOf_20 : decode cX6_lineOf 20 = .ok (.iload 4, 2) := by decide +kernel
theorem dX6_lineOf_22 : decode cX6_lineOf 22 = .ok (.iadd, 1) := by decide +kernel
theorem dX6_lineOf_23 : decode cX6_lineOf 23 = .ok (.iaload, 1) := by decide +kernel
theorem dX6_lineOf_24 : decode cX6_lineOf 24 = .ok (.iconst 2, 1) := by decide +kernel
theorem dX6_lineOf_25 : decode cX6_lineOf 25 = .ok (.iload 4, 2) := by decide +kernel
theorem dX6_lineOf_27 : decode cX6_lineOf 27 = .ok (.imul, 1) := by decide +kernel
theorem dX6_lineOf_28 : decode cX6_lineOf 28 = .ok (.ishl, 1) := by decide +kernel
theorem dX6_lineOf_29 : decode cX6_lineOf 29 = .ok (.ior, 1) := by decide +kernel
theorem dX6_lineOf_30 : decode cX6_lineOf 30 = .ok (.istore_n 3, 1) := by decide +kernel
theorem dX6_lineOf_31 : decode cX6_lineOf 31 = .ok (.iinc 4 1, 3) := by decide +kernel
theorem dX6_lineOf_34 : decode cX6_lineOf 34 = .ok (.goto (-29), 3) := by decide +kernel
theorem dX6_lineOf_37 : decode cX6_lineOf 37 = .ok (.iload_n 3, 1) := by decide +kernel
theorem dX6_lineOf_38 : decode cX6_lineOf 38 = .ok (.ireturn, 1) := by decide +kernel
theorem dX6_notes_0 : decode cX6_notes 0 = .ok (.aload_n 0, 1) := by decide +kernel
theorem dX6_notes_1 : decode cX6_notes 1 = .ok (.getfield 29, 3) := by decide +kernel
theorem dX6_notes_4 : decode cX6_notes 4 = .ok (.iload_n 1, 1) := by decide +kernel
theorem dX6_notes_5 : decode cX6_notes 5 = .ok (.iaload, 1) := by decide +kernel
theorem dX6_notes_6 : decode cX6_notes 6 = .ok (.bipush 6, 2) := by decide +kernel
theorem dX6_notes_8 : decode cX6_notes 8 = .ok (.if_icmp .ge 12, 3) := by decide +kernel
theorem dX6_notes_11 : decode cX6_notes 11 = .ok (.aload_n 0, 1) := by decide +kernel
theorem dX6_notes_12 : decode cX6_notes 12 = .ok (.getfield 29, 3) := by decide +kernel
theorem dX6_notes_15 : decode cX6_notes 15 = .ok (.iload_n 1, 1) := by decide +kernel
theorem dX6_notes_16 : decode cX6_notes 16 = .ok (.iaload, 1) := by decide +kernel
theorem dX6_notes_17 : decode cX6_notes 17 = .ok (.goto 5, 3) := by decide +kernel
theorem dX6_notes_20 : decode cX6_notes 20 = .ok (.bipush 6, 2) := by decide +kernel
theorem dX6_notes_22 : decode cX6_notes 22 = .ok (.istore_n 2, 1) := by decide +kernel
theorem dX6_notes_23 : decode cX6_notes 23 = .ok (.iconst 1, 1) := by decide +kernel
theorem dX6_notes_24 : decode cX6_notes 24 = .ok (.istore_n 3, 1) := by decide +kernel
theorem dX6_notes_25 : decode cX6_notes 25 = .ok (.iload_n 3, 1) := by decide +kernel
theorem dX6_notes_26 : decode cX6_notes 26 = .ok (.iload_n 2, 1) := by decide +kernel
theorem dX6_notes_27 : decode cX6_notes 27 = .ok (.if_icmp .gt 64, 3) := by decide +kernel
theorem dX6_notes_30 : decode cX6_notes 30 = .ok (.aload_n 0, 1) := by decide +kernel
theorem dX6_notes_31 : decode cX6_notes 31 = .ok (.iload_n 1, 1) := by decide +kernel
theorem dX6_notes_32 : decode cX6_notes 32 = .ok (.iload_n 3, 1) := by decide +kernel
theorem dX6_notes_33 : decode cX6_notes 33 = .ok (.invokevirtual 118, 3) := by decide +kernel
theorem dX6_notes_36 : decode cX6_notes 36 = .ok (.istore 4, 2) := by decide +kernel
theorem dX6_notes_38 : decode cX6_notes 38 = .ok (.aload_n 0, 1) := by decide +kernel
theorem dX6_notes_39 : decode cX6_notes 39 = .ok (.iload 4, 2) := by decide +kernel
theorem dX6_notes_41 : decode cX6_notes 41 = .ok (.iload_n 3, 1) := by decide +kernel
theorem dX6_notes_42 : decode cX6_notes 42 = .ok (.invokevirtual 121, 3) := by decide +kernel
theorem dX6_notes_45 : decode cX6_notes 45 = .ok (.ifCond .ne 40, 3) := by decide +kernel
theorem dX6_notes_48 : decode cX6_notes 48 = .ok (.aload_n 0, 1) := by decide +kernel
theorem dX6_notes_49 : decode cX6_notes 49 = .ok (.getfield 44, 3) := by decide +kernel
theorem dX6_notes_52 : decode cX6_notes 52 = .ok (.iload_n 3, 1) := by decide +kernel
theorem dX6_notes_53 : decode cX6_notes 53 = .ok (.invokestatic 115, 3) := by decide +kernel
theorem dX6_notes_56 : decode cX6_notes 56 = .ok (.iload 4, 2) := by decide +kernel
theorem dX6_notes_58 : decode cX6_notes 58 = .ok (.iadd, 1) := by decide +kernel
theorem dX6_notes_59 : decode cX6_notes 59 = .ok (.dup2, 1) := by decide +kernel
theorem dX6_notes_60 : decode cX6_notes 60 = .ok (.iaload, 1) := by decide +kernel
theorem dX6_notes_61 : decode cX6_notes 61 = .ok (.iconst 1, 1) := by decide +kernel
theorem dX6_notes_62 : decode cX6_notes 62 = .ok (.iadd, 1) := by decide +kernel
theorem dX6_notes_63 : decode cX6_notes 63 = .ok (.iastore, 1) := by decide +kernel
theorem dX6_notes_64 : decode cX6_notes 64 = .ok (.aload_n 0, 1) := by decide +kernel
theorem dX6_notes_65 : decode cX6_notes 65 = .ok (.getfield 47, 3) := by decide +kernel
theorem dX6_notes_68 : decode cX6_notes 68 = .ok (.iload_n 3, 1) := by decide +kernel
theorem dX6_notes_69 : decode cX6_notes 69 = .ok (.invokestatic 115, 3) := by decide +kernel
theorem dX6_notes_72 : decode cX6_notes 72 = .ok (.iload 4, 2) := by decide +kernel
theorem dX6_notes_74 : decode cX6_notes 74 = .ok (.iadd, 1) := by decide +kernel
theorem dX6_notes_75 : decode cX6_notes 75 = .ok (.dup2, 1) := by decide +kernel
theorem dX6_notes_76 : decode cX6_notes 76 = .ok (.iaload, 1) := by decide +kernel
theorem dX6_notes_77 : decode cX6_notes 77 = .ok (.aload_n 0, 1) := by decide +kernel
theorem dX6_notes_78 : decode cX6_notes 78 = .ok (.getfield 32, 3) := by decide +kernel
theorem dX6_notes_81 : decode cX6_notes 81 = .ok (.iload_n 1, 1) := by decide +kernel
theorem dX6_notes_82 : decode cX6_notes 82 = .ok (.iaload, 1) := by decide +kernel
theorem dX6_notes_83 : decode cX6_notes 83 = .ok (.iadd, 1) := by decide +kernel
theorem dX6_notes_84 : decode cX6_notes 84 = .ok (.iastore, 1) := by decide +kernel
theorem dX6_notes_85 : decode cX6_notes 85 = .ok (.iinc 3 1, 3) := by decide +kernel
theorem dX6_notes_88 : decode cX6_notes 88 = .ok (.goto (-63), 3) := by decide +kernel
theorem dX6_notes_91 : decode cX6_notes 91 = .ok (.iconst 1, 1) := by decide +kernel
theorem dX6_notes_92 : decode cX6_notes 92 = .ok (.istore_n 3, 1) := by decide +kernel
theorem dX6_notes_93 : decode cX6_notes 93 = .ok (.iload_n 3, 1) := by decide +kernel
theorem dX6_notes_94 : decode cX6_notes 94 = .ok (.bipush 6, 2) := by decide +kernel
theorem dX6_notes_96 : decode cX6_notes 96 = .ok (.if_icmp .gt 132, 3) := by decide +kernel
theorem dX6_notes_99 : decode cX6_notes 99 = .ok (.iconst 0, 1) := by decide +kernel
theorem dX6_notes_100 : decode cX6_notes 100 = .ok (.istore 4, 2) := by decide +kernel
theorem dX6_notes_102 : decode cX6_notes 102 = .ok (.iload 4, 2) := by decide +kernel
theorem dX6_notes_104 : decode cX6_notes 104 = .ok (.iconst 1, 1) := by decide +kernel
theorem dX6_notes_105 : decode cX6_notes 105 = .ok (.iconst 2, 1) := by decide +kernel
theorem dX6_notes_106 : decode cX6_notes 106 = .ok (.iload_n 3, 1) := by decide +kernel
theorem dX6_notes_107 : decode cX6_notes 107 = .ok (.imul, 1) := by decide +kernel
theorem dX6_notes_108 : decode cX6_notes 108 = .ok (.ishl, 1) := by decide +kernel
theorem dX6_notes_109 : decode cX6_notes 109 = .ok (.if_icmp .ge 113, 3) := by decide +kernel
theorem dX6_notes_112 : decode cX6_notes 112 = .ok (.iload_n 3, 1) := by decide +kernel
theorem dX6_notes_113 : decode cX6_notes 113 = .ok (.invokestatic 115, 3) := by decide +kernel
theorem dX6_notes_116 : decode cX6_notes 116 = .ok (.iload 4, 2) := by decide +kernel
theorem dX6_notes_118 : decode cX6_notes 118 = .ok (.iadd, 1) := by decide +kernel
theorem dX6_notes_119 : decode cX6_notes 119 = .ok (.istore 5, 2) := by decide +kernel
theorem dX6_notes_121 : decode cX6_notes 121 = .ok (.iload_n 3, 1) := by decide +kernel
theorem dX6_notes_122 : decode cX6_notes 122 = .ok (.iconst 2, 1) := by decide +kernel
theorem dX6_notes_123 : decode cX6_notes 123 = .ok (.irem, 1) := by decide +kernel
theorem dX6_notes_124 : decode cX6_notes 124 = .ok (.iconst 1, 1) := by decide +kernel
theorem dX6_notes_125 : decode cX6_notes 125 = .ok (.if_icmp .ne 13, 3) := by decide +kernel
theorem dX6_notes_128 : decode cX6_notes 128 = .ok (.aload_n 0, 1) := by decide +kernel
theorem dX6_notes_129 : decode cX6_notes 129 = .ok (.getfield 47, 3) := by decide +kernel
theorem dX6_notes_132 : decode cX6_notes 132 = .ok (.iload 5, 2) := by decide +kernel
end
section
theorem dX6_notes_134 : decode cX6_notes 134 = .ok (.iaload, 1) := by decide +kernel
theorem dX6_notes_135 : decode cX6_notes 135 = .ok (.goto 20, 3) := by decide +kernel
theorem dX6_notes_138 : decode cX6_notes 138 = .ok (.iconst 2, 1) := by decide +kernel
theorem dX6_notes_139 : decode cX6_notes 139 = .ok (.aload_n 0, 1) := by decide +kernel
theorem dX6_notes_140 : decode cX6_notes 140 = .ok (.getfield 44, 3) := by decide +kernel
theorem dX6_notes_143 : decode cX6_notes 143 = .ok (.iload 5, 2) := by decide +kernel
theorem dX6_notes_145 : decode cX6_notes 145 = .ok (.iaload, 1) := by decide +kernel
theorem dX6_notes_146 : decode cX6_notes 146 = .ok (.imul, 1) := by decide +kernel
theorem dX6_notes_147 : decode cX6_notes 147 = .ok (.aload_n 0, 1) := by decide +kernel
theorem dX6_notes_148 : decode cX6_notes 148 = .ok (.getfield 47, 3) := by decide +kernel
theorem dX6_notes_151 : decode cX6_notes 151 = .ok (.iload 5, 2) := by decide +kernel
theorem dX6_notes_153 : decode cX6_notes 153 = .ok (.iaload, 1) := by decide +kernel
theorem dX6_notes_154 : decode cX6_notes 154 = .ok (.isub, 1) := by decide +kernel
theorem dX6_notes_155 : decode cX6_notes 155 = .ok (.istore 6, 2) := by decide +kernel
theorem dX6_notes_157 : decode cX6_notes 157 = .ok (.aload_n 0, 1) := by decide +kernel
theorem dX6_notes_158 : decode cX6_notes 158 = .ok (.getfield 50, 3) := by decide +kernel
theorem dX6_notes_161 : decode cX6_notes 161 = .ok (.iload 5, 2) := by decide +kernel
theorem dX6_notes_163 : decode cX6_notes 163 = .ok (.aload_n 0, 1) := by decide +kernel
theorem dX6_notes_164 : decode cX6_notes 164 = .ok (.getfield 50, 3) := by decide +kernel
theorem dX6_notes_167 : decode cX6_notes 167 = .ok (.iload 5, 2) := by decide +kernel
theorem dX6_notes_169 : decode cX6_notes 169 = .ok (.baload, 1) := by decide +kernel
theorem dX6_notes_170 : decode cX6_notes 170 = .ok (.ifCond .ne 40, 3) := by decide +kernel
theorem dX6_notes_173 : decode cX6_notes 173 = .ok (.aload_n 0, 1) := by decide +kernel
theorem dX6_notes_174 : decode cX6_notes 174 = .ok (.getfield 44, 3) := by decide +kernel
theorem dX6_notes_177 : decode cX6_notes 177 = .ok (.iload 5, 2) := by decide +kernel
theorem dX6_notes_179 : decode cX6_notes 179 = .ok (.iaload, 1) := by decide +kernel
theorem dX6_notes_180 : decode cX6_notes 180 = .ok (.iconst 3, 1) := by decide +kernel
theorem dX6_notes_181 : decode cX6_notes 181 = .ok (.if_icmp .lt 33, 3) := by decide +kernel
theorem dX6_notes_184 : decode cX6_notes 184 = .ok (.iconst 3, 1) := by decide +kernel
theorem dX6_notes_185 : decode cX6_notes 185 = .ok (.iload 6, 2) := by decide +kernel
theorem dX6_notes_187 : decode cX6_notes 187 = .ok (.imul, 1) := by decide +kernel
theorem dX6_notes_188 : decode cX6_notes 188 = .ok (.iconst 2, 1) := by decide +kernel
theorem dX6_notes_189 : decode cX6_notes 189 = .ok (.aload_n 0, 1) := by decide +kernel
theorem dX6_notes_190 : decode cX6_notes 190 = .ok (.getfield 44, 3) := by decide +kernel
theorem dX6_notes_193 : decode cX6_notes 193 = .ok (.iload 5, 2) := by decide +kernel
theorem dX6_notes_195 : decode cX6_notes 195 = .ok (.iaload, 1) := by decide +kernel
theorem dX6_notes_196 : decode cX6_notes 196 = .ok (.imul, 1) := by decide +kernel
theorem dX6_notes_197 : decode cX6_notes 197 = .ok (.if_icmp .ge 17, 3) := by decide +kernel
theorem dX6_notes_200 : decode cX6_notes 200 = .ok (.aload_n 0, 1) := by decide +kernel
theorem dX6_notes_201 : decode cX6_notes 201 = .ok (.iload 4, 2) := by decide +kernel
theorem dX6_notes_203 : decode cX6_notes 203 = .ok (.iload_n 3, 1) := by decide +kernel
theorem dX6_notes_204 : decode cX6_notes 204 = .ok (.invokevirtual 121, 3) := by decide +kernel
theorem dX6_notes_207 : decode cX6_notes 207 = .ok (.ifCond .ne 7, 3) := by decide +kernel
theorem dX6_notes_210 : decode cX6_notes 210 = .ok (.iconst 1, 1) := by decide +kernel
theorem dX6_notes_211 : decode cX6_notes 211 = .ok (.goto 4, 3) := by decide +kernel
theorem dX6_notes_214 : decode cX6_notes 214 = .ok (.iconst 0, 1) := by decide +kernel
theorem dX6_notes_215 : decode cX6_notes 215 = .ok (.bastore, 1) := by decide +kernel
theorem dX6_notes_216 : decode cX6_notes 216 = .ok (.iinc 4 1, 3) := by decide +kernel
theorem dX6_notes_219 : decode cX6_notes 219 = .ok (.goto (-117), 3) := by decide +kernel
theorem dX6_notes_222 : decode cX6_notes 222 = .ok (.iinc 3 1, 3) := by decide +kernel
theorem dX6_notes_225 : decode cX6_notes 225 = .ok (.goto (-132), 3) := by decide +kernel
theorem dX6_notes_228 : decode cX6_notes 228 = .ok (.return_, 1) := by decide +kernel
theorem dX6_end_0 : decode cX6_end 0 = .ok (.aload_n 0, 1) := by decide +kernel
theorem dX6_end_1 : decode cX6_end 1 = .ok (.iload_n 1, 1) := by decide +kernel
theorem dX6_end_2 : decode cX6_end 2 = .ok (.iconst 0, 1) := by decide +kernel
theorem dX6_end_3 : decode cX6_end 3 = .ok (.iconst 2, 1) := by decide +kernel
theorem dX6_end_4 : decode cX6_end 4 = .ok (.invokestatic 63, 3) := by decide +kernel
theorem dX6_end_7 : decode cX6_end 7 = .ok (.aload_n 0, 1) := by decide +kernel
theorem dX6_end_8 : decode cX6_end 8 = .ok (.getfield 98, 3) := by decide +kernel
theorem dX6_end_11 : decode cX6_end 11 = .ok (.iconst 1, 1) := by decide +kernel
theorem dX6_end_12 : decode cX6_end 12 = .ok (.invokevirtual 91, 3) := by decide +kernel
theorem dX6_end_15 : decode cX6_end 15 = .ok (.ifCond .ne 5, 3) := by decide +kernel
theorem dX6_end_18 : decode cX6_end 18 = .ok (.iconst 0, 1) := by decide +kernel
theorem dX6_end_19 : decode cX6_end 19 = .ok (.ireturn, 1) := by decide +kernel
theorem dX6_end_20 : decode cX6_end 20 = .ok (.aload_n 0, 1) := by decide +kernel
theorem dX6_end_21 : decode cX6_end 21 = .ok (.getfield 95, 3) := by decide +kernel
theorem dX6_end_24 : decode cX6_end 24 = .ok (.iconst 1, 1) := by decide +kernel
theorem dX6_end_25 : decode cX6_end 25 = .ok (.isub, 1) := by decide +kernel
theorem dX6_end_26 : decode cX6_end 26 = .ok (.istore_n 2, 1) := by decide +kernel
theorem dX6_end_27 : decode cX6_end 27 = .ok (.aload_n 0, 1) := by decide +kernel
theorem dX6_end_28 : decode cX6_end 28 = .ok (.iconst 0, 1) := by decide +kernel
theorem dX6_end_29 : decode cX6_end 29 = .ok (.putfield 98, 3) := by decide +kernel
theorem dX6_end_32 : decode cX6_end 32 = .ok (.aload_n 0, 1) := by decide +kernel
theorem dX6_end_33 : decode cX6_end 33 = .ok (.getfield 32, 3) := by decide +kernel
theorem dX6_end_36 : decode cX6_end 36 = .ok (.iload_n 2, 1) := by decide +kernel
theorem dX6_end_37 : decode cX6_end 37 = .ok (.iload_n 1, 1) := by decide +kernel
theorem dX6_end_38 : decode cX6_end 38 = .ok (.iastore, 1) := by decide +kernel
theorem dX6_end_39 : decode cX6_end 39 = .ok (.aload_n 0, 1) := by decide +kernel
theorem dX6_end_40 : decode cX6_end 40 = .ok (.getfield 7, 3) := by decide +kernel
theorem dX6_end_43 : decode cX6_end 43 = .ok (.aload_n 0, 1) := by decide +kernel
theorem dX6_end_44 : decode cX6_end 44 = .ok (.getfield 23, 3) := by decide +kernel
theorem dX6_end_47 : decode cX6_end 47 = .ok (.iload_n 2, 1) := by decide +kernel
theorem dX6_end_48 : decode cX6_end 48 = .ok (.iaload, 1) := by decide +kernel
theorem dX6_end_49 : decode cX6_end 49 = .ok (.dup2, 1) := by decide +kernel
theorem dX6_end_50 : decode cX6_end 50 = .ok (.iaload, 1) := by decide +kernel
theorem dX6_end_51 : decode cX6_end 51 = .ok (.iload_n 1, 1) := by decide +kernel
theorem dX6_end_52 : decode cX6_end 52 = .ok (.iadd, 1) := by decide +kernel
theorem dX6_end_53 : decode cX6_end 53 = .ok (.iastore, 1) := by decide +kernel
theorem dX6_end_54 : decode cX6_end 54 = .ok (.aload_n 0, 1) := by decide +kernel
theorem dX6_end_55 : decode cX6_end 55 = .ok (.getfield 7, 3) := by decide +kernel
theorem dX6_end_58 : decode cX6_end 58 = .ok (.aload_n 0, 1) := by decide +kernel
theorem dX6_end_59 : decode cX6_end 59 = .ok (.getfield 26, 3) := by decide +kernel
theorem dX6_end_62 : decode cX6_end 62 = .ok (.iload_n 2, 1) := by decide +kernel
theorem dX6_end_63 : decode cX6_end 63 = .ok (.iaload, 1) := by decide +kernel
theorem dX6_end_64 : decode cX6_end 64 = .ok (.dup2, 1) := by decide +kernel
theorem dX6_end_65 : decode cX6_end 65 = .ok (.iaload, 1) := by decide +kernel
theorem dX6_end_66 : decode cX6_end 66 = .ok (.iconst 2, 1) := by decide +kernel
theorem dX6_end_67 : decode cX6_end 67 = .ok (.iload_n 1, 1) := by decide +kernel
theorem dX6_end_68 : decode cX6_end 68 = .ok (.isub, 1) := by decide +kernel
theorem dX6_end_69 : decode cX6_end 69 = .ok (.iadd, 1) := by decide +kernel
theorem dX6_end_70 : decode cX6_end 70 = .ok (.iastore, 1) := by decide +kernel
theorem dX6_end_71 : decode cX6_end 71 = .ok (.aload_n 0, 1) := by decide +kernel
theorem dX6_end_72 : decode cX6_end 72 = .ok (.getfield 13, 3) := by decide +kernel
theorem dX6_end_75 : decode cX6_end 75 = .ok (.aload_n 0, 1) := by decide +kernel
theorem dX6_end_76 : decode cX6_end 76 = .ok (.getfield 23, 3) := by decide +kernel
theorem dX6_end_79 : decode cX6_end 79 = .ok (.iload_n 2, 1) := by decide +kernel
theorem dX6_end_80 : decode cX6_end 80 = .ok (.iaload, 1) := by decide +kernel
theorem dX6_end_81 : decode cX6_end 81 = .ok (.dup2, 1) := by decide +kernel
theorem dX6_end_82 : decode cX6_end 82 = .ok (.iaload, 1) := by decide +kernel
theorem dX6_end_83 : decode cX6_end 83 = .ok (.iconst 1, 1) := by decide +kernel
theorem dX6_end_84 : decode cX6_end 84 = .ok (.iadd, 1) := by decide +kernel
theorem dX6_end_85 : decode cX6_end 85 = .ok (.iastore, 1) := by decide +kernel
theorem dX6_end_86 : decode cX6_end 86 = .ok (.aload_n 0, 1) := by decide +kernel
theorem dX6_end_87 : decode cX6_end 87 = .ok (.getfield 13, 3) := by decide +kernel
theorem dX6_end_90 : decode cX6_end 90 = .ok (.aload_n 0, 1) := by decide +kernel
theorem dX6_end_91 : decode cX6_end 91 = .ok (.getfield 26, 3) := by decide +kernel
theorem dX6_end_94 : decode cX6_end 94 = .ok (.iload_n 2, 1) := by decide +kernel
theorem dX6_end_95 : decode cX6_end 95 = .ok (.iaload, 1) := by decide +kernel
theorem dX6_end_96 : decode cX6_end 96 = .ok (.dup2, 1) := by decide +kernel
theorem dX6_end_97 : decode cX6_end 97 = .ok (.iaload, 1) := by decide +kernel
theorem dX6_end_98 : decode cX6_end 98 = .ok (.iconst 1, 1) := by decide +kernel
theorem dX6_end_99 : decode cX6_end 99 = .ok (.isub, 1) := by decide +kernel
theorem dX6_end_100 : decode cX6_end 100 = .ok (.iastore, 1) := by decide +kernel
theorem dX6_end_101 : decode cX6_end 101 = .ok (.aload_n 0, 1) := by decide +kernel
theorem dX6_end_102 : decode cX6_end 102 = .ok (.iload_n 2, 1) := by decide +kernel
theorem dX6_end_103 : decode cX6_end 103 = .ok (.invokevirtual 124, 3) := by decide +kernel
theorem dX6_end_106 : decode cX6_end 106 = .ok (.aload_n 0, 1) := by decide +kernel
theorem dX6_end_107 : decode cX6_end 107 = .ok (.iload_n 2, 1) := by decide +kernel
theorem dX6_end_108 : decode cX6_end 108 = .ok (.invokevirtual 128, 3) := by decide +kernel
theorem dX6_end_111 : decode cX6_end 111 = .ok (.ireturn, 1) := by decide +kernel
theorem dX6_position_0 : decode cX6_position 0 = .ok (.aload_n 0, 1) := by decide +kernel
theorem dX6_position_1 : decode cX6_position 1 = .ok (.aload_n 0, 1) := by decide +kernel
theorem dX6_position_2 : decode cX6_position 2 = .ok (.getfield 98, 3) := by decide +kernel
theorem dX6_position_5 : decode cX6_position 5 = .ok (.ifCond .eq 10, 3) := by decide +kernel
theorem dX6_position_8 : decode cX6_position 8 = .ok (.aload_n 0, 1) := by decide +kernel
theorem dX6_position_9 : decode cX6_position 9 = .ok (.getfield 105, 3) := by decide +kernel
theorem dX6_position_12 : decode cX6_position 12 = .ok (.goto 4, 3) := by decide +kernel
theorem dX6_position_15 : decode cX6_position 15 = .ok (.iconst (-1), 1) := by decide +kernel
theorem dX6_position_16 : decode cX6_position 16 = .ok (.invokevirtual 131, 3) := by decide +kernel
theorem dX6_position_19 : decode cX6_position 19 = .ok (.ireturn, 1) := by decide +kernel
theorem dX6_games_0 : decode cX6_games 0 = .ok (.aload_n 0, 1) := by decide +kernel
theorem dX6_games_1 : decode cX6_games 1 = .ok (.aload_n 0, 1) := by decide +kernel
theorem dX6_games_2 : decode cX6_games 2 = .ok (.invokevirtual 134, 3) := by decide +kernel
theorem dX6_games_5 : decode cX6_games 5 = .ok (.invokevirtual 131, 3) := by decide +kernel
theorem dX6_games_8 : decode cX6_games 8 = .ok (.ireturn, 1) := by decide +kernel
theorem dX6_score_0 : decode cX6_score 0 = .ok (.aload_n 0, 1) := by decide +kernel
theorem dX6_score_1 : decode cX6_score 1 = .ok (.aload_n 0, 1) := by decide +kernel
theorem dX6_score_2 : decode cX6_score 2 = .ok (.iload_n 1, 1) := by decide +kernel
theorem dX6_score_3 : decode cX6_score 3 = .ok (.invokevirtual 102, 3) := by decide +kernel
theorem dX6_score_6 : decode cX6_score 6 = .ok (.iconst 1, 1) := by decide +kernel
theorem dX6_score_7 : decode cX6_score 7 = .ok (.iconst 1, 1) := by decide +kernel
theorem dX6_score_8 : decode cX6_score 8 = .ok (.invokevirtual 91, 3) := by decide +kernel
theorem dX6_score_11 : decode cX6_score 11 = .ok (.ifCond .eq 12, 3) := by decide +kernel
theorem dX6_score_14 : decode cX6_score 14 = .ok (.aload_n 0, 1) := by decide +kernel
theorem dX6_score_15 : decode cX6_score 15 = .ok (.getfield 7, 3) := by decide +kernel
theorem dX6_score_18 : decode cX6_score 18 = .ok (.iload_n 1, 1) := by decide +kernel
theorem dX6_score_19 : decode cX6_score 19 = .ok (.iaload, 1) := by decide +kernel
theorem dX6_score_20 : decode cX6_score 20 = .ok (.goto 4, 3) := by decide +kernel
theorem dX6_score_23 : decode cX6_score 23 = .ok (.iconst 0, 1) := by decide +kernel
theorem dX6_score_24 : decode cX6_score 24 = .ok (.ireturn, 1) := by decide +kernel
theorem dX6_puzzles_0 : decode cX6_puzzles 0 = .ok (.aload_n 0, 1) := by decide +kernel
theorem dX6_puzzles_1 : decode cX6_puzzles 1 = .ok (.aload_n 0, 1) := by decide +kernel
theorem dX6_puzzles_2 : decode cX6_puzzles 2 = .ok (.getfield 70, 3) := by decide +kernel
theorem dX6_puzzles_5 : decode cX6_puzzles 5 = .ok (.invokevirtual 131, 3) := by decide +kernel
theorem dX6_puzzles_8 : decode cX6_puzzles 8 = .ok (.ireturn, 1) := by decide +kernel
theorem dX6_puzzle_0 : decode cX6_puzzle 0 = .ok (.aload_n 0, 1) := by decide +kernel
theorem dX6_puzzle_1 : decode cX6_puzzle 1 = .ok (.aload_n 0, 1) := by decide +kernel
theorem dX6_puzzle_2 : decode cX6_puzzle 2 = .ok (.iload_n 1, 1) := by decide +kernel
theorem dX6_puzzle_3 : decode cX6_puzzle 3 = .ok (.invokevirtual 138, 3) := by decide +kernel
theorem dX6_puzzle_6 : decode cX6_puzzle 6 = .ok (.iconst 1, 1) := by decide +kernel
theorem dX6_puzzle_7 : decode cX6_puzzle 7 = .ok (.iconst 1, 1) := by decide +kernel
theorem dX6_puzzle_8 : decode cX6_puzzle 8 = .ok (.invokevirtual 91, 3) := by decide +kernel
theorem dX6_puzzle_11 : decode cX6_puzzle 11 = .ok (.ifCond .eq 12, 3) := by decide +kernel
theorem dX6_puzzle_14 : decode cX6_puzzle 14 = .ok (.aload_n 0, 1) := by decide +kernel
theorem dX6_puzzle_15 : decode cX6_puzzle 15 = .ok (.getfield 38, 3) := by decide +kernel
theorem dX6_puzzle_18 : decode cX6_puzzle 18 = .ok (.iload_n 1, 1) := by decide +kernel
theorem dX6_puzzle_19 : decode cX6_puzzle 19 = .ok (.iaload, 1) := by decide +kernel
theorem dX6_puzzle_20 : decode cX6_puzzle 20 = .ok (.goto 4, 3) := by decide +kernel
theorem dX6_puzzle_23 : decode cX6_puzzle 23 = .ok (.iconst 0, 1) := by decide +kernel
theorem dX6_puzzle_24 : decode cX6_puzzle 24 = .ok (.ireturn, 1) := by decide +kernel
theorem dX6_source_0 : decode cX6_source 0 = .ok (.aload_n 0, 1) := by decide +kernel
theorem dX6_source_1 : decode cX6_source 1 = .ok (.aload_n 0, 1) := by decide +kernel
theorem dX6_source_2 : decode cX6_source 2 = .ok (.iload_n 1, 1) := by decide +kernel
theorem dX6_source_3 : decode cX6_source 3 = .ok (.invokevirtual 138, 3) := by decide +kernel
theorem dX6_source_6 : decode cX6_source 6 = .ok (.iconst 1, 1) := by decide +kernel
theorem dX6_source_7 : decode cX6_source 7 = .ok (.iconst 1, 1) := by decide +kernel
theorem dX6_source_8 : decode cX6_source 8 = .ok (.invokevirtual 91, 3) := by decide +kernel
theorem dX6_source_11 : decode cX6_source 11 = .ok (.ifCond .eq 12, 3) := by decide +kernel
theorem dX6_source_14 : decode cX6_source 14 = .ok (.aload_n 0, 1) := by decide +kernel
theorem dX6_source_15 : decode cX6_source 15 = .ok (.getfield 41, 3) := by decide +kernel
theorem dX6_source_18 : decode cX6_source 18 = .ok (.iload_n 1, 1) := by decide +kernel
theorem dX6_source_19 : decode cX6_source 19 = .ok (.iaload, 1) := by decide +kernel
theorem dX6_source_20 : decode cX6_source 20 = .ok (.goto 4, 3) := by decide +kernel
theorem dX6_source_23 : decode cX6_source 23 = .ok (.iconst 0, 1) := by decide +kernel
theorem dX6_source_24 : decode cX6_source 24 = .ok (.ireturn, 1) := by decide +kernel
theorem dX6_solve_0 : decode cX6_solve 0 = .ok (.aload_n 0, 1) := by decide +kernel
theorem dX6_solve_1 : decode cX6_solve 1 = .ok (.iload_n 1, 1) := by decide +kernel
theorem dX6_solve_2 : decode cX6_solve 2 = .ok (.invokevirtual 102, 3) := by decide +kernel
theorem dX6_solve_5 : decode cX6_solve 5 = .ok (.ifCond .eq 15, 3) := by decide +kernel
theorem dX6_solve_8 : decode cX6_solve 8 = .ok (.aload_n 0, 1) := by decide +kernel
theorem dX6_solve_9 : decode cX6_solve 9 = .ok (.iload_n 2, 1) := by decide +kernel
theorem dX6_solve_10 : decode cX6_solve 10 = .ok (.invokevirtual 138, 3) := by decide +kernel
theorem dX6_solve_13 : decode cX6_solve 13 = .ok (.ifCond .eq 7, 3) := by decide +kernel
theorem dX6_solve_16 : decode cX6_solve 16 = .ok (.iconst 1, 1) := by decide +kernel
theorem dX6_solve_17 : decode cX6_solve 17 = .ok (.goto 4, 3) := by decide +kernel
theorem dX6_solve_20 : decode cX6_solve 20 = .ok (.iconst 0, 1) := by decide +kernel
theorem dX6_solve_21 : decode cX6_solve 21 = .ok (.istore 4, 2) := by decide +kernel
theorem dX6_solve_23 : decode cX6_solve 23 = .ok (.iload 4, 2) := by decide +kernel
theorem dX6_solve_25 : decode cX6_solve 25 = .ok (.ifCond .eq 12, 3) := by decide +kernel
theorem dX6_solve_28 : decode cX6_solve 28 = .ok (.bipush 40, 2) := by decide +kernel
theorem dX6_solve_30 : decode cX6_solve 30 = .ok (.iload_n 1, 1) := by decide +kernel
theorem dX6_solve_31 : decode cX6_solve 31 = .ok (.imul, 1) := by decide +kernel
theorem dX6_solve_32 : decode cX6_solve 32 = .ok (.iload_n 2, 1) := by decide +kernel
theorem dX6_solve_33 : decode cX6_solve 33 = .ok (.iadd, 1) := by decide +kernel
theorem dX6_solve_34 : decode cX6_solve 34 = .ok (.goto 4, 3) := by decide +kernel
theorem dX6_solve_37 : decode cX6_solve 37 = .ok (.iconst 0, 1) := by decide +kernel
theorem dX6_solve_38 : decode cX6_solve 38 = .ok (.istore 5, 2) := by decide +kernel
theorem dX6_solve_40 : decode cX6_solve 40 = .ok (.aload_n 0, 1) := by decide +kernel
theorem dX6_solve_41 : decode cX6_solve 41 = .ok (.iload 4, 2) := by decide +kernel
theorem dX6_solve_43 : decode cX6_solve 43 = .ok (.iload_n 3, 1) := by decide +kernel
theorem dX6_solve_44 : decode cX6_solve 44 = .ok (.invokestatic 88, 3) := by decide +kernel
theorem dX6_solve_47 : decode cX6_solve 47 = .ok (.iload 4, 2) := by decide +kernel
theorem dX6_solve_49 : decode cX6_solve 49 = .ok (.ifCond .eq 17, 3) := by decide +kernel
theorem dX6_solve_52 : decode cX6_solve 52 = .ok (.aload_n 0, 1) := by decide +kernel
theorem dX6_solve_53 : decode cX6_solve 53 = .ok (.getfield 19, 3) := by decide +kernel
theorem dX6_solve_56 : decode cX6_solve 56 = .ok (.iload 5, 2) := by decide +kernel
theorem dX6_solve_58 : decode cX6_solve 58 = .ok (.baload, 1) := by decide +kernel
theorem dX6_solve_59 : decode cX6_solve 59 = .ok (.ifCond .ne 7, 3) := by decide +kernel
theorem dX6_solve_62 : decode cX6_solve 62 = .ok (.iconst 1, 1) := by decide +kernel
theorem dX6_solve_63 : decode cX6_solve 63 = .ok (.goto 4, 3) := by decide +kernel
theorem dX6_solve_66 : decode cX6_solve 66 = .ok (.iconst 0, 1) := by decide +kernel
theorem dX6_solve_67 : decode cX6_solve 67 = .ok (.invokevirtual 91, 3) := by decide +kernel
theorem dX6_solve_70 : decode cX6_solve 70 = .ok (.ifCond .ne 5, 3) := by decide +kernel
theorem dX6_solve_73 : decode cX6_solve 73 = .ok (.iconst 0, 1) := by decide +kernel
theorem dX6_solve_74 : decode cX6_solve 74 = .ok (.ireturn, 1) := by decide +kernel
theorem dX6_solve_75 : decode cX6_solve 75 = .ok (.aload_n 0, 1) := by decide +kernel
theorem dX6_solve_76 : decode cX6_solve 76 = .ok (.getfield 19, 3) := by decide +kernel
theorem dX6_solve_79 : decode cX6_solve 79 = .ok (.iload 5, 2) := by decide +kernel
theorem dX6_solve_81 : decode cX6_solve 81 = .ok (.iconst 1, 1) := by decide +kernel
theorem dX6_solve_82 : decode cX6_solve 82 = .ok (.bastore, 1) := by decide +kernel
theorem dX6_solve_83 : decode cX6_solve 83 = .ok (.iload_n 3, 1) := by decide +kernel
theorem dX6_solve_84 : decode cX6_solve 84 = .ok (.aload_n 0, 1) := by decide +kernel
theorem dX6_solve_85 : decode cX6_solve 85 = .ok (.getfield 38, 3) := by decide +kernel
theorem dX6_solve_88 : decode cX6_solve 88 = .ok (.iload_n 2, 1) := by decide +kernel
theorem dX6_solve_89 : decode cX6_solve 89 = .ok (.iaload, 1) := by decide +kernel
theorem dX6_solve_90 : decode cX6_solve 90 = .ok (.invokestatic 81, 3) := by decide +kernel
theorem dX6_solve_93 : decode cX6_solve 93 = .ok (.if_icmp .ne 7, 3) := by decide +kernel
theorem dX6_solve_96 : decode cX6_solve 96 = .ok (.iconst 1, 1) := by decide +kernel
theorem dX6_solve_97 : decode cX6_solve 97 = .ok (.goto 4, 3) := by decide +kernel
theorem dX6_solve_100 : decode cX6_solve 100 = .ok (.iconst 0, 1) := by decide +kernel
theorem dX6_solve_101 : decode cX6_solve 101 = .ok (.istore 6, 2) := by decide +kernel
theorem dX6_solve_103 : decode cX6_solve 103 = .ok (.iconst 5, 1) := by decide +kernel
theorem dX6_solve_104 : decode cX6_solve 104 = .ok (.iload_n 1, 1) := by decide +kernel
theorem dX6_solve_105 : decode cX6_solve 105 = .ok (.imul, 1) := by decide +kernel
theorem dX6_solve_106 : decode cX6_solve 106 = .ok (.aload_n 0, 1) := by decide +kernel
theorem dX6_solve_107 : decode cX6_solve 107 = .ok (.getfield 38, 3) := by decide +kernel
theorem dX6_solve_110 : decode cX6_solve 110 = .ok (.iload_n 2, 1) := by decide +kernel
theorem dX6_solve_111 : decode cX6_solve 111 = .ok (.iaload, 1) := by decide +kernel
theorem dX6_solve_112 : decode cX6_solve 112 = .ok (.iconst 5, 1) := by decide +kernel
theorem dX6_solve_113 : decode cX6_solve 113 = .ok (.irem, 1) := by decide +kernel
theorem dX6_solve_114 : decode cX6_solve 114 = .ok (.iadd, 1) := by decide +kernel
theorem dX6_solve_115 : decode cX6_solve 115 = .ok (.istore 7, 2) := by decide +kernel
theorem dX6_solve_117 : decode cX6_solve 117 = .ok (.aload_n 0, 1) := by decide +kernel
theorem dX6_solve_118 : decode cX6_solve 118 = .ok (.getfield 16, 3) := by decide +kernel
theorem dX6_solve_121 : decode cX6_solve 121 = .ok (.iload 7, 2) := by decide +kernel
theorem dX6_solve_123 : decode cX6_solve 123 = .ok (.iaload, 1) := by decide +kernel
theorem dX6_solve_124 : decode cX6_solve 124 = .ok (.sipush 1000, 3) := by decide +kernel
theorem dX6_solve_127 : decode cX6_solve 127 = .ok (.if_icmp .le 20, 3) := by decide +kernel
theorem dX6_solve_130 : decode cX6_solve 130 = .ok (.aload_n 0, 1) := by decide +kernel
theorem dX6_solve_131 : decode cX6_solve 131 = .ok (.getfield 16, 3) := by decide +kernel
theorem dX6_solve_134 : decode cX6_solve 134 = .ok (.iload 7, 2) := by decide +kernel
theorem dX6_solve_136 : decode cX6_solve 136 = .ok (.iaload, 1) := by decide +kernel
theorem dX6_solve_137 : decode cX6_solve 137 = .ok (.sipush 1000, 3) := by decide +kernel
theorem dX6_solve_140 : decode cX6_solve 140 = .ok (.isub, 1) := by decide +kernel
theorem dX6_solve_141 : decode cX6_solve 141 = .ok (.bipush 50, 2) := by decide +kernel
theorem dX6_solve_143 : decode cX6_solve 143 = .ok (.idiv, 1) := by decide +kernel
theorem dX6_solve_144 : decode cX6_solve 144 = .ok (.goto 4, 3) := by decide +kernel
theorem dX6_solve_147 : decode cX6_solve 147 = .ok (.iconst 0, 1) := by decide +kernel
theorem dX6_solve_148 : decode cX6_solve 148 = .ok (.istore 8, 2) := by decide +kernel
theorem dX6_solve_150 : decode cX6_solve 150 = .ok (.aload_n 0, 1) := by decide +kernel
theorem dX6_solve_151 : decode cX6_solve 151 = .ok (.getfield 16, 3) := by decide +kernel
theorem dX6_solve_154 : decode cX6_solve 154 = .ok (.iload 7, 2) := by decide +kernel
theorem dX6_solve_156 : decode cX6_solve 156 = .ok (.iaload, 1) := by decide +kernel
theorem dX6_solve_157 : decode cX6_solve 157 = .ok (.iload 6, 2) := by decide +kernel
theorem dX6_solve_159 : decode cX6_solve 159 = .ok (.ifCond .eq 11, 3) := by decide +kernel
theorem dX6_solve_162 : decode cX6_solve 162 = .ok (.bipush 32, 2) := by decide +kernel
theorem dX6_solve_164 : decode cX6_solve 164 = .ok (.iload 8, 2) := by decide +kernel
theorem dX6_solve_166 : decode cX6_solve 166 = .ok (.isub, 1) := by decide +kernel
theorem dX6_solve_167 : decode cX6_solve 167 = .ok (.goto 5, 3) := by decide +kernel
theorem dX6_solve_170 : decode cX6_solve 170 = .ok (.bipush (-16), 2) := by decide +kernel
theorem dX6_solve_172 : decode cX6_solve 172 = .ok (.iadd, 1) := by decide +kernel
theorem dX6_solve_173 : decode cX6_solve 173 = .ok (.istore 9, 2) := by decide +kernel
theorem dX6_solve_175 : decode cX6_solve 175 = .ok (.aload_n 0, 1) := by decide +kernel
theorem dX6_solve_176 : decode cX6_solve 176 = .ok (.getfield 16, 3) := by decide +kernel
theorem dX6_solve_179 : decode cX6_solve 179 = .ok (.iload 7, 2) := by decide +kernel
theorem dX6_solve_181 : decode cX6_solve 181 = .ok (.iload 9, 2) := by decide +kernel
theorem dX6_solve_183 : decode cX6_solve 183 = .ok (.bipush 100, 2) := by decide +kernel
theorem dX6_solve_185 : decode cX6_solve 185 = .ok (.if_icmp .ge 8, 3) := by decide +kernel
theorem dX6_solve_188 : decode cX6_solve 188 = .ok (.bipush 100, 2) := by decide +kernel
theorem dX6_solve_190 : decode cX6_solve 190 = .ok (.goto 19, 3) := by decide +kernel
theorem dX6_solve_193 : decode cX6_solve 193 = .ok (.iload 9, 2) := by decide +kernel
theorem dX6_solve_195 : decode cX6_solve 195 = .ok (.sipush 3000, 3) := by decide +kernel
theorem dX6_solve_198 : decode cX6_solve 198 = .ok (.if_icmp .le 9, 3) := by decide +kernel
theorem dX6_solve_201 : decode cX6_solve 201 = .ok (.sipush 3000, 3) := by decide +kernel
theorem dX6_solve_204 : decode cX6_solve 204 = .ok (.goto 5, 3) := by decide +kernel
theorem dX6_solve_207 : decode cX6_solve 207 = .ok (.iload 9, 2) := by decide +kernel
theorem dX6_solve_209 : decode cX6_solve 209 = .ok (.iastore, 1) := by decide +kernel
theorem dX6_solve_210 : decode cX6_solve 210 = .ok (.iload 6, 2) := by decide +kernel
theorem dX6_solve_212 : decode cX6_solve 212 = .ok (.ireturn, 1) := by decide +kernel
theorem dX6_offered_0 : decode cX6_offered 0 = .ok (.aload_n 0, 1) := by decide +kernel
theorem dX6_offered_1 : decode cX6_offered 1 = .ok (.aload_n 0, 1) := by decide +kernel
theorem dX6_offered_2 : decode cX6_offered 2 = .ok (.iload_n 1, 1) := by decide +kernel
theorem dX6_offered_3 : decode cX6_offered 3 = .ok (.invokevirtual 102, 3) := by decide +kernel
theorem dX6_offered_6 : decode cX6_offered 6 = .ok (.iconst 1, 1) := by decide +kernel
theorem dX6_offered_7 : decode cX6_offered 7 = .ok (.iconst 1, 1) := by decide +kernel
theorem dX6_offered_8 : decode cX6_offered 8 = .ok (.invokevirtual 91, 3) := by decide +kernel
theorem dX6_offered_11 : decode cX6_offered 11 = .ok (.ifCond .ne 5, 3) := by decide +kernel
theorem dX6_offered_14 : decode cX6_offered 14 = .ok (.iconst 0, 1) := by decide +kernel
theorem dX6_offered_15 : decode cX6_offered 15 = .ok (.ireturn, 1) := by decide +kernel
theorem dX6_offered_16 : decode cX6_offered 16 = .ok (.iconst (-1), 1) := by decide +kernel
theorem dX6_offered_17 : decode cX6_offered 17 = .ok (.istore_n 2, 1) := by decide +kernel
theorem dX6_offered_18 : decode cX6_offered 18 = .ok (.iconst 0, 1) := by decide +kernel
theorem dX6_offered_19 : decode cX6_offered 19 = .ok (.istore_n 3, 1) := by decide +kernel
theorem dX6_offered_20 : decode cX6_offered 20 = .ok (.iload_n 3, 1) := by decide +kernel
theorem dX6_offered_21 : decode cX6_offered 21 = .ok (.aload_n 0, 1) := by decide +kernel
theorem dX6_offered_22 : decode cX6_offered 22 = .ok (.getfield 70, 3) := by decide +kernel
theorem dX6_offered_25 : decode cX6_offered 25 = .ok (.if_icmp .ge 121, 3) := by decide +kernel
theorem dX6_offered_28 : decode cX6_offered 28 = .ok (.aload_n 0, 1) := by decide +kernel
theorem dX6_offered_29 : decode cX6_offered 29 = .ok (.getfield 38, 3) := by decide +kernel
theorem dX6_offered_32 : decode cX6_offered 32 = .ok (.iload_n 3, 1) := by decide +kernel
theorem dX6_offered_33 : decode cX6_offered 33 = .ok (.iaload, 1) := by decide +kernel
theorem dX6_offered_34 : decode cX6_offered 34 = .ok (.iconst 5, 1) := by decide +kernel
theorem dX6_offered_35 : decode cX6_offered 35 = .ok (.irem, 1) := by decide +kernel
theorem dX6_offered_36 : decode cX6_offered 36 = .ok (.istore 4, 2) := by decide +kernel
theorem dX6_offered_38 : decode cX6_offered 38 = .ok (.iload_n 2, 1) := by decide +kernel
theorem dX6_offered_39 : decode cX6_offered 39 = .ok (.iconst (-1), 1) := by decide +kernel
theorem dX6_offered_40 : decode cX6_offered 40 = .ok (.if_icmp .ne 7, 3) := by decide +kernel
theorem dX6_offered_43 : decode cX6_offered 43 = .ok (.iconst 0, 1) := by decide +kernel
theorem dX6_offered_44 : decode cX6_offered 44 = .ok (.goto 11, 3) := by decide +kernel
theorem dX6_offered_47 : decode cX6_offered 47 = .ok (.aload_n 0, 1) := by decide +kernel
theorem dX6_offered_48 : decode cX6_offered 48 = .ok (.getfield 38, 3) := by decide +kernel
theorem dX6_offered_51 : decode cX6_offered 51 = .ok (.iload_n 2, 1) := by decide +kernel
theorem dX6_offered_52 : decode cX6_offered 52 = .ok (.iaload, 1) := by decide +kernel
theorem dX6_offered_53 : decode cX6_offered 53 = .ok (.iconst 5, 1) := by decide +kernel
theorem dX6_offered_54 : decode cX6_offered 54 = .ok (.irem, 1) := by decide +kernel
theorem dX6_offered_55 : decode cX6_offered 55 = .ok (.istore 5, 2) := by decide +kernel
theorem dX6_offered_57 : decode cX6_offered 57 = .ok (.iload_n 2, 1) := by decide +kernel
theorem dX6_offered_58 : decode cX6_offered 58 = .ok (.iconst (-1), 1) := by decide +kernel
theorem dX6_offered_59 : decode cX6_offered 59 = .ok (.if_icmp .ne 7, 3) := by decide +kernel
theorem dX6_offered_62 : decode cX6_offered 62 = .ok (.iconst 1, 1) := by decide +kernel
theorem dX6_offered_63 : decode cX6_offered 63 = .ok (.goto 26, 3) := by decide +kernel
theorem dX6_offered_66 : decode cX6_offered 66 = .ok (.aload_n 0, 1) := by decide +kernel
theorem dX6_offered_67 : decode cX6_offered 67 = .ok (.getfield 16, 3) := by decide +kernel
theorem dX6_offered_70 : decode cX6_offered 70 = .ok (.iconst 5, 1) := by decide +kernel
theorem dX6_offered_71 : decode cX6_offered 71 = .ok (.iload_n 1, 1) := by decide +kernel
theorem dX6_offered_72 : decode cX6_offered 72 = .ok (.imul, 1) := by decide +kernel
theorem dX6_offered_73 : decode cX6_offered 73 = .ok (.iload 5, 2) := by decide +kernel
theorem dX6_offered_75 : decode cX6_offered 75 = .ok (.iadd, 1) := by decide +kernel
theorem dX6_offered_76 : decode cX6_offered 76 = .ok (.iaload, 1) := by decide +kernel
theorem dX6_offered_77 : decode cX6_offered 77 = .ok (.aload_n 0, 1) := by decide +kernel
theorem dX6_offered_78 : decode cX6_offered 78 = .ok (.getfield 16, 3) := by decide +kernel
theorem dX6_offered_81 : decode cX6_offered 81 = .ok (.iconst 5, 1) := by decide +kernel
theorem dX6_offered_82 : decode cX6_offered 82 = .ok (.iload_n 1, 1) := by decide +kernel
theorem dX6_offered_83 : decode cX6_offered 83 = .ok (.imul, 1) := by decide +kernel
theorem dX6_offered_84 : decode cX6_offered 84 = .ok (.iload 4, 2) := by decide +kernel
theorem dX6_offered_86 : decode cX6_offered 86 = .ok (.iadd, 1) := by decide +kernel
theorem dX6_offered_87 : decode cX6_offered 87 = .ok (.iaload, 1) := by decide +kernel
theorem dX6_offered_88 : decode cX6_offered 88 = .ok (.isub, 1) := by decide +kernel
theorem dX6_offered_89 : decode cX6_offered 89 = .ok (.istore 6, 2) := by decide +kernel
theorem dX6_offered_91 : decode cX6_offered 91 = .ok (.aload_n 0, 1) := by decide +kernel
theorem dX6_offered_92 : decode cX6_offered 92 = .ok (.getfield 19, 3) := by decide +kernel
theorem dX6_offered_95 : decode cX6_offered 95 = .ok (.bipush 40, 2) := by decide +kernel
theorem dX6_offered_97 : decode cX6_offered 97 = .ok (.iload_n 1, 1) := by decide +kernel
theorem dX6_offered_98 : decode cX6_offered 98 = .ok (.imul, 1) := by decide +kernel
theorem dX6_offered_99 : decode cX6_offered 99 = .ok (.iload_n 3, 1) := by decide +kernel
theorem dX6_offered_100 : decode cX6_offered 100 = .ok (.iadd, 1) := by decide +kernel
theorem dX6_offered_101 : decode cX6_offered 101 = .ok (.baload, 1) := by decide +kernel
theorem dX6_offered_102 : decode cX6_offered 102 = .ok (.ifCond .ne 24, 3) := by decide +kernel
theorem dX6_offered_105 : decode cX6_offered 105 = .ok (.iload 6, 2) := by decide +kernel
theorem dX6_offered_107 : decode cX6_offered 107 = .ok (.ifCond .gt 15, 3) := by decide +kernel
theorem dX6_offered_110 : decode cX6_offered 110 = .ok (.iload 6, 2) := by decide +kernel
theorem dX6_offered_112 : decode cX6_offered 112 = .ok (.ifCond .ne 14, 3) := by decide +kernel
theorem dX6_offered_115 : decode cX6_offered 115 = .ok (.iload 4, 2) := by decide +kernel
theorem dX6_offered_117 : decode cX6_offered 117 = .ok (.iload 5, 2) := by decide +kernel
theorem dX6_offered_119 : decode cX6_offered 119 = .ok (.if_icmp .ge 7, 3) := by decide +kernel
theorem dX6_offered_122 : decode cX6_offered 122 = .ok (.iconst 1, 1) := by decide +kernel
theorem dX6_offered_123 : decode cX6_offered 123 = .ok (.goto 4, 3) := by decide +kernel
theorem dX6_offered_126 : decode cX6_offered 126 = .ok (.iconst 0, 1) := by decide +kernel
theorem dX6_offered_127 : decode cX6_offered 127 = .ok (.istore 7, 2) := by decide +kernel
theorem dX6_offered_129 : decode cX6_offered 129 = .ok (.iload 7, 2) := by decide +kernel
theorem dX6_offered_131 : decode cX6_offered 131 = .ok (.ifCond .eq 7, 3) := by decide +kernel
theorem dX6_offered_134 : decode cX6_offered 134 = .ok (.iload_n 3, 1) := by decide +kernel
theorem dX6_offered_135 : decode cX6_offered 135 = .ok (.goto 4, 3) := by decide +kernel
theorem dX6_offered_138 : decode cX6_offered 138 = .ok (.iload_n 2, 1) := by decide +kernel
theorem dX6_offered_139 : decode cX6_offered 139 = .ok (.istore_n 2, 1) := by decide +kernel
theorem dX6_offered_140 : decode cX6_offered 140 = .ok (.iinc 3 1, 3) := by decide +kernel
theorem dX6_offered_143 : decode cX6_offered 143 = .ok (.goto (-123), 3) := by decide +kernel
theorem dX6_offered_146 : decode cX6_offered 146 = .ok (.iload_n 2, 1) := by decide +kernel
theorem dX6_offered_147 : decode cX6_offered 147 = .ok (.ireturn, 1) := by decide +kernel
theorem dX6_rating_0 : decode cX6_rating 0 = .ok (.aload_n 0, 1) := by decide +kernel
theorem dX6_rating_1 : decode cX6_rating 1 = .ok (.aload_n 0, 1) := by decide +kernel
theorem dX6_rating_2 : decode cX6_rating 2 = .ok (.iload_n 1, 1) := by decide +kernel
theorem dX6_rating_3 : decode cX6_rating 3 = .ok (.invokevirtual 102, 3) := by decide +kernel
theorem dX6_rating_6 : decode cX6_rating 6 = .ok (.iload_n 2, 1) := by decide +kernel
theorem dX6_rating_7 : decode cX6_rating 7 = .ok (.iconst 0, 1) := by decide +kernel
theorem dX6_rating_8 : decode cX6_rating 8 = .ok (.iconst 4, 1) := by decide +kernel
theorem dX6_rating_9 : decode cX6_rating 9 = .ok (.invokestatic 63, 3) := by decide +kernel
theorem dX6_rating_12 : decode cX6_rating 12 = .ok (.iconst 1, 1) := by decide +kernel
theorem dX6_rating_13 : decode cX6_rating 13 = .ok (.invokevirtual 91, 3) := by decide +kernel
theorem dX6_rating_16 : decode cX6_rating 16 = .ok (.ifCond .eq 16, 3) := by decide +kernel
theorem dX6_rating_19 : decode cX6_rating 19 = .ok (.aload_n 0, 1) := by decide +kernel
theorem dX6_rating_20 : decode cX6_rating 20 = .ok (.getfield 16, 3) := by decide +kernel
theorem dX6_rating_23 : decode cX6_rating 23 = .ok (.iconst 5, 1) := by decide +kernel
theorem dX6_rating_24 : decode cX6_rating 24 = .ok (.iload_n 1, 1) := by decide +kernel
theorem dX6_rating_25 : decode cX6_rating 25 = .ok (.imul, 1) := by decide +kernel
theorem dX6_rating_26 : decode cX6_rating 26 = .ok (.iload_n 2, 1) := by decide +kernel
theorem dX6_rating_27 : decode cX6_rating 27 = .ok (.iadd, 1) := by decide +kernel
theorem dX6_rating_28 : decode cX6_rating 28 = .ok (.iaload, 1) := by decide +kernel
theorem dX6_rating_29 : decode cX6_rating 29 = .ok (.goto 4, 3) := by decide +kernel
theorem dX6_rating_32 : decode cX6_rating 32 = .ok (.iconst 0, 1) := by decide +kernel
theorem dX6_rating_33 : decode cX6_rating 33 = .ok (.ireturn, 1) := by decide +kernel
theorem dX6_asks_0 : decode cX6_asks 0 = .ok (.aload_n 0, 1) := by decide +kernel
theorem dX6_asks_1 : decode cX6_asks 1 = .ok (.iload_n 2, 1) := by decide +kernel
theorem dX6_asks_2 : decode cX6_asks 2 = .ok (.iconst 1, 1) := by decide +kernel
theorem dX6_asks_3 : decode cX6_asks 3 = .ok (.bipush 6, 2) := by decide +kernel
theorem dX6_asks_5 : decode cX6_asks 5 = .ok (.invokestatic 63, 3) := by decide +kernel
theorem dX6_asks_8 : decode cX6_asks 8 = .ok (.ifCond .eq 20, 3) := by decide +kernel
theorem dX6_asks_11 : decode cX6_asks 11 = .ok (.iload_n 1, 1) := by decide +kernel
theorem dX6_asks_12 : decode cX6_asks 12 = .ok (.ifCond .lt 16, 3) := by decide +kernel
theorem dX6_asks_15 : decode cX6_asks 15 = .ok (.iload_n 1, 1) := by decide +kernel
theorem dX6_asks_16 : decode cX6_asks 16 = .ok (.iconst 1, 1) := by decide +kernel
theorem dX6_asks_17 : decode cX6_asks 17 = .ok (.iconst 2, 1) := by decide +kernel
theorem dX6_asks_18 : decode cX6_asks 18 = .ok (.iload_n 2, 1) := by decide +kernel
theorem dX6_asks_19 : decode cX6_asks 19 = .ok (.imul, 1) := by decide +kernel
theorem dX6_asks_20 : decode cX6_asks 20 = .ok (.ishl, 1) := by decide +kernel
theorem dX6_asks_21 : decode cX6_asks 21 = .ok (.if_icmp .ge 7, 3) := by decide +kernel
theorem dX6_asks_24 : decode cX6_asks 24 = .ok (.iconst 1, 1) := by decide +kernel
theorem dX6_asks_25 : decode cX6_asks 25 = .ok (.goto 4, 3) := by decide +kernel
theorem dX6_asks_28 : decode cX6_asks 28 = .ok (.iconst 0, 1) := by decide +kernel
theorem dX6_asks_29 : decode cX6_asks 29 = .ok (.iconst 1, 1) := by decide +kernel
theorem dX6_asks_30 : decode cX6_asks 30 = .ok (.iconst 1, 1) := by decide +kernel
theorem dX6_asks_31 : decode cX6_asks 31 = .ok (.invokevirtual 91, 3) := by decide +kernel
theorem dX6_asks_34 : decode cX6_asks 34 = .ok (.ireturn, 1) := by decide +kernel
theorem dX6_results_0 : decode cX6_results 0 = .ok (.aload_n 0, 1) := by decide +kernel
theorem dX6_results_1 : decode cX6_results 1 = .ok (.iload_n 1, 1) := by decide +kernel
theorem dX6_results_2 : decode cX6_results 2 = .ok (.iload_n 2, 1) := by decide +kernel
theorem dX6_results_3 : decode cX6_results 3 = .ok (.invokevirtual 141, 3) := by decide +kernel
theorem dX6_results_6 : decode cX6_results 6 = .ok (.ifCond .eq 17, 3) := by decide +kernel
theorem dX6_results_9 : decode cX6_results 9 = .ok (.aload_n 0, 1) := by decide +kernel
theorem dX6_results_10 : decode cX6_results 10 = .ok (.getfield 44, 3) := by decide +kernel
theorem dX6_results_13 : decode cX6_results 13 = .ok (.iload_n 2, 1) := by decide +kernel
theorem dX6_results_14 : decode cX6_results 14 = .ok (.invokestatic 115, 3) := by decide +kernel
theorem dX6_results_17 : decode cX6_results 17 = .ok (.iload_n 1, 1) := by decide +kernel
theorem dX6_results_18 : decode cX6_results 18 = .ok (.iadd, 1) := by decide +kernel
theorem dX6_results_19 : decode cX6_results 19 = .ok (.iaload, 1) := by decide +kernel
theorem dX6_results_20 : decode cX6_results 20 = .ok (.goto 4, 3) := by decide +kernel
theorem dX6_results_23 : decode cX6_results 23 = .ok (.iconst 0, 1) := by decide +kernel
theorem dX6_results_24 : decode cX6_results 24 = .ok (.ireturn, 1) := by decide +kernel
theorem dX6_points_0 : decode cX6_points 0 = .ok (.aload_n 0, 1) := by decide +kernel
theorem dX6_points_1 : decode cX6_points 1 = .ok (.iload_n 1, 1) := by decide +kernel
theorem dX6_points_2 : decode cX6_points 2 = .ok (.iload_n 2, 1) := by decide +kernel
theorem dX6_points_3 : decode cX6_points 3 = .ok (.invokevirtual 141, 3) := by decide +kernel
theorem dX6_points_6 : decode cX6_points 6 = .ok (.ifCond .eq 17, 3) := by decide +kernel
theorem dX6_points_9 : decode cX6_points 9 = .ok (.aload_n 0, 1) := by decide +kernel
theorem dX6_points_10 : decode cX6_points 10 = .ok (.getfield 47, 3) := by decide +kernel
theorem dX6_points_13 : decode cX6_points 13 = .ok (.iload_n 2, 1) := by decide +kernel
theorem dX6_points_14 : decode cX6_points 14 = .ok (.invokestatic 115, 3) := by decide +kernel
theorem dX6_points_17 : decode cX6_points 17 = .ok (.iload_n 1, 1) := by decide +kernel
theorem dX6_points_18 : decode cX6_points 18 = .ok (.iadd, 1) := by decide +kernel
theorem dX6_points_19 : decode cX6_points 19 = .ok (.iaload, 1) := by decide +kernel
theorem dX6_points_20 : decode cX6_points 20 = .ok (.goto 4, 3) := by decide +kernel
theorem dX6_points_23 : decode cX6_points 23 = .ok (.iconst 0, 1) := by decide +kernel
theorem dX6_points_24 : decode cX6_points 24 = .ok (.ireturn, 1) := by decide +kernel
theorem dX6_isDropped_0 : decode cX6_isDropped 0 = .ok (.aload_n 0, 1) := by decide +kernel
theorem dX6_isDropped_1 : decode cX6_isDropped 1 = .ok (.iload_n 1, 1) := by decide +kernel
theorem dX6_isDropped_2 : decode cX6_isDropped 2 = .ok (.iload_n 2, 1) := by decide +kernel
theorem dX6_isDropped_3 : decode cX6_isDropped 3 = .ok (.invokevirtual 141, 3) := by decide +kernel
theorem dX6_isDropped_6 : decode cX6_isDropped 6 = .ok (.ifCond .eq 16, 3) := by decide +kernel
theorem dX6_isDropped_9 : decode cX6_isDropped 9 = .ok (.aload_n 0, 1) := by decide +kernel
theorem dX6_isDropped_10 : decode cX6_isDropped 10 = .ok (.iload_n 1, 1) := by decide +kernel
theorem dX6_isDropped_11 : decode cX6_isDropped 11 = .ok (.iload_n 2, 1) := by decide +kernel
theorem dX6_isDropped_12 : decode cX6_isDropped 12 = .ok (.invokevirtual 121, 3) := by decide +kernel
theorem dX6_isDropped_15 : decode cX6_isDropped 15 = .ok (.ifCond .eq 7, 3) := by decide +kernel
theorem dX6_isDropped_18 : decode cX6_isDropped 18 = .ok (.iconst 1, 1) := by decide +kernel
theorem dX6_isDropped_19 : decode cX6_isDropped 19 = .ok (.goto 4, 3) := by decide +kernel
theorem dX6_isDropped_22 : decode cX6_isDropped 22 = .ok (.iconst 0, 1) := by decide +kernel
theorem dX6_isDropped_23 : decode cX6_isDropped 23 = .ok (.ireturn, 1) := by decide +kernel
theorem dX6_pointsOfGames_0 : decode cX6_pointsOfGames 0 = .ok (.iconst 0, 1) := by decide +kernel
theorem dX6_pointsOfGames_1 : decode cX6_pointsOfGames 1 = .ok (.istore_n 3, 1) := by decide +kernel
theorem dX6_pointsOfGames_2 : decode cX6_pointsOfGames 2 = .ok (.aload_n 0, 1) := by decide +kernel
theorem dX6_pointsOfGames_3 : decode cX6_pointsOfGames 3 = .ok (.iload_n 1, 1) := by decide +kernel
theorem dX6_pointsOfGames_4 : decode cX6_pointsOfGames 4 = .ok (.iload_n 2, 1) := by decide +kernel
theorem dX6_pointsOfGames_5 : decode cX6_pointsOfGames 5 = .ok (.invokevirtual 141, 3) := by decide +kernel
theorem dX6_pointsOfGames_8 : decode cX6_pointsOfGames 8 = .ok (.istore 4, 2) := by decide +kernel
theorem dX6_pointsOfGames_10 : decode cX6_pointsOfGames 10 = .ok (.iconst 0, 1) := by decide +kernel
theorem dX6_pointsOfGames_11 : decode cX6_pointsOfGames 11 = .ok (.istore 5, 2) := by decide +kernel
theorem dX6_pointsOfGames_13 : decode cX6_pointsOfGames 13 = .ok (.iload 5, 2) := by decide +kernel
theorem dX6_pointsOfGames_15 : decode cX6_pointsOfGames 15 = .ok (.aload_n 0, 1) := by decide +kernel
theorem dX6_pointsOfGames_16 : decode cX6_pointsOfGames 16 = .ok (.invokevirtual 134, 3) := by decide +kernel
theorem dX6_pointsOfGames_19 : decode cX6_pointsOfGames 19 = .ok (.if_icmp .ge 50, 3) := by decide +kernel
theorem dX6_pointsOfGames_22 : decode cX6_pointsOfGames 22 = .ok (.iload 4, 2) := by decide +kernel
theorem dX6_pointsOfGames_24 : decode cX6_pointsOfGames 24 = .ok (.ifCond .eq 45, 3) := by decide +kernel
theorem dX6_pointsOfGames_27 : decode cX6_pointsOfGames 27 = .ok (.iload_n 3, 1) := by decide +kernel
theorem dX6_pointsOfGames_28 : decode cX6_pointsOfGames 28 = .ok (.aload_n 0, 1) := by decide +kernel
theorem dX6_pointsOfGames_29 : decode cX6_pointsOfGames 29 = .ok (.getfield 29, 3) := by decide +kernel
theorem dX6_pointsOfGames_32 : decode cX6_pointsOfGames 32 = .ok (.iload 5, 2) := by decide +kernel
theorem dX6_pointsOfGames_34 : decode cX6_pointsOfGames 34 = .ok (.iaload, 1) := by decide +kernel
theorem dX6_pointsOfGames_35 : decode cX6_pointsOfGames 35 = .ok (.iload_n 2, 1) := by decide +kernel
theorem dX6_pointsOfGames_36 : decode cX6_pointsOfGames 36 = .ok (.if_icmp .lt 24, 3) := by decide +kernel
theorem dX6_pointsOfGames_39 : decode cX6_pointsOfGames 39 = .ok (.aload_n 0, 1) := by decide +kernel
theorem dX6_pointsOfGames_40 : decode cX6_pointsOfGames 40 = .ok (.iload 5, 2) := by decide +kernel
theorem dX6_pointsOfGames_42 : decode cX6_pointsOfGames 42 = .ok (.iload_n 2, 1) := by decide +kernel
theorem dX6_pointsOfGames_43 : decode cX6_pointsOfGames 43 = .ok (.invokevirtual 118, 3) := by decide +kernel
theorem dX6_pointsOfGames_46 : decode cX6_pointsOfGames 46 = .ok (.iload_n 1, 1) := by decide +kernel
theorem dX6_pointsOfGames_47 : decode cX6_pointsOfGames 47 = .ok (.if_icmp .ne 13, 3) := by decide +kernel
theorem dX6_pointsOfGames_50 : decode cX6_pointsOfGames 50 = .ok (.aload_n 0, 1) := by decide +kernel
theorem dX6_pointsOfGames_51 : decode cX6_pointsOfGames 51 = .ok (.getfield 32, 3) := by decide +kernel
theorem dX6_pointsOfGames_54 : decode cX6_pointsOfGames 54 = .ok (.iload 5, 2) := by decide +kernel
theorem dX6_pointsOfGames_56 : decode cX6_pointsOfGames 56 = .ok (.iaload, 1) := by decide +kernel
theorem dX6_pointsOfGames_57 : decode cX6_pointsOfGames 57 = .ok (.goto 4, 3) := by decide +kernel
theorem dX6_pointsOfGames_60 : decode cX6_pointsOfGames 60 = .ok (.iconst 0, 1) := by decide +kernel
theorem dX6_pointsOfGames_61 : decode cX6_pointsOfGames 61 = .ok (.iadd, 1) := by decide +kernel
theorem dX6_pointsOfGames_62 : decode cX6_pointsOfGames 62 = .ok (.istore_n 3, 1) := by decide +kernel
theorem dX6_pointsOfGames_63 : decode cX6_pointsOfGames 63 = .ok (.iinc 5 1, 3) := by decide +kernel
theorem dX6_pointsOfGames_66 : decode cX6_pointsOfGames 66 = .ok (.goto (-53), 3) := by decide +kernel
theorem dX6_pointsOfGames_69 : decode cX6_pointsOfGames 69 = .ok (.iload_n 3, 1) := by decide +kernel
theorem dX6_pointsOfGames_70 : decode cX6_pointsOfGames 70 = .ok (.ireturn, 1) := by decide +kernel
theorem dX6_mean_0 : decode cX6_mean 0 = .ok (.aload_n 0, 1) := by decide +kernel
theorem dX6_mean_1 : decode cX6_mean 1 = .ok (.iload_n 1, 1) := by decide +kernel
theorem dX6_mean_2 : decode cX6_mean 2 = .ok (.iload_n 2, 1) := by decide +kernel
theorem dX6_mean_3 : decode cX6_mean 3 = .ok (.invokevirtual 141, 3) := by decide +kernel
theorem dX6_mean_6 : decode cX6_mean 6 = .ok (.ifCond .ne 5, 3) := by decide +kernel
theorem dX6_mean_9 : decode cX6_mean 9 = .ok (.fconst 0, 1) := by decide +kernel
theorem dX6_mean_10 : decode cX6_mean 10 = .ok (.freturn, 1) := by decide +kernel
theorem dX6_mean_11 : decode cX6_mean 11 = .ok (.iload_n 2, 1) := by decide +kernel
theorem dX6_mean_12 : decode cX6_mean 12 = .ok (.invokestatic 115, 3) := by decide +kernel
theorem dX6_mean_15 : decode cX6_mean 15 = .ok (.iload_n 1, 1) := by decide +kernel
theorem dX6_mean_16 : decode cX6_mean 16 = .ok (.iadd, 1) := by decide +kernel
theorem dX6_mean_17 : decode cX6_mean 17 = .ok (.istore_n 3, 1) := by decide +kernel
theorem dX6_mean_18 : decode cX6_mean 18 = .ok (.aload_n 0, 1) := by decide +kernel
theorem dX6_mean_19 : decode cX6_mean 19 = .ok (.getfield 44, 3) := by decide +kernel
theorem dX6_mean_22 : decode cX6_mean 22 = .ok (.iload_n 3, 1) := by decide +kernel
theorem dX6_mean_23 : decode cX6_mean 23 = .ok (.iaload, 1) := by decide +kernel
theorem dX6_mean_24 : decode cX6_mean 24 = .ok (.ifCond .ne 7, 3) := by decide +kernel
theorem dX6_mean_27 : decode cX6_mean 27 = .ok (.fconst 0, 1) := by decide +kernel
theorem dX6_mean_28 : decode cX6_mean 28 = .ok (.goto 18, 3) := by decide +kernel
theorem dX6_mean_31 : decode cX6_mean 31 = .ok (.aload_n 0, 1) := by decide +kernel
theorem dX6_mean_32 : decode cX6_mean 32 = .ok (.getfield 47, 3) := by decide +kernel
theorem dX6_mean_35 : decode cX6_mean 35 = .ok (.iload_n 3, 1) := by decide +kernel
theorem dX6_mean_36 : decode cX6_mean 36 = .ok (.iaload, 1) := by decide +kernel
theorem dX6_mean_37 : decode cX6_mean 37 = .ok (.i2f, 1) := by decide +kernel
theorem dX6_mean_38 : decode cX6_mean 38 = .ok (.aload_n 0, 1) := by decide +kernel
theorem dX6_mean_39 : decode cX6_mean 39 = .ok (.getfield 44, 3) := by decide +kernel
theorem dX6_mean_42 : decode cX6_mean 42 = .ok (.iload_n 3, 1) := by decide +kernel
theorem dX6_mean_43 : decode cX6_mean 43 = .ok (.iaload, 1) := by decide +kernel
theorem dX6_mean_44 : decode cX6_mean 44 = .ok (.i2f, 1) := by decide +kernel
theorem dX6_mean_45 : decode cX6_mean 45 = .ok (.fdiv, 1) := by decide +kernel
theorem dX6_mean_46 : decode cX6_mean 46 = .ok (.freturn, 1) := by decide +kernel
theorem dX6_havePlayed_0 : decode cX6_havePlayed 0 = .ok (.iconst 0, 1) := by decide +kernel
theorem dX6_havePlayed_1 : decode cX6_havePlayed 1 = .ok (.istore_n 3, 1) := by decide +kernel
theorem dX6_havePlayed_2 : decode cX6_havePlayed 2 = .ok (.iconst 0, 1) := by decide +kernel
theorem dX6_havePlayed_3 : decode cX6_havePlayed 3 = .ok (.istore 4, 2) := by decide +kernel
theorem dX6_havePlayed_5 : decode cX6_havePlayed 5 = .ok (.iload 4, 2) := by decide +kernel
theorem dX6_havePlayed_7 : decode cX6_havePlayed 7 = .ok (.aload_n 0, 1) := by decide +kernel
theorem dX6_havePlayed_8 : decode cX6_havePlayed 8 = .ok (.invokevirtual 134, 3) := by decide +kernel
theorem dX6_havePlayed_11 : decode cX6_havePlayed 11 = .ok (.if_icmp .ge 63, 3) := by decide +kernel
theorem dX6_havePlayed_14 : decode cX6_havePlayed 14 = .ok (.iload_n 3, 1) := by decide +kernel
theorem dX6_havePlayed_15 : decode cX6_havePlayed 15 = .ok (.ifCond .ne 47, 3) := by decide +kernel
theorem dX6_havePlayed_18 : decode cX6_havePlayed 18 = .ok (.aload_n 0, 1) := by decide +kernel
theorem dX6_havePlayed_19 : decode cX6_havePlayed 19 = .ok (.getfield 23, 3) := by decide +kernel
theorem dX6_havePlayed_22 : decode cX6_havePlayed 22 = .ok (.iload 4, 2) := by decide +kernel
theorem dX6_havePlayed_24 : decode cX6_havePlayed 24 = .ok (.iaload, 1) := by decide +kernel
theorem dX6_havePlayed_25 : decode cX6_havePlayed 25 = .ok (.iload_n 1, 1) := by decide +kernel
theorem dX6_havePlayed_26 : decode cX6_havePlayed 26 = .ok (.if_icmp .ne 14, 3) := by decide +kernel
theorem dX6_havePlayed_29 : decode cX6_havePlayed 29 = .ok (.aload_n 0, 1) := by decide +kernel
theorem dX6_havePlayed_30 : decode cX6_havePlayed 30 = .ok (.getfield 26, 3) := by decide +kernel
theorem dX6_havePlayed_33 : decode cX6_havePlayed 33 = .ok (.iload 4, 2) := by decide +kernel
theorem dX6_havePlayed_35 : decode cX6_havePlayed 35 = .ok (.iaload, 1) := by decide +kernel
theorem dX6_havePlayed_36 : decode cX6_havePlayed 36 = .ok (.iload_n 2, 1) := by decide +kernel
theorem dX6_havePlayed_37 : decode cX6_havePlayed 37 = .ok (.if_icmp .eq 25, 3) := by decide +kernel
theorem dX6_havePlayed_40 : decode cX6_havePlayed 40 = .ok (.aload_n 0, 1) := by decide +kernel
theorem dX6_havePlayed_41 : decode cX6_havePlayed 41 = .ok (.getfield 23, 3) := by decide +kernel
theorem dX6_havePlayed_44 : decode cX6_havePlayed 44 = .ok (.iload 4, 2) := by decide +kernel
theorem dX6_havePlayed_46 : decode cX6_havePlayed 46 = .ok (.iaload, 1) := by decide +kernel
theorem dX6_havePlayed_47 : decode cX6_havePlayed 47 = .ok (.iload_n 2, 1) := by decide +kernel
theorem dX6_havePlayed_48 : decode cX6_havePlayed 48 = .ok (.if_icmp .ne 18, 3) := by decide +kernel
theorem dX6_havePlayed_51 : decode cX6_havePlayed 51 = .ok (.aload_n 0, 1) := by decide +kernel
theorem dX6_havePlayed_52 : decode cX6_havePlayed 52 = .ok (.getfield 26, 3) := by decide +kernel
theorem dX6_havePlayed_55 : decode cX6_havePlayed 55 = .ok (.iload 4, 2) := by decide +kernel
theorem dX6_havePlayed_57 : decode cX6_havePlayed 57 = .ok (.iaload, 1) := by decide +kernel
theorem dX6_havePlayed_58 : decode cX6_havePlayed 58 = .ok (.iload_n 1, 1) := by decide +kernel
theorem dX6_havePlayed_59 : decode cX6_havePlayed 59 = .ok (.if_icmp .ne 7, 3) := by decide +kernel
theorem dX6_havePlayed_62 : decode cX6_havePlayed 62 = .ok (.iconst 1, 1) := by decide +kernel
theorem dX6_havePlayed_63 : decode cX6_havePlayed 63 = .ok (.goto 4, 3) := by decide +kernel
theorem dX6_havePlayed_66 : decode cX6_havePlayed 66 = .ok (.iconst 0, 1) := by decide +kernel
theorem dX6_havePlayed_67 : decode cX6_havePlayed 67 = .ok (.istore_n 3, 1) := by decide +kernel
theorem dX6_havePlayed_68 : decode cX6_havePlayed 68 = .ok (.iinc 4 1, 3) := by decide +kernel
theorem dX6_havePlayed_71 : decode cX6_havePlayed 71 = .ok (.goto (-66), 3) := by decide +kernel
theorem dX6_havePlayed_74 : decode cX6_havePlayed 74 = .ok (.iload_n 3, 1) := by decide +kernel
theorem dX6_havePlayed_75 : decode cX6_havePlayed 75 = .ok (.ireturn, 1) := by decide +kernel
theorem dX6_sorts_0 : decode cX6_sorts 0 = .ok (.iconst 0, 1) := by decide +kernel
theorem dX6_sorts_1 : decode cX6_sorts 1 = .ok (.istore_n 1, 1) := by decide +kernel
theorem dX6_sorts_2 : decode cX6_sorts 2 = .ok (.iload_n 1, 1) := by decide +kernel
theorem dX6_sorts_3 : decode cX6_sorts 3 = .ok (.aload_n 0, 1) := by decide +kernel
theorem dX6_sorts_4 : decode cX6_sorts 4 = .ok (.getfield 67, 3) := by decide +kernel
theorem dX6_sorts_7 : decode cX6_sorts 7 = .ok (.if_icmp .ge 84, 3) := by decide +kernel
theorem dX6_sorts_10 : decode cX6_sorts 10 = .ok (.iconst 0, 1) := by decide +kernel
theorem dX6_sorts_11 : decode cX6_sorts 11 = .ok (.istore_n 2, 1) := by decide +kernel
theorem dX6_sorts_12 : decode cX6_sorts 12 = .ok (.iconst 0, 1) := by decide +kernel
theorem dX6_sorts_13 : decode cX6_sorts 13 = .ok (.istore_n 3, 1) := by decide +kernel
theorem dX6_sorts_14 : decode cX6_sorts 14 = .ok (.iload_n 3, 1) := by decide +kernel
theorem dX6_sorts_15 : decode cX6_sorts 15 = .ok (.aload_n 0, 1) := by decide +kernel
theorem dX6_sorts_16 : decode cX6_sorts 16 = .ok (.getfield 67, 3) := by decide +kernel
theorem dX6_sorts_19 : decode cX6_sorts 19 = .ok (.if_icmp .ge 52, 3) := by decide +kernel
theorem dX6_sorts_22 : decode cX6_sorts 22 = .ok (.iload_n 2, 1) := by decide +kernel
theorem dX6_sorts_23 : decode cX6_sorts 23 = .ok (.aload_n 0, 1) := by decide +kernel
theorem dX6_sorts_24 : decode cX6_sorts 24 = .ok (.getfield 7, 3) := by decide +kernel
theorem dX6_sorts_27 : decode cX6_sorts 27 = .ok (.iload_n 3, 1) := by decide +kernel
theorem dX6_sorts_28 : decode cX6_sorts 28 = .ok (.iaload, 1) := by decide +kernel
theorem dX6_sorts_29 : decode cX6_sorts 29 = .ok (.aload_n 0, 1) := by decide +kernel
theorem dX6_sorts_30 : decode cX6_sorts 30 = .ok (.getfield 7, 3) := by decide +kernel
theorem dX6_sorts_33 : decode cX6_sorts 33 = .ok (.iload_n 1, 1) := by decide +kernel
theorem dX6_sorts_34 : decode cX6_sorts 34 = .ok (.iaload, 1) := by decide +kernel
theorem dX6_sorts_35 : decode cX6_sorts 35 = .ok (.if_icmp .gt 23, 3) := by decide +kernel
theorem dX6_sorts_38 : decode cX6_sorts 38 = .ok (.aload_n 0, 1) := by decide +kernel
theorem dX6_sorts_39 : decode cX6_sorts 39 = .ok (.getfield 7, 3) := by decide +kernel
theorem dX6_sorts_42 : decode cX6_sorts 42 = .ok (.iload_n 3, 1) := by decide +kernel
theorem dX6_sorts_43 : decode cX6_sorts 43 = .ok (.iaload, 1) := by decide +kernel
theorem dX6_sorts_44 : decode cX6_sorts 44 = .ok (.aload_n 0, 1) := by decide +kernel
theorem dX6_sorts_45 : decode cX6_sorts 45 = .ok (.getfield 7, 3) := by decide +kernel
theorem dX6_sorts_48 : decode cX6_sorts 48 = .ok (.iload_n 1, 1) := by decide +kernel
theorem dX6_sorts_49 : decode cX6_sorts 49 = .ok (.iaload, 1) := by decide +kernel
theorem dX6_sorts_50 : decode cX6_sorts 50 = .ok (.if_icmp .ne 12, 3) := by decide +kernel
theorem dX6_sorts_53 : decode cX6_sorts 53 = .ok (.iload_n 3, 1) := by decide +kernel
theorem dX6_sorts_54 : decode cX6_sorts 54 = .ok (.iload_n 1, 1) := by decide +kernel
theorem dX6_sorts_55 : decode cX6_sorts 55 = .ok (.if_icmp .ge 7, 3) := by decide +kernel
theorem dX6_sorts_58 : decode cX6_sorts 58 = .ok (.iconst 1, 1) := by decide +kernel
theorem dX6_sorts_59 : decode cX6_sorts 59 = .ok (.goto 4, 3) := by decide +kernel
theorem dX6_sorts_62 : decode cX6_sorts 62 = .ok (.iconst 0, 1) := by decide +kernel
theorem dX6_sorts_63 : decode cX6_sorts 63 = .ok (.iadd, 1) := by decide +kernel
theorem dX6_sorts_64 : decode cX6_sorts 64 = .ok (.istore_n 2, 1) := by decide +kernel
theorem dX6_sorts_65 : decode cX6_sorts 65 = .ok (.iinc 3 1, 3) := by decide +kernel
theorem dX6_sorts_68 : decode cX6_sorts 68 = .ok (.goto (-54), 3) := by decide +kernel
theorem dX6_sorts_71 : decode cX6_sorts 71 = .ok (.aload_n 0, 1) := by decide +kernel
theorem dX6_sorts_72 : decode cX6_sorts 72 = .ok (.getfield 53, 3) := by decide +kernel
theorem dX6_sorts_75 : decode cX6_sorts 75 = .ok (.iload_n 2, 1) := by decide +kernel
theorem dX6_sorts_76 : decode cX6_sorts 76 = .ok (.iload_n 1, 1) := by decide +kernel
theorem dX6_sorts_77 : decode cX6_sorts 77 = .ok (.iastore, 1) := by decide +kernel
theorem dX6_sorts_78 : decode cX6_sorts 78 = .ok (.aload_n 0, 1) := by decide +kernel
theorem dX6_sorts_79 : decode cX6_sorts 79 = .ok (.getfield 56, 3) := by decide +kernel
theorem dX6_sorts_82 : decode cX6_sorts 82 = .ok (.iload_n 1, 1) := by decide +kernel
theorem dX6_sorts_83 : decode cX6_sorts 83 = .ok (.iconst (-1), 1) := by decide +kernel
theorem dX6_sorts_84 : decode cX6_sorts 84 = .ok (.iastore, 1) := by decide +kernel
theorem dX6_sorts_85 : decode cX6_sorts 85 = .ok (.iinc 1 1, 3) := by decide +kernel
theorem dX6_sorts_88 : decode cX6_sorts 88 = .ok (.goto (-86), 3) := by decide +kernel
theorem dX6_sorts_91 : decode cX6_sorts 91 = .ok (.return_, 1) := by decide +kernel
theorem dX6_pairs_0 : decode cX6_pairs 0 = .ok (.aload_n 0, 1) := by decide +kernel
theorem dX6_pairs_1 : decode cX6_pairs 1 = .ok (.invokevirtual 144, 3) := by decide +kernel
theorem dX6_pairs_4 : decode cX6_pairs 4 = .ok (.iconst 0, 1) := by decide +kernel
theorem dX6_pairs_5 : decode cX6_pairs 5 = .ok (.istore_n 1, 1) := by decide +kernel
theorem dX6_pairs_6 : decode cX6_pairs 6 = .ok (.iload_n 1, 1) := by decide +kernel
theorem dX6_pairs_7 : decode cX6_pairs 7 = .ok (.aload_n 0, 1) := by decide +kernel
theorem dX6_pairs_8 : decode cX6_pairs 8 = .ok (.getfield 67, 3) := by decide +kernel
theorem dX6_pairs_11 : decode cX6_pairs 11 = .ok (.if_icmp .ge 161, 3) := by decide +kernel
theorem dX6_pairs_14 : decode cX6_pairs 14 = .ok (.aload_n 0, 1) := by decide +kernel
theorem dX6_pairs_15 : decode cX6_pairs 15 = .ok (.getfield 53, 3) := by decide +kernel
theorem dX6_pairs_18 : decode cX6_pairs 18 = .ok (.iload_n 1, 1) := by decide +kernel
theorem dX6_pairs_19 : decode cX6_pairs 19 = .ok (.iaload, 1) := by decide +kernel
theorem dX6_pairs_20 : decode cX6_pairs 20 = .ok (.istore_n 2, 1) := by decide +kernel
theorem dX6_pairs_21 : decode cX6_pairs 21 = .ok (.iconst (-1), 1) := by decide +kernel
theorem dX6_pairs_22 : decode cX6_pairs 22 = .ok (.istore_n 3, 1) := by decide +kernel
theorem dX6_pairs_23 : decode cX6_pairs 23 = .ok (.iconst (-1), 1) := by decide +kernel
theorem dX6_pairs_24 : decode cX6_pairs 24 = .ok (.istore 4, 2) := by decide +kernel
theorem dX6_pairs_26 : decode cX6_pairs 26 = .ok (.aload_n 0, 1) := by decide +kernel
theorem dX6_pairs_27 : decode cX6_pairs 27 = .ok (.getfield 67, 3) := by decide +kernel
theorem dX6_pairs_30 : decode cX6_pairs 30 = .ok (.iconst 1, 1) := by decide +kernel
theorem dX6_pairs_31 : decode cX6_pairs 31 = .ok (.isub, 1) := by decide +kernel
theorem dX6_pairs_32 : decode cX6_pairs 32 = .ok (.istore 5, 2) := by decide +kernel
theorem dX6_pairs_34 : decode cX6_pairs 34 = .ok (.iload 5, 2) := by decide +kernel
theorem dX6_pairs_36 : decode cX6_pairs 36 = .ok (.iload_n 1, 1) := by decide +kernel
theorem dX6_pairs_37 : decode cX6_pairs 37 = .ok (.if_icmp .le 83, 3) := by decide +kernel
theorem dX6_pairs_40 : decode cX6_pairs 40 = .ok (.aload_n 0, 1) := by decide +kernel
theorem dX6_pairs_41 : decode cX6_pairs 41 = .ok (.getfield 56, 3) := by decide +kernel
theorem dX6_pairs_44 : decode cX6_pairs 44 = .ok (.aload_n 0, 1) := by decide +kernel
theorem dX6_pairs_45 : decode cX6_pairs 45 = .ok (.getfield 53, 3) := by decide +kernel
theorem dX6_pairs_48 : decode cX6_pairs 48 = .ok (.iload 5, 2) := by decide +kernel
theorem dX6_pairs_50 : decode cX6_pairs 50 = .ok (.iaload, 1) := by decide +kernel
theorem dX6_pairs_51 : decode cX6_pairs 51 = .ok (.iaload, 1) := by decide +kernel
theorem dX6_pairs_52 : decode cX6_pairs 52 = .ok (.iconst (-1), 1) := by decide +kernel
theorem dX6_pairs_53 : decode cX6_pairs 53 = .ok (.if_icmp .ne 7, 3) := by decide +kernel
theorem dX6_pairs_56 : decode cX6_pairs 56 = .ok (.iconst 1, 1) := by decide +kernel
theorem dX6_pairs_57 : decode cX6_pairs 57 = .ok (.goto 4, 3) := by decide +kernel
theorem dX6_pairs_60 : decode cX6_pairs 60 = .ok (.iconst 0, 1) := by decide +kernel
theorem dX6_pairs_61 : decode cX6_pairs 61 = .ok (.istore 6, 2) := by decide +kernel
theorem dX6_pairs_63 : decode cX6_pairs 63 = .ok (.iload 6, 2) := by decide +kernel
theorem dX6_pairs_65 : decode cX6_pairs 65 = .ok (.ifCond .eq 13, 3) := by decide +kernel
theorem dX6_pairs_68 : decode cX6_pairs 68 = .ok (.aload_n 0, 1) := by decide +kernel
theorem dX6_pairs_69 : decode cX6_pairs 69 = .ok (.getfield 53, 3) := by decide +kernel
theorem dX6_pairs_72 : decode cX6_pairs 72 = .ok (.iload 5, 2) := by decide +kernel
theorem dX6_pairs_74 : decode cX6_pairs 74 = .ok (.iaload, 1) := by decide +kernel
end
section
theorem dX6_pairs_75 : decode cX6_pairs 75 = .ok (.goto 4, 3) := by decide +kernel
theorem dX6_pairs_78 : decode cX6_pairs 78 = .ok (.iload_n 3, 1) := by decide +kernel
theorem dX6_pairs_79 : decode cX6_pairs 79 = .ok (.istore_n 3, 1) := by decide +kernel
theorem dX6_pairs_80 : decode cX6_pairs 80 = .ok (.iload 6, 2) := by decide +kernel
theorem dX6_pairs_82 : decode cX6_pairs 82 = .ok (.ifCond .eq 28, 3) := by decide +kernel
theorem dX6_pairs_85 : decode cX6_pairs 85 = .ok (.aload_n 0, 1) := by decide +kernel
theorem dX6_pairs_86 : decode cX6_pairs 86 = .ok (.iload_n 2, 1) := by decide +kernel
theorem dX6_pairs_87 : decode cX6_pairs 87 = .ok (.aload_n 0, 1) := by decide +kernel
theorem dX6_pairs_88 : decode cX6_pairs 88 = .ok (.getfield 53, 3) := by decide +kernel
theorem dX6_pairs_91 : decode cX6_pairs 91 = .ok (.iload 5, 2) := by decide +kernel
theorem dX6_pairs_93 : decode cX6_pairs 93 = .ok (.iaload, 1) := by decide +kernel
theorem dX6_pairs_94 : decode cX6_pairs 94 = .ok (.invokevirtual 147, 3) := by decide +kernel
theorem dX6_pairs_97 : decode cX6_pairs 97 = .ok (.ifCond .ne 13, 3) := by decide +kernel
theorem dX6_pairs_100 : decode cX6_pairs 100 = .ok (.aload_n 0, 1) := by decide +kernel
theorem dX6_pairs_101 : decode cX6_pairs 101 = .ok (.getfield 53, 3) := by decide +kernel
theorem dX6_pairs_104 : decode cX6_pairs 104 = .ok (.iload 5, 2) := by decide +kernel
theorem dX6_pairs_106 : decode cX6_pairs 106 = .ok (.iaload, 1) := by decide +kernel
theorem dX6_pairs_107 : decode cX6_pairs 107 = .ok (.goto 5, 3) := by decide +kernel
theorem dX6_pairs_110 : decode cX6_pairs 110 = .ok (.iload 4, 2) := by decide +kernel
theorem dX6_pairs_112 : decode cX6_pairs 112 = .ok (.istore 4, 2) := by decide +kernel
theorem dX6_pairs_114 : decode cX6_pairs 114 = .ok (.iinc 5 (-1), 3) := by decide +kernel
theorem dX6_pairs_117 : decode cX6_pairs 117 = .ok (.goto (-83), 3) := by decide +kernel
theorem dX6_pairs_120 : decode cX6_pairs 120 = .ok (.iload 4, 2) := by decide +kernel
theorem dX6_pairs_122 : decode cX6_pairs 122 = .ok (.iconst (-1), 1) := by decide +kernel
theorem dX6_pairs_123 : decode cX6_pairs 123 = .ok (.if_icmp .eq 8, 3) := by decide +kernel
theorem dX6_pairs_126 : decode cX6_pairs 126 = .ok (.iload 4, 2) := by decide +kernel
theorem dX6_pairs_128 : decode cX6_pairs 128 = .ok (.goto 4, 3) := by decide +kernel
theorem dX6_pairs_131 : decode cX6_pairs 131 = .ok (.iload_n 3, 1) := by decide +kernel
theorem dX6_pairs_132 : decode cX6_pairs 132 = .ok (.istore 5, 2) := by decide +kernel
theorem dX6_pairs_134 : decode cX6_pairs 134 = .ok (.aload_n 0, 1) := by decide +kernel
theorem dX6_pairs_135 : decode cX6_pairs 135 = .ok (.getfield 56, 3) := by decide +kernel
theorem dX6_pairs_138 : decode cX6_pairs 138 = .ok (.iload_n 2, 1) := by decide +kernel
theorem dX6_pairs_139 : decode cX6_pairs 139 = .ok (.iaload, 1) := by decide +kernel
theorem dX6_pairs_140 : decode cX6_pairs 140 = .ok (.iconst (-1), 1) := by decide +kernel
theorem dX6_pairs_141 : decode cX6_pairs 141 = .ok (.if_icmp .ne 25, 3) := by decide +kernel
theorem dX6_pairs_144 : decode cX6_pairs 144 = .ok (.iload 5, 2) := by decide +kernel
theorem dX6_pairs_146 : decode cX6_pairs 146 = .ok (.iconst (-1), 1) := by decide +kernel
theorem dX6_pairs_147 : decode cX6_pairs 147 = .ok (.if_icmp .eq 19, 3) := by decide +kernel
theorem dX6_pairs_150 : decode cX6_pairs 150 = .ok (.aload_n 0, 1) := by decide +kernel
theorem dX6_pairs_151 : decode cX6_pairs 151 = .ok (.getfield 56, 3) := by decide +kernel
theorem dX6_pairs_154 : decode cX6_pairs 154 = .ok (.iload_n 2, 1) := by decide +kernel
theorem dX6_pairs_155 : decode cX6_pairs 155 = .ok (.iload 5, 2) := by decide +kernel
theorem dX6_pairs_157 : decode cX6_pairs 157 = .ok (.iastore, 1) := by decide +kernel
theorem dX6_pairs_158 : decode cX6_pairs 158 = .ok (.aload_n 0, 1) := by decide +kernel
theorem dX6_pairs_159 : decode cX6_pairs 159 = .ok (.getfield 56, 3) := by decide +kernel
theorem dX6_pairs_162 : decode cX6_pairs 162 = .ok (.iload 5, 2) := by decide +kernel
theorem dX6_pairs_164 : decode cX6_pairs 164 = .ok (.iload_n 2, 1) := by decide +kernel
theorem dX6_pairs_165 : decode cX6_pairs 165 = .ok (.iastore, 1) := by decide +kernel
theorem dX6_pairs_166 : decode cX6_pairs 166 = .ok (.iinc 1 1, 3) := by decide +kernel
theorem dX6_pairs_169 : decode cX6_pairs 169 = .ok (.goto (-163), 3) := by decide +kernel
theorem dX6_pairs_172 : decode cX6_pairs 172 = .ok (.return_, 1) := by decide +kernel
theorem dX6_opponent_0 : decode cX6_opponent 0 = .ok (.aload_n 0, 1) := by decide +kernel
theorem dX6_opponent_1 : decode cX6_opponent 1 = .ok (.aload_n 0, 1) := by decide +kernel
theorem dX6_opponent_2 : decode cX6_opponent 2 = .ok (.iload_n 1, 1) := by decide +kernel
theorem dX6_opponent_3 : decode cX6_opponent 3 = .ok (.invokevirtual 102, 3) := by decide +kernel
theorem dX6_opponent_6 : decode cX6_opponent 6 = .ok (.iconst 1, 1) := by decide +kernel
theorem dX6_opponent_7 : decode cX6_opponent 7 = .ok (.iconst 1, 1) := by decide +kernel
theorem dX6_opponent_8 : decode cX6_opponent 8 = .ok (.invokevirtual 91, 3) := by decide +kernel
theorem dX6_opponent_11 : decode cX6_opponent 11 = .ok (.ifCond .ne 5, 3) := by decide +kernel
theorem dX6_opponent_14 : decode cX6_opponent 14 = .ok (.iconst 0, 1) := by decide +kernel
theorem dX6_opponent_15 : decode cX6_opponent 15 = .ok (.ireturn, 1) := by decide +kernel
theorem dX6_opponent_16 : decode cX6_opponent 16 = .ok (.aload_n 0, 1) := by decide +kernel
theorem dX6_opponent_17 : decode cX6_opponent 17 = .ok (.invokevirtual 150, 3) := by decide +kernel
theorem dX6_opponent_20 : decode cX6_opponent 20 = .ok (.aload_n 0, 1) := by decide +kernel
theorem dX6_opponent_21 : decode cX6_opponent 21 = .ok (.getfield 56, 3) := by decide +kernel
theorem dX6_opponent_24 : decode cX6_opponent 24 = .ok (.iload_n 1, 1) := by decide +kernel
theorem dX6_opponent_25 : decode cX6_opponent 25 = .ok (.iaload, 1) := by decide +kernel
theorem dX6_opponent_26 : decode cX6_opponent 26 = .ok (.ireturn, 1) := by decide +kernel
theorem dX6_hasWhite_0 : decode cX6_hasWhite 0 = .ok (.aload_n 0, 1) := by decide +kernel
theorem dX6_hasWhite_1 : decode cX6_hasWhite 1 = .ok (.iload_n 1, 1) := by decide +kernel
theorem dX6_hasWhite_2 : decode cX6_hasWhite 2 = .ok (.invokevirtual 102, 3) := by decide +kernel
theorem dX6_hasWhite_5 : decode cX6_hasWhite 5 = .ok (.istore_n 2, 1) := by decide +kernel
theorem dX6_hasWhite_6 : decode cX6_hasWhite 6 = .ok (.aload_n 0, 1) := by decide +kernel
theorem dX6_hasWhite_7 : decode cX6_hasWhite 7 = .ok (.invokevirtual 150, 3) := by decide +kernel
theorem dX6_hasWhite_10 : decode cX6_hasWhite 10 = .ok (.iload_n 2, 1) := by decide +kernel
theorem dX6_hasWhite_11 : decode cX6_hasWhite 11 = .ok (.ifCond .eq 12, 3) := by decide +kernel
theorem dX6_hasWhite_14 : decode cX6_hasWhite 14 = .ok (.aload_n 0, 1) := by decide +kernel
theorem dX6_hasWhite_15 : decode cX6_hasWhite 15 = .ok (.getfield 56, 3) := by decide +kernel
theorem dX6_hasWhite_18 : decode cX6_hasWhite 18 = .ok (.iload_n 1, 1) := by decide +kernel
theorem dX6_hasWhite_19 : decode cX6_hasWhite 19 = .ok (.iaload, 1) := by decide +kernel
theorem dX6_hasWhite_20 : decode cX6_hasWhite 20 = .ok (.goto 4, 3) := by decide +kernel
theorem dX6_hasWhite_23 : decode cX6_hasWhite 23 = .ok (.iconst (-1), 1) := by decide +kernel
theorem dX6_hasWhite_24 : decode cX6_hasWhite 24 = .ok (.istore_n 3, 1) := by decide +kernel
theorem dX6_hasWhite_25 : decode cX6_hasWhite 25 = .ok (.aload_n 0, 1) := by decide +kernel
theorem dX6_hasWhite_26 : decode cX6_hasWhite 26 = .ok (.iload_n 2, 1) := by decide +kernel
theorem dX6_hasWhite_27 : decode cX6_hasWhite 27 = .ok (.iload_n 3, 1) := by decide +kernel
theorem dX6_hasWhite_28 : decode cX6_hasWhite 28 = .ok (.iconst (-1), 1) := by decide +kernel
theorem dX6_hasWhite_29 : decode cX6_hasWhite 29 = .ok (.if_icmp .eq 7, 3) := by decide +kernel
theorem dX6_hasWhite_32 : decode cX6_hasWhite 32 = .ok (.iconst 1, 1) := by decide +kernel
theorem dX6_hasWhite_33 : decode cX6_hasWhite 33 = .ok (.goto 4, 3) := by decide +kernel
theorem dX6_hasWhite_36 : decode cX6_hasWhite 36 = .ok (.iconst 0, 1) := by decide +kernel
theorem dX6_hasWhite_37 : decode cX6_hasWhite 37 = .ok (.iconst 1, 1) := by decide +kernel
theorem dX6_hasWhite_38 : decode cX6_hasWhite 38 = .ok (.invokevirtual 91, 3) := by decide +kernel
theorem dX6_hasWhite_41 : decode cX6_hasWhite 41 = .ok (.ifCond .ne 5, 3) := by decide +kernel
theorem dX6_hasWhite_44 : decode cX6_hasWhite 44 = .ok (.iconst 0, 1) := by decide +kernel
theorem dX6_hasWhite_45 : decode cX6_hasWhite 45 = .ok (.ireturn, 1) := by decide +kernel
theorem dX6_hasWhite_46 : decode cX6_hasWhite 46 = .ok (.aload_n 0, 1) := by decide +kernel
theorem dX6_hasWhite_47 : decode cX6_hasWhite 47 = .ok (.getfield 13, 3) := by decide +kernel
theorem dX6_hasWhite_50 : decode cX6_hasWhite 50 = .ok (.iload_n 1, 1) := by decide +kernel
theorem dX6_hasWhite_51 : decode cX6_hasWhite 51 = .ok (.iaload, 1) := by decide +kernel
theorem dX6_hasWhite_52 : decode cX6_hasWhite 52 = .ok (.aload_n 0, 1) := by decide +kernel
theorem dX6_hasWhite_53 : decode cX6_hasWhite 53 = .ok (.getfield 13, 3) := by decide +kernel
theorem dX6_hasWhite_56 : decode cX6_hasWhite 56 = .ok (.iload_n 3, 1) := by decide +kernel
theorem dX6_hasWhite_57 : decode cX6_hasWhite 57 = .ok (.iaload, 1) := by decide +kernel
theorem dX6_hasWhite_58 : decode cX6_hasWhite 58 = .ok (.if_icmp .lt 23, 3) := by decide +kernel
theorem dX6_hasWhite_61 : decode cX6_hasWhite 61 = .ok (.aload_n 0, 1) := by decide +kernel
theorem dX6_hasWhite_62 : decode cX6_hasWhite 62 = .ok (.getfield 13, 3) := by decide +kernel
theorem dX6_hasWhite_65 : decode cX6_hasWhite 65 = .ok (.iload_n 1, 1) := by decide +kernel
theorem dX6_hasWhite_66 : decode cX6_hasWhite 66 = .ok (.iaload, 1) := by decide +kernel
theorem dX6_hasWhite_67 : decode cX6_hasWhite 67 = .ok (.aload_n 0, 1) := by decide +kernel
theorem dX6_hasWhite_68 : decode cX6_hasWhite 68 = .ok (.getfield 13, 3) := by decide +kernel
theorem dX6_hasWhite_71 : decode cX6_hasWhite 71 = .ok (.iload_n 3, 1) := by decide +kernel
theorem dX6_hasWhite_72 : decode cX6_hasWhite 72 = .ok (.iaload, 1) := by decide +kernel
theorem dX6_hasWhite_73 : decode cX6_hasWhite 73 = .ok (.if_icmp .ne 12, 3) := by decide +kernel
theorem dX6_hasWhite_76 : decode cX6_hasWhite 76 = .ok (.iload_n 1, 1) := by decide +kernel
theorem dX6_hasWhite_77 : decode cX6_hasWhite 77 = .ok (.iload_n 3, 1) := by decide +kernel
theorem dX6_hasWhite_78 : decode cX6_hasWhite 78 = .ok (.if_icmp .ge 7, 3) := by decide +kernel
theorem dX6_hasWhite_81 : decode cX6_hasWhite 81 = .ok (.iconst 1, 1) := by decide +kernel
theorem dX6_hasWhite_82 : decode cX6_hasWhite 82 = .ok (.goto 4, 3) := by decide +kernel
theorem dX6_hasWhite_85 : decode cX6_hasWhite 85 = .ok (.iconst 0, 1) := by decide +kernel
theorem dX6_hasWhite_86 : decode cX6_hasWhite 86 = .ok (.ireturn, 1) := by decide +kernel
theorem dL_after_0 : decode cL_after 0 = .ok (.aload_n 3, 1) := by decide +kernel
theorem dL_after_1 : decode cL_after 1 = .ok (.iconst 0, 1) := by decide +kernel
theorem dL_after_2 : decode cL_after 2 = .ok (.aload_n 0, 1) := by decide +kernel
theorem dL_after_3 : decode cL_after 3 = .ok (.iload_n 1, 1) := by decide +kernel
theorem dL_after_4 : decode cL_after 4 = .ok (.iload_n 2, 1) := by decide +kernel
theorem dL_after_5 : decode cL_after 5 = .ok (.invokevirtual 7, 3) := by decide +kernel
theorem dL_after_8 : decode cL_after 8 = .ok (.i2l, 1) := by decide +kernel
theorem dL_after_9 : decode cL_after 9 = .ok (.lastore, 1) := by decide +kernel
theorem dL_after_10 : decode cL_after 10 = .ok (.goto 7, 3) := by decide +kernel
theorem dL_after_13 : decode cL_after 13 = .ok (.astore 4, 2) := by decide +kernel
theorem dL_after_15 : decode cL_after 15 = .ok (.iconst 1, 1) := by decide +kernel
theorem dL_after_16 : decode cL_after 16 = .ok (.ireturn, 1) := by decide +kernel
theorem dL_after_17 : decode cL_after 17 = .ok (.iconst 0, 1) := by decide +kernel
theorem dL_after_18 : decode cL_after 18 = .ok (.ireturn, 1) := by decide +kernel
theorem dL_worth_0 : decode cL_worth 0 = .ok (.aload_n 2, 1) := by decide +kernel
theorem dL_worth_1 : decode cL_worth 1 = .ok (.iconst 0, 1) := by decide +kernel
theorem dL_worth_2 : decode cL_worth 2 = .ok (.aload_n 0, 1) := by decide +kernel
theorem dL_worth_3 : decode cL_worth 3 = .ok (.iload_n 1, 1) := by decide +kernel
theorem dL_worth_4 : decode cL_worth 4 = .ok (.invokevirtual 15, 3) := by decide +kernel
theorem dL_worth_7 : decode cL_worth 7 = .ok (.i2l, 1) := by decide +kernel
theorem dL_worth_8 : decode cL_worth 8 = .ok (.lastore, 1) := by decide +kernel
theorem dL_worth_9 : decode cL_worth 9 = .ok (.goto 6, 3) := by decide +kernel
theorem dL_worth_12 : decode cL_worth 12 = .ok (.astore_n 3, 1) := by decide +kernel
theorem dL_worth_13 : decode cL_worth 13 = .ok (.iconst 1, 1) := by decide +kernel
theorem dL_worth_14 : decode cL_worth 14 = .ok (.ireturn, 1) := by decide +kernel
theorem dL_worth_15 : decode cL_worth 15 = .ok (.iconst 0, 1) := by decide +kernel
theorem dL_worth_16 : decode cL_worth 16 = .ok (.ireturn, 1) := by decide +kernel
theorem dL_best_0 : decode cL_best 0 = .ok (.aload_n 2, 1) := by decide +kernel
theorem dL_best_1 : decode cL_best 1 = .ok (.iconst 0, 1) := by decide +kernel
theorem dL_best_2 : decode cL_best 2 = .ok (.aload_n 0, 1) := by decide +kernel
theorem dL_best_3 : decode cL_best 3 = .ok (.iload_n 1, 1) := by decide +kernel
theorem dL_best_4 : decode cL_best 4 = .ok (.invokevirtual 19, 3) := by decide +kernel
theorem dL_best_7 : decode cL_best 7 = .ok (.i2l, 1) := by decide +kernel
theorem dL_best_8 : decode cL_best 8 = .ok (.lastore, 1) := by decide +kernel
theorem dL_best_9 : decode cL_best 9 = .ok (.goto 6, 3) := by decide +kernel
theorem dL_best_12 : decode cL_best 12 = .ok (.astore_n 3, 1) := by decide +kernel
theorem dL_best_13 : decode cL_best 13 = .ok (.iconst 1, 1) := by decide +kernel
theorem dL_best_14 : decode cL_best 14 = .ok (.ireturn, 1) := by decide +kernel
theorem dL_best_15 : decode cL_best 15 = .ok (.iconst 0, 1) := by decide +kernel
theorem dL_best_16 : decode cL_best 16 = .ok (.ireturn, 1) := by decide +kernel
theorem dL_enter_0 : decode cL_enter 0 = .ok (.aload_n 1, 1) := by decide +kernel
theorem dL_enter_1 : decode cL_enter 1 = .ok (.iconst 0, 1) := by decide +kernel
theorem dL_enter_2 : decode cL_enter 2 = .ok (.aload_n 0, 1) := by decide +kernel
theorem dL_enter_3 : decode cL_enter 3 = .ok (.invokevirtual 22, 3) := by decide +kernel
theorem dL_enter_6 : decode cL_enter 6 = .ok (.i2l, 1) := by decide +kernel
theorem dL_enter_7 : decode cL_enter 7 = .ok (.lastore, 1) := by decide +kernel
theorem dL_enter_8 : decode cL_enter 8 = .ok (.goto 6, 3) := by decide +kernel
theorem dL_enter_11 : decode cL_enter 11 = .ok (.astore_n 2, 1) := by decide +kernel
theorem dL_enter_12 : decode cL_enter 12 = .ok (.iconst 1, 1) := by decide +kernel
theorem dL_enter_13 : decode cL_enter 13 = .ok (.ireturn, 1) := by decide +kernel
theorem dL_enter_14 : decode cL_enter 14 = .ok (.iconst 0, 1) := by decide +kernel
theorem dL_enter_15 : decode cL_enter 15 = .ok (.ireturn, 1) := by decide +kernel
theorem dL_begin_0 : decode cL_begin 0 = .ok (.aload_n 3, 1) := by decide +kernel
theorem dL_begin_1 : decode cL_begin 1 = .ok (.iconst 0, 1) := by decide +kernel
theorem dL_begin_2 : decode cL_begin 2 = .ok (.aload_n 0, 1) := by decide +kernel
theorem dL_begin_3 : decode cL_begin 3 = .ok (.iload_n 1, 1) := by decide +kernel
theorem dL_begin_4 : decode cL_begin 4 = .ok (.iload_n 2, 1) := by decide +kernel
theorem dL_begin_5 : decode cL_begin 5 = .ok (.invokevirtual 28, 3) := by decide +kernel
theorem dL_begin_8 : decode cL_begin 8 = .ok (.i2l, 1) := by decide +kernel
theorem dL_begin_9 : decode cL_begin 9 = .ok (.lastore, 1) := by decide +kernel
theorem dL_begin_10 : decode cL_begin 10 = .ok (.goto 15, 3) := by decide +kernel
theorem dL_begin_13 : decode cL_begin 13 = .ok (.astore 4, 2) := by decide +kernel
theorem dL_begin_15 : decode cL_begin 15 = .ok (.iconst 1, 1) := by decide +kernel
theorem dL_begin_16 : decode cL_begin 16 = .ok (.ireturn, 1) := by decide +kernel
theorem dL_begin_17 : decode cL_begin 17 = .ok (.astore 4, 2) := by decide +kernel
theorem dL_begin_19 : decode cL_begin 19 = .ok (.iconst 2, 1) := by decide +kernel
theorem dL_begin_20 : decode cL_begin 20 = .ok (.ireturn, 1) := by decide +kernel
theorem dL_begin_21 : decode cL_begin 21 = .ok (.astore 4, 2) := by decide +kernel
theorem dL_begin_23 : decode cL_begin 23 = .ok (.iconst 3, 1) := by decide +kernel
theorem dL_begin_24 : decode cL_begin 24 = .ok (.ireturn, 1) := by decide +kernel
theorem dL_begin_25 : decode cL_begin 25 = .ok (.iconst 0, 1) := by decide +kernel
theorem dL_begin_26 : decode cL_begin 26 = .ok (.ireturn, 1) := by decide +kernel
theorem dL_move_0 : decode cL_move 0 = .ok (.aload_n 2, 1) := by decide +kernel
theorem dL_move_1 : decode cL_move 1 = .ok (.iconst 0, 1) := by decide +kernel
theorem dL_move_2 : decode cL_move 2 = .ok (.aload_n 0, 1) := by decide +kernel
theorem dL_move_3 : decode cL_move 3 = .ok (.iload_n 1, 1) := by decide +kernel
theorem dL_move_4 : decode cL_move 4 = .ok (.invokevirtual 33, 3) := by decide +kernel
theorem dL_move_7 : decode cL_move 7 = .ok (.ifCond .eq 7, 3) := by decide +kernel
theorem dL_move_10 : decode cL_move 10 = .ok (.lconst 1, 1) := by decide +kernel
theorem dL_move_11 : decode cL_move 11 = .ok (.goto 4, 3) := by decide +kernel
theorem dL_move_14 : decode cL_move 14 = .ok (.lconst 0, 1) := by decide +kernel
theorem dL_move_15 : decode cL_move 15 = .ok (.lastore, 1) := by decide +kernel
theorem dL_move_16 : decode cL_move 16 = .ok (.goto 9, 3) := by decide +kernel
theorem dL_move_19 : decode cL_move 19 = .ok (.astore_n 3, 1) := by decide +kernel
theorem dL_move_20 : decode cL_move 20 = .ok (.iconst 1, 1) := by decide +kernel
theorem dL_move_21 : decode cL_move 21 = .ok (.ireturn, 1) := by decide +kernel
theorem dL_move_22 : decode cL_move 22 = .ok (.astore_n 3, 1) := by decide +kernel
theorem dL_move_23 : decode cL_move 23 = .ok (.iconst 2, 1) := by decide +kernel
theorem dL_move_24 : decode cL_move 24 = .ok (.ireturn, 1) := by decide +kernel
theorem dL_move_25 : decode cL_move 25 = .ok (.iconst 0, 1) := by decide +kernel
theorem dL_move_26 : decode cL_move 26 = .ok (.ireturn, 1) := by decide +kernel
theorem dL_end_0 : decode cL_end 0 = .ok (.aload_n 2, 1) := by decide +kernel
theorem dL_end_1 : decode cL_end 1 = .ok (.iconst 0, 1) := by decide +kernel
theorem dL_end_2 : decode cL_end 2 = .ok (.aload_n 0, 1) := by decide +kernel
theorem dL_end_3 : decode cL_end 3 = .ok (.iload_n 1, 1) := by decide +kernel
theorem dL_end_4 : decode cL_end 4 = .ok (.invokevirtual 37, 3) := by decide +kernel
theorem dL_end_7 : decode cL_end 7 = .ok (.i2l, 1) := by decide +kernel
theorem dL_end_8 : decode cL_end 8 = .ok (.lastore, 1) := by decide +kernel
theorem dL_end_9 : decode cL_end 9 = .ok (.goto 9, 3) := by decide +kernel
theorem dL_end_12 : decode cL_end 12 = .ok (.astore_n 3, 1) := by decide +kernel
theorem dL_end_13 : decode cL_end 13 = .ok (.iconst 1, 1) := by decide +kernel
theorem dL_end_14 : decode cL_end 14 = .ok (.ireturn, 1) := by decide +kernel
theorem dL_end_15 : decode cL_end 15 = .ok (.astore_n 3, 1) := by decide +kernel
theorem dL_end_16 : decode cL_end 16 = .ok (.iconst 2, 1) := by decide +kernel
theorem dL_end_17 : decode cL_end 17 = .ok (.ireturn, 1) := by decide +kernel
theorem dL_end_18 : decode cL_end 18 = .ok (.iconst 0, 1) := by decide +kernel
theorem dL_end_19 : decode cL_end 19 = .ok (.ireturn, 1) := by decide +kernel
theorem dL_score_0 : decode cL_score 0 = .ok (.aload_n 2, 1) := by decide +kernel
theorem dL_score_1 : decode cL_score 1 = .ok (.iconst 0, 1) := by decide +kernel
theorem dL_score_2 : decode cL_score 2 = .ok (.aload_n 0, 1) := by decide +kernel
theorem dL_score_3 : decode cL_score 3 = .ok (.iload_n 1, 1) := by decide +kernel
theorem dL_score_4 : decode cL_score 4 = .ok (.invokevirtual 40, 3) := by decide +kernel
theorem dL_score_7 : decode cL_score 7 = .ok (.i2l, 1) := by decide +kernel
theorem dL_score_8 : decode cL_score 8 = .ok (.lastore, 1) := by decide +kernel
theorem dL_score_9 : decode cL_score 9 = .ok (.goto 6, 3) := by decide +kernel
theorem dL_score_12 : decode cL_score 12 = .ok (.astore_n 3, 1) := by decide +kernel
theorem dL_score_13 : decode cL_score 13 = .ok (.iconst 1, 1) := by decide +kernel
theorem dL_score_14 : decode cL_score 14 = .ok (.ireturn, 1) := by decide +kernel
theorem dL_score_15 : decode cL_score 15 = .ok (.iconst 0, 1) := by decide +kernel
theorem dL_score_16 : decode cL_score 16 = .ok (.ireturn, 1) := by decide +kernel
theorem dL_puzzle_0 : decode cL_puzzle 0 = .ok (.aload_n 2, 1) := by decide +kernel
theorem dL_puzzle_1 : decode cL_puzzle 1 = .ok (.iconst 0, 1) := by decide +kernel
theorem dL_puzzle_2 : decode cL_puzzle 2 = .ok (.aload_n 0, 1) := by decide +kernel
theorem dL_puzzle_3 : decode cL_puzzle 3 = .ok (.iload_n 1, 1) := by decide +kernel
theorem dL_puzzle_4 : decode cL_puzzle 4 = .ok (.invokevirtual 43, 3) := by decide +kernel
theorem dL_puzzle_7 : decode cL_puzzle 7 = .ok (.i2l, 1) := by decide +kernel
theorem dL_puzzle_8 : decode cL_puzzle 8 = .ok (.lastore, 1) := by decide +kernel
theorem dL_puzzle_9 : decode cL_puzzle 9 = .ok (.goto 6, 3) := by decide +kernel
theorem dL_puzzle_12 : decode cL_puzzle 12 = .ok (.astore_n 3, 1) := by decide +kernel
theorem dL_puzzle_13 : decode cL_puzzle 13 = .ok (.iconst 1, 1) := by decide +kernel
theorem dL_puzzle_14 : decode cL_puzzle 14 = .ok (.ireturn, 1) := by decide +kernel
theorem dL_puzzle_15 : decode cL_puzzle 15 = .ok (.iconst 0, 1) := by decide +kernel
theorem dL_puzzle_16 : decode cL_puzzle 16 = .ok (.ireturn, 1) := by decide +kernel
theorem dL_source_0 : decode cL_source 0 = .ok (.aload_n 2, 1) := by decide +kernel
theorem dL_source_1 : decode cL_source 1 = .ok (.iconst 0, 1) := by decide +kernel
theorem dL_source_2 : decode cL_source 2 = .ok (.aload_n 0, 1) := by decide +kernel
theorem dL_source_3 : decode cL_source 3 = .ok (.iload_n 1, 1) := by decide +kernel
theorem dL_source_4 : decode cL_source 4 = .ok (.invokevirtual 46, 3) := by decide +kernel
theorem dL_source_7 : decode cL_source 7 = .ok (.i2l, 1) := by decide +kernel
theorem dL_source_8 : decode cL_source 8 = .ok (.lastore, 1) := by decide +kernel
theorem dL_source_9 : decode cL_source 9 = .ok (.goto 6, 3) := by decide +kernel
theorem dL_source_12 : decode cL_source 12 = .ok (.astore_n 3, 1) := by decide +kernel
theorem dL_source_13 : decode cL_source 13 = .ok (.iconst 1, 1) := by decide +kernel
theorem dL_source_14 : decode cL_source 14 = .ok (.ireturn, 1) := by decide +kernel
theorem dL_source_15 : decode cL_source 15 = .ok (.iconst 0, 1) := by decide +kernel
theorem dL_source_16 : decode cL_source 16 = .ok (.ireturn, 1) := by decide +kernel
theorem dL_solve_0 : decode cL_solve 0 = .ok (.aload 4, 2) := by decide +kernel
theorem dL_solve_2 : decode cL_solve 2 = .ok (.iconst 0, 1) := by decide +kernel
theorem dL_solve_3 : decode cL_solve 3 = .ok (.aload_n 0, 1) := by decide +kernel
theorem dL_solve_4 : decode cL_solve 4 = .ok (.iload_n 1, 1) := by decide +kernel
theorem dL_solve_5 : decode cL_solve 5 = .ok (.iload_n 2, 1) := by decide +kernel
theorem dL_solve_6 : decode cL_solve 6 = .ok (.iload_n 3, 1) := by decide +kernel
theorem dL_solve_7 : decode cL_solve 7 = .ok (.invokevirtual 49, 3) := by decide +kernel
theorem dL_solve_10 : decode cL_solve 10 = .ok (.ifCond .eq 7, 3) := by decide +kernel
theorem dL_solve_13 : decode cL_solve 13 = .ok (.lconst 1, 1) := by decide +kernel
theorem dL_solve_14 : decode cL_solve 14 = .ok (.goto 4, 3) := by decide +kernel
theorem dL_solve_17 : decode cL_solve 17 = .ok (.lconst 0, 1) := by decide +kernel
theorem dL_solve_18 : decode cL_solve 18 = .ok (.lastore, 1) := by decide +kernel
theorem dL_solve_19 : decode cL_solve 19 = .ok (.goto 15, 3) := by decide +kernel
theorem dL_solve_22 : decode cL_solve 22 = .ok (.astore 5, 2) := by decide +kernel
theorem dL_solve_24 : decode cL_solve 24 = .ok (.iconst 1, 1) := by decide +kernel
theorem dL_solve_25 : decode cL_solve 25 = .ok (.ireturn, 1) := by decide +kernel
theorem dL_solve_26 : decode cL_solve 26 = .ok (.astore 5, 2) := by decide +kernel
theorem dL_solve_28 : decode cL_solve 28 = .ok (.iconst 2, 1) := by decide +kernel
theorem dL_solve_29 : decode cL_solve 29 = .ok (.ireturn, 1) := by decide +kernel
theorem dL_solve_30 : decode cL_solve 30 = .ok (.astore 5, 2) := by decide +kernel
theorem dL_solve_32 : decode cL_solve 32 = .ok (.iconst 3, 1) := by decide +kernel
theorem dL_solve_33 : decode cL_solve 33 = .ok (.ireturn, 1) := by decide +kernel
theorem dL_solve_34 : decode cL_solve 34 = .ok (.iconst 0, 1) := by decide +kernel
theorem dL_solve_35 : decode cL_solve 35 = .ok (.ireturn, 1) := by decide +kernel
theorem dL_offered_0 : decode cL_offered 0 = .ok (.aload_n 2, 1) := by decide +kernel
theorem dL_offered_1 : decode cL_offered 1 = .ok (.iconst 0, 1) := by decide +kernel
theorem dL_offered_2 : decode cL_offered 2 = .ok (.aload_n 0, 1) := by decide +kernel
theorem dL_offered_3 : decode cL_offered 3 = .ok (.iload_n 1, 1) := by decide +kernel
theorem dL_offered_4 : decode cL_offered 4 = .ok (.invokevirtual 53, 3) := by decide +kernel
theorem dL_offered_7 : decode cL_offered 7 = .ok (.i2l, 1) := by decide +kernel
theorem dL_offered_8 : decode cL_offered 8 = .ok (.lastore, 1) := by decide +kernel
theorem dL_offered_9 : decode cL_offered 9 = .ok (.goto 6, 3) := by decide +kernel
theorem dL_offered_12 : decode cL_offered 12 = .ok (.astore_n 3, 1) := by decide +kernel
theorem dL_offered_13 : decode cL_offered 13 = .ok (.iconst 1, 1) := by decide +kernel
theorem dL_offered_14 : decode cL_offered 14 = .ok (.ireturn, 1) := by decide +kernel
theorem dL_offered_15 : decode cL_offered 15 = .ok (.iconst 0, 1) := by decide +kernel
theorem dL_offered_16 : decode cL_offered 16 = .ok (.ireturn, 1) := by decide +kernel
theorem dL_rating_0 : decode cL_rating 0 = .ok (.aload_n 3, 1) := by decide +kernel
theorem dL_rating_1 : decode cL_rating 1 = .ok (.iconst 0, 1) := by decide +kernel
theorem dL_rating_2 : decode cL_rating 2 = .ok (.aload_n 0, 1) := by decide +kernel
theorem dL_rating_3 : decode cL_rating 3 = .ok (.iload_n 1, 1) := by decide +kernel
theorem dL_rating_4 : decode cL_rating 4 = .ok (.iload_n 2, 1) := by decide +kernel
theorem dL_rating_5 : decode cL_rating 5 = .ok (.invokevirtual 56, 3) := by decide +kernel
theorem dL_rating_8 : decode cL_rating 8 = .ok (.i2l, 1) := by decide +kernel
theorem dL_rating_9 : decode cL_rating 9 = .ok (.lastore, 1) := by decide +kernel
theorem dL_rating_10 : decode cL_rating 10 = .ok (.goto 11, 3) := by decide +kernel
theorem dL_rating_13 : decode cL_rating 13 = .ok (.astore 4, 2) := by decide +kernel
theorem dL_rating_15 : decode cL_rating 15 = .ok (.iconst 1, 1) := by decide +kernel
theorem dL_rating_16 : decode cL_rating 16 = .ok (.ireturn, 1) := by decide +kernel
theorem dL_rating_17 : decode cL_rating 17 = .ok (.astore 4, 2) := by decide +kernel
theorem dL_rating_19 : decode cL_rating 19 = .ok (.iconst 2, 1) := by decide +kernel
theorem dL_rating_20 : decode cL_rating 20 = .ok (.ireturn, 1) := by decide +kernel
theorem dL_rating_21 : decode cL_rating 21 = .ok (.iconst 0, 1) := by decide +kernel
theorem dL_rating_22 : decode cL_rating 22 = .ok (.ireturn, 1) := by decide +kernel
theorem dL_results_0 : decode cL_results 0 = .ok (.aload_n 3, 1) := by decide +kernel
theorem dL_results_1 : decode cL_results 1 = .ok (.iconst 0, 1) := by decide +kernel
theorem dL_results_2 : decode cL_results 2 = .ok (.aload_n 0, 1) := by decide +kernel
theorem dL_results_3 : decode cL_results 3 = .ok (.iload_n 1, 1) := by decide +kernel
theorem dL_results_4 : decode cL_results 4 = .ok (.iload_n 2, 1) := by decide +kernel
theorem dL_results_5 : decode cL_results 5 = .ok (.invokevirtual 59, 3) := by decide +kernel
theorem dL_results_8 : decode cL_results 8 = .ok (.i2l, 1) := by decide +kernel
theorem dL_results_9 : decode cL_results 9 = .ok (.lastore, 1) := by decide +kernel
theorem dL_results_10 : decode cL_results 10 = .ok (.goto 7, 3) := by decide +kernel
theorem dL_results_13 : decode cL_results 13 = .ok (.astore 4, 2) := by decide +kernel
theorem dL_results_15 : decode cL_results 15 = .ok (.iconst 1, 1) := by decide +kernel
theorem dL_results_16 : decode cL_results 16 = .ok (.ireturn, 1) := by decide +kernel
theorem dL_results_17 : decode cL_results 17 = .ok (.iconst 0, 1) := by decide +kernel
theorem dL_results_18 : decode cL_results 18 = .ok (.ireturn, 1) := by decide +kernel
theorem dL_points_0 : decode cL_points 0 = .ok (.aload_n 3, 1) := by decide +kernel
theorem dL_points_1 : decode cL_points 1 = .ok (.iconst 0, 1) := by decide +kernel
theorem dL_points_2 : decode cL_points 2 = .ok (.aload_n 0, 1) := by decide +kernel
theorem dL_points_3 : decode cL_points 3 = .ok (.iload_n 1, 1) := by decide +kernel
theorem dL_points_4 : decode cL_points 4 = .ok (.iload_n 2, 1) := by decide +kernel
theorem dL_points_5 : decode cL_points 5 = .ok (.invokevirtual 62, 3) := by decide +kernel
theorem dL_points_8 : decode cL_points 8 = .ok (.i2l, 1) := by decide +kernel
theorem dL_points_9 : decode cL_points 9 = .ok (.lastore, 1) := by decide +kernel
theorem dL_points_10 : decode cL_points 10 = .ok (.goto 7, 3) := by decide +kernel
theorem dL_points_13 : decode cL_points 13 = .ok (.astore 4, 2) := by decide +kernel
theorem dL_points_15 : decode cL_points 15 = .ok (.iconst 1, 1) := by decide +kernel
theorem dL_points_16 : decode cL_points 16 = .ok (.ireturn, 1) := by decide +kernel
theorem dL_points_17 : decode cL_points 17 = .ok (.iconst 0, 1) := by decide +kernel
theorem dL_points_18 : decode cL_points 18 = .ok (.ireturn, 1) := by decide +kernel
theorem dL_isDropped_0 : decode cL_isDropped 0 = .ok (.aload_n 3, 1) := by decide +kernel
theorem dL_isDropped_1 : decode cL_isDropped 1 = .ok (.iconst 0, 1) := by decide +kernel
theorem dL_isDropped_2 : decode cL_isDropped 2 = .ok (.aload_n 0, 1) := by decide +kernel
theorem dL_isDropped_3 : decode cL_isDropped 3 = .ok (.iload_n 1, 1) := by decide +kernel
theorem dL_isDropped_4 : decode cL_isDropped 4 = .ok (.iload_n 2, 1) := by decide +kernel
theorem dL_isDropped_5 : decode cL_isDropped 5 = .ok (.invokevirtual 65, 3) := by decide +kernel
theorem dL_isDropped_8 : decode cL_isDropped 8 = .ok (.ifCond .eq 7, 3) := by decide +kernel
theorem dL_isDropped_11 : decode cL_isDropped 11 = .ok (.lconst 1, 1) := by decide +kernel
theorem dL_isDropped_12 : decode cL_isDropped 12 = .ok (.goto 4, 3) := by decide +kernel
theorem dL_isDropped_15 : decode cL_isDropped 15 = .ok (.lconst 0, 1) := by decide +kernel
theorem dL_isDropped_16 : decode cL_isDropped 16 = .ok (.lastore, 1) := by decide +kernel
theorem dL_isDropped_17 : decode cL_isDropped 17 = .ok (.goto 7, 3) := by decide +kernel
theorem dL_isDropped_20 : decode cL_isDropped 20 = .ok (.astore 4, 2) := by decide +kernel
theorem dL_isDropped_22 : decode cL_isDropped 22 = .ok (.iconst 1, 1) := by decide +kernel
theorem dL_isDropped_23 : decode cL_isDropped 23 = .ok (.ireturn, 1) := by decide +kernel
theorem dL_isDropped_24 : decode cL_isDropped 24 = .ok (.iconst 0, 1) := by decide +kernel
theorem dL_isDropped_25 : decode cL_isDropped 25 = .ok (.ireturn, 1) := by decide +kernel
theorem dL_pointsOfGames_0 : decode cL_pointsOfGames 0 = .ok (.aload_n 3, 1) := by decide +kernel
theorem dL_pointsOfGames_1 : decode cL_pointsOfGames 1 = .ok (.iconst 0, 1) := by decide +kernel
theorem dL_pointsOfGames_2 : decode cL_pointsOfGames 2 = .ok (.aload_n 0, 1) := by decide +kernel
theorem dL_pointsOfGames_3 : decode cL_pointsOfGames 3 = .ok (.iload_n 1, 1) := by decide +kernel
theorem dL_pointsOfGames_4 : decode cL_pointsOfGames 4 = .ok (.iload_n 2, 1) := by decide +kernel
theorem dL_pointsOfGames_5 : decode cL_pointsOfGames 5 = .ok (.invokevirtual 69, 3) := by decide +kernel
theorem dL_pointsOfGames_8 : decode cL_pointsOfGames 8 = .ok (.i2l, 1) := by decide +kernel
theorem dL_pointsOfGames_9 : decode cL_pointsOfGames 9 = .ok (.lastore, 1) := by decide +kernel
theorem dL_pointsOfGames_10 : decode cL_pointsOfGames 10 = .ok (.goto 7, 3) := by decide +kernel
theorem dL_pointsOfGames_13 : decode cL_pointsOfGames 13 = .ok (.astore 4, 2) := by decide +kernel
theorem dL_pointsOfGames_15 : decode cL_pointsOfGames 15 = .ok (.iconst 1, 1) := by decide +kernel
theorem dL_pointsOfGames_16 : decode cL_pointsOfGames 16 = .ok (.ireturn, 1) := by decide +kernel
theorem dL_pointsOfGames_17 : decode cL_pointsOfGames 17 = .ok (.iconst 0, 1) := by decide +kernel
theorem dL_pointsOfGames_18 : decode cL_pointsOfGames 18 = .ok (.ireturn, 1) := by decide +kernel
theorem dL_mean_0 : decode cL_mean 0 = .ok (.aload_n 3, 1) := by decide +kernel
theorem dL_mean_1 : decode cL_mean 1 = .ok (.iconst 0, 1) := by decide +kernel
theorem dL_mean_2 : decode cL_mean 2 = .ok (.aload_n 0, 1) := by decide +kernel
theorem dL_mean_3 : decode cL_mean 3 = .ok (.iload_n 1, 1) := by decide +kernel
theorem dL_mean_4 : decode cL_mean 4 = .ok (.iload_n 2, 1) := by decide +kernel
theorem dL_mean_5 : decode cL_mean 5 = .ok (.invokevirtual 72, 3) := by decide +kernel
theorem dL_mean_8 : decode cL_mean 8 = .ok (.f2d, 1) := by decide +kernel
theorem dL_mean_9 : decode cL_mean 9 = .ok (.dastore, 1) := by decide +kernel
theorem dL_mean_10 : decode cL_mean 10 = .ok (.goto 7, 3) := by decide +kernel
theorem dL_mean_13 : decode cL_mean 13 = .ok (.astore 4, 2) := by decide +kernel
theorem dL_mean_15 : decode cL_mean 15 = .ok (.iconst 1, 1) := by decide +kernel
theorem dL_mean_16 : decode cL_mean 16 = .ok (.ireturn, 1) := by decide +kernel
theorem dL_mean_17 : decode cL_mean 17 = .ok (.iconst 0, 1) := by decide +kernel
theorem dL_mean_18 : decode cL_mean 18 = .ok (.ireturn, 1) := by decide +kernel
theorem dL_opponent_0 : decode cL_opponent 0 = .ok (.aload_n 2, 1) := by decide +kernel
theorem dL_opponent_1 : decode cL_opponent 1 = .ok (.iconst 0, 1) := by decide +kernel
theorem dL_opponent_2 : decode cL_opponent 2 = .ok (.aload_n 0, 1) := by decide +kernel
theorem dL_opponent_3 : decode cL_opponent 3 = .ok (.iload_n 1, 1) := by decide +kernel
theorem dL_opponent_4 : decode cL_opponent 4 = .ok (.invokevirtual 76, 3) := by decide +kernel
theorem dL_opponent_7 : decode cL_opponent 7 = .ok (.i2l, 1) := by decide +kernel
theorem dL_opponent_8 : decode cL_opponent 8 = .ok (.lastore, 1) := by decide +kernel
theorem dL_opponent_9 : decode cL_opponent 9 = .ok (.goto 6, 3) := by decide +kernel
theorem dL_opponent_12 : decode cL_opponent 12 = .ok (.astore_n 3, 1) := by decide +kernel
theorem dL_opponent_13 : decode cL_opponent 13 = .ok (.iconst 1, 1) := by decide +kernel
theorem dL_opponent_14 : decode cL_opponent 14 = .ok (.ireturn, 1) := by decide +kernel
theorem dL_opponent_15 : decode cL_opponent 15 = .ok (.iconst 0, 1) := by decide +kernel
theorem dL_opponent_16 : decode cL_opponent 16 = .ok (.ireturn, 1) := by decide +kernel
theorem dL_hasWhite_0 : decode cL_hasWhite 0 = .ok (.aload_n 2, 1) := by decide +kernel
theorem dL_hasWhite_1 : decode cL_hasWhite 1 = .ok (.iconst 0, 1) := by decide +kernel
theorem dL_hasWhite_2 : decode cL_hasWhite 2 = .ok (.aload_n 0, 1) := by decide +kernel
theorem dL_hasWhite_3 : decode cL_hasWhite 3 = .ok (.iload_n 1, 1) := by decide +kernel
theorem dL_hasWhite_4 : decode cL_hasWhite 4 = .ok (.invokevirtual 79, 3) := by decide +kernel
theorem dL_hasWhite_7 : decode cL_hasWhite 7 = .ok (.ifCond .eq 7, 3) := by decide +kernel
theorem dL_hasWhite_10 : decode cL_hasWhite 10 = .ok (.lconst 1, 1) := by decide +kernel
theorem dL_hasWhite_11 : decode cL_hasWhite 11 = .ok (.goto 4, 3) := by decide +kernel
theorem dL_hasWhite_14 : decode cL_hasWhite 14 = .ok (.lconst 0, 1) := by decide +kernel
theorem dL_hasWhite_15 : decode cL_hasWhite 15 = .ok (.lastore, 1) := by decide +kernel
theorem dL_hasWhite_16 : decode cL_hasWhite 16 = .ok (.goto 9, 3) := by decide +kernel
theorem dL_hasWhite_19 : decode cL_hasWhite 19 = .ok (.astore_n 3, 1) := by decide +kernel
theorem dL_hasWhite_20 : decode cL_hasWhite 20 = .ok (.iconst 1, 1) := by decide +kernel
theorem dL_hasWhite_21 : decode cL_hasWhite 21 = .ok (.ireturn, 1) := by decide +kernel
theorem dL_hasWhite_22 : decode cL_hasWhite 22 = .ok (.astore_n 3, 1) := by decide +kernel
theorem dL_hasWhite_23 : decode cL_hasWhite 23 = .ok (.iconst 2, 1) := by decide +kernel
theorem dL_hasWhite_24 : decode cL_hasWhite 24 = .ok (.ireturn, 1) := by decide +kernel
theorem dL_hasWhite_25 : decode cL_hasWhite 25 = .ok (.iconst 0, 1) := by decide +kernel
theorem dL_hasWhite_26 : decode cL_hasWhite 26 = .ok (.ireturn, 1) := by decide +kernel
end
section
theorem dL_law_0 : decode cL_law 0 = .ok (.new 8, 3) := by decide +kernel
theorem dL_law_3 : decode cL_law 3 = .ok (.dup, 1) := by decide +kernel
theorem dL_law_4 : decode cL_law 4 = .ok (.invokespecial 82, 3) := by decide +kernel
theorem dL_law_7 : decode cL_law 7 = .ok (.astore_n 1, 1) := by decide +kernel
theorem dL_law_8 : decode cL_law 8 = .ok (.new 83, 3) := by decide +kernel
theorem dL_law_11 : decode cL_law 11 = .ok (.dup, 1) := by decide +kernel
theorem dL_law_12 : decode cL_law 12 = .ok (.invokespecial 85, 3) := by decide +kernel
theorem dL_law_15 : decode cL_law 15 = .ok (.astore_n 2, 1) := by decide +kernel
theorem dL_law_16 : decode cL_law 16 = .ok (.iconst 1, 1) := by decide +kernel
theorem dL_law_17 : decode cL_law 17 = .ok (.newarray .long, 2) := by decide +kernel
theorem dL_law_19 : decode cL_law 19 = .ok (.astore_n 3, 1) := by decide +kernel
theorem dL_law_20 : decode cL_law 20 = .ok (.iconst 1, 1) := by decide +kernel
theorem dL_law_21 : decode cL_law 21 = .ok (.newarray .double, 2) := by decide +kernel
theorem dL_law_23 : decode cL_law 23 = .ok (.astore 4, 2) := by decide +kernel
theorem dL_law_25 : decode cL_law 25 = .ok (.iconst 0, 1) := by decide +kernel
theorem dL_law_26 : decode cL_law 26 = .ok (.istore 5, 2) := by decide +kernel
theorem dL_law_28 : decode cL_law 28 = .ok (.iload 5, 2) := by decide +kernel
theorem dL_law_30 : decode cL_law 30 = .ok (.aload_n 0, 1) := by decide +kernel
theorem dL_law_31 : decode cL_law 31 = .ok (.arraylength, 1) := by decide +kernel
theorem dL_law_32 : decode cL_law 32 = .ok (.iconst 4, 1) := by decide +kernel
theorem dL_law_33 : decode cL_law 33 = .ok (.isub, 1) := by decide +kernel
theorem dL_law_34 : decode cL_law 34 = .ok (.if_icmp .gt 1441, 3) := by decide +kernel
theorem dL_law_37 : decode cL_law 37 = .ok (.aload_n 0, 1) := by decide +kernel
theorem dL_law_38 : decode cL_law 38 = .ok (.iload 5, 2) := by decide +kernel
theorem dL_law_40 : decode cL_law 40 = .ok (.iaload, 1) := by decide +kernel
theorem dL_law_41 : decode cL_law 41 = .ok (.bipush 31, 2) := by decide +kernel
theorem dL_law_43 : decode cL_law 43 = .ok (.iand, 1) := by decide +kernel
theorem dL_law_44 : decode cL_law 44 = .ok (.tableswitch 1425 0 22 #[108, 176, 232, 288, 332, 400, 463, 519, 532, 545, 601, 614, 670, 726, 813, 869, 937, 1005, 1073, 1148, 1216, 1306, 1362], 108) := by decide +kernel
theorem dL_law_152 : decode cL_law 152 = .ok (.aload_n 1, 1) := by decide +kernel
theorem dL_law_153 : decode cL_law 153 = .ok (.aload_n 0, 1) := by decide +kernel
theorem dL_law_154 : decode cL_law 154 = .ok (.iload 5, 2) := by decide +kernel
theorem dL_law_156 : decode cL_law 156 = .ok (.iconst 1, 1) := by decide +kernel
theorem dL_law_157 : decode cL_law 157 = .ok (.iadd, 1) := by decide +kernel
theorem dL_law_158 : decode cL_law 158 = .ok (.iaload, 1) := by decide +kernel
theorem dL_law_159 : decode cL_law 159 = .ok (.aload_n 0, 1) := by decide +kernel
theorem dL_law_160 : decode cL_law 160 = .ok (.iload 5, 2) := by decide +kernel
theorem dL_law_162 : decode cL_law 162 = .ok (.iconst 2, 1) := by decide +kernel
theorem dL_law_163 : decode cL_law 163 = .ok (.iadd, 1) := by decide +kernel
theorem dL_law_164 : decode cL_law 164 = .ok (.iaload, 1) := by decide +kernel
theorem dL_law_165 : decode cL_law 165 = .ok (.aload_n 3, 1) := by decide +kernel
theorem dL_law_166 : decode cL_law 166 = .ok (.invokestatic 86, 3) := by decide +kernel
theorem dL_law_169 : decode cL_law 169 = .ok (.istore 6, 2) := by decide +kernel
theorem dL_law_171 : decode cL_law 171 = .ok (.aload_n 2, 1) := by decide +kernel
theorem dL_law_172 : decode cL_law 172 = .ok (.aload_n 0, 1) := by decide +kernel
theorem dL_law_173 : decode cL_law 173 = .ok (.iload 5, 2) := by decide +kernel
theorem dL_law_175 : decode cL_law 175 = .ok (.iconst 1, 1) := by decide +kernel
theorem dL_law_176 : decode cL_law 176 = .ok (.iadd, 1) := by decide +kernel
theorem dL_law_177 : decode cL_law 177 = .ok (.iaload, 1) := by decide +kernel
theorem dL_law_178 : decode cL_law 178 = .ok (.aload_n 0, 1) := by decide +kernel
theorem dL_law_179 : decode cL_law 179 = .ok (.iload 5, 2) := by decide +kernel
theorem dL_law_181 : decode cL_law 181 = .ok (.iconst 2, 1) := by decide +kernel
theorem dL_law_182 : decode cL_law 182 = .ok (.iadd, 1) := by decide +kernel
theorem dL_law_183 : decode cL_law 183 = .ok (.iaload, 1) := by decide +kernel
theorem dL_law_184 : decode cL_law 184 = .ok (.invokevirtual 91, 3) := by decide +kernel
theorem dL_law_187 : decode cL_law 187 = .ok (.istore 7, 2) := by decide +kernel
theorem dL_law_189 : decode cL_law 189 = .ok (.aload_n 2, 1) := by decide +kernel
theorem dL_law_190 : decode cL_law 190 = .ok (.invokevirtual 92, 3) := by decide +kernel
theorem dL_law_193 : decode cL_law 193 = .ok (.iload 6, 2) := by decide +kernel
theorem dL_law_195 : decode cL_law 195 = .ok (.if_icmp .eq 5, 3) := by decide +kernel
theorem dL_law_198 : decode cL_law 198 = .ok (.iconst 0, 1) := by decide +kernel
theorem dL_law_199 : decode cL_law 199 = .ok (.ireturn, 1) := by decide +kernel
theorem dL_law_200 : decode cL_law 200 = .ok (.iload 6, 2) := by decide +kernel
theorem dL_law_202 : decode cL_law 202 = .ok (.ifCond .ne 15, 3) := by decide +kernel
theorem dL_law_205 : decode cL_law 205 = .ok (.aload_n 3, 1) := by decide +kernel
theorem dL_law_206 : decode cL_law 206 = .ok (.iconst 0, 1) := by decide +kernel
theorem dL_law_207 : decode cL_law 207 = .ok (.laload, 1) := by decide +kernel
theorem dL_law_208 : decode cL_law 208 = .ok (.iload 7, 2) := by decide +kernel
theorem dL_law_210 : decode cL_law 210 = .ok (.i2l, 1) := by decide +kernel
theorem dL_law_211 : decode cL_law 211 = .ok (.lcmp, 1) := by decide +kernel
theorem dL_law_212 : decode cL_law 212 = .ok (.ifCond .eq 5, 3) := by decide +kernel
theorem dL_law_215 : decode cL_law 215 = .ok (.iconst 0, 1) := by decide +kernel
theorem dL_law_216 : decode cL_law 216 = .ok (.ireturn, 1) := by decide +kernel
theorem dL_law_217 : decode cL_law 217 = .ok (.goto 1252, 3) := by decide +kernel
theorem dL_law_220 : decode cL_law 220 = .ok (.aload_n 1, 1) := by decide +kernel
theorem dL_law_221 : decode cL_law 221 = .ok (.aload_n 0, 1) := by decide +kernel
theorem dL_law_222 : decode cL_law 222 = .ok (.iload 5, 2) := by decide +kernel
theorem dL_law_224 : decode cL_law 224 = .ok (.iconst 1, 1) := by decide +kernel
theorem dL_law_225 : decode cL_law 225 = .ok (.iadd, 1) := by decide +kernel
theorem dL_law_226 : decode cL_law 226 = .ok (.iaload, 1) := by decide +kernel
theorem dL_law_227 : decode cL_law 227 = .ok (.aload_n 3, 1) := by decide +kernel
theorem dL_law_228 : decode cL_law 228 = .ok (.invokestatic 95, 3) := by decide +kernel
theorem dL_law_231 : decode cL_law 231 = .ok (.istore 6, 2) := by decide +kernel
theorem dL_law_233 : decode cL_law 233 = .ok (.aload_n 2, 1) := by decide +kernel
theorem dL_law_234 : decode cL_law 234 = .ok (.aload_n 0, 1) := by decide +kernel
theorem dL_law_235 : decode cL_law 235 = .ok (.iload 5, 2) := by decide +kernel
theorem dL_law_237 : decode cL_law 237 = .ok (.iconst 1, 1) := by decide +kernel
theorem dL_law_238 : decode cL_law 238 = .ok (.iadd, 1) := by decide +kernel
theorem dL_law_239 : decode cL_law 239 = .ok (.iaload, 1) := by decide +kernel
theorem dL_law_240 : decode cL_law 240 = .ok (.invokevirtual 98, 3) := by decide +kernel
theorem dL_law_243 : decode cL_law 243 = .ok (.istore 7, 2) := by decide +kernel
theorem dL_law_245 : decode cL_law 245 = .ok (.aload_n 2, 1) := by decide +kernel
theorem dL_law_246 : decode cL_law 246 = .ok (.invokevirtual 92, 3) := by decide +kernel
theorem dL_law_249 : decode cL_law 249 = .ok (.iload 6, 2) := by decide +kernel
theorem dL_law_251 : decode cL_law 251 = .ok (.if_icmp .eq 5, 3) := by decide +kernel
theorem dL_law_254 : decode cL_law 254 = .ok (.iconst 0, 1) := by decide +kernel
theorem dL_law_255 : decode cL_law 255 = .ok (.ireturn, 1) := by decide +kernel
theorem dL_law_256 : decode cL_law 256 = .ok (.iload 6, 2) := by decide +kernel
theorem dL_law_258 : decode cL_law 258 = .ok (.ifCond .ne 15, 3) := by decide +kernel
theorem dL_law_261 : decode cL_law 261 = .ok (.aload_n 3, 1) := by decide +kernel
theorem dL_law_262 : decode cL_law 262 = .ok (.iconst 0, 1) := by decide +kernel
theorem dL_law_263 : decode cL_law 263 = .ok (.laload, 1) := by decide +kernel
theorem dL_law_264 : decode cL_law 264 = .ok (.iload 7, 2) := by decide +kernel
theorem dL_law_266 : decode cL_law 266 = .ok (.i2l, 1) := by decide +kernel
theorem dL_law_267 : decode cL_law 267 = .ok (.lcmp, 1) := by decide +kernel
theorem dL_law_268 : decode cL_law 268 = .ok (.ifCond .eq 5, 3) := by decide +kernel
theorem dL_law_271 : decode cL_law 271 = .ok (.iconst 0, 1) := by decide +kernel
theorem dL_law_272 : decode cL_law 272 = .ok (.ireturn, 1) := by decide +kernel
theorem dL_law_273 : decode cL_law 273 = .ok (.goto 1196, 3) := by decide +kernel
theorem dL_law_276 : decode cL_law 276 = .ok (.aload_n 1, 1) := by decide +kernel
theorem dL_law_277 : decode cL_law 277 = .ok (.aload_n 0, 1) := by decide +kernel
theorem dL_law_278 : decode cL_law 278 = .ok (.iload 5, 2) := by decide +kernel
theorem dL_law_280 : decode cL_law 280 = .ok (.iconst 1, 1) := by decide +kernel
theorem dL_law_281 : decode cL_law 281 = .ok (.iadd, 1) := by decide +kernel
theorem dL_law_282 : decode cL_law 282 = .ok (.iaload, 1) := by decide +kernel
theorem dL_law_283 : decode cL_law 283 = .ok (.aload_n 3, 1) := by decide +kernel
theorem dL_law_284 : decode cL_law 284 = .ok (.invokestatic 99, 3) := by decide +kernel
theorem dL_law_287 : decode cL_law 287 = .ok (.istore 6, 2) := by decide +kernel
theorem dL_law_289 : decode cL_law 289 = .ok (.aload_n 2, 1) := by decide +kernel
theorem dL_law_290 : decode cL_law 290 = .ok (.aload_n 0, 1) := by decide +kernel
theorem dL_law_291 : decode cL_law 291 = .ok (.iload 5, 2) := by decide +kernel
theorem dL_law_293 : decode cL_law 293 = .ok (.iconst 1, 1) := by decide +kernel
theorem dL_law_294 : decode cL_law 294 = .ok (.iadd, 1) := by decide +kernel
theorem dL_law_295 : decode cL_law 295 = .ok (.iaload, 1) := by decide +kernel
theorem dL_law_296 : decode cL_law 296 = .ok (.invokevirtual 101, 3) := by decide +kernel
theorem dL_law_299 : decode cL_law 299 = .ok (.istore 7, 2) := by decide +kernel
theorem dL_law_301 : decode cL_law 301 = .ok (.aload_n 2, 1) := by decide +kernel
theorem dL_law_302 : decode cL_law 302 = .ok (.invokevirtual 92, 3) := by decide +kernel
theorem dL_law_305 : decode cL_law 305 = .ok (.iload 6, 2) := by decide +kernel
theorem dL_law_307 : decode cL_law 307 = .ok (.if_icmp .eq 5, 3) := by decide +kernel
theorem dL_law_310 : decode cL_law 310 = .ok (.iconst 0, 1) := by decide +kernel
theorem dL_law_311 : decode cL_law 311 = .ok (.ireturn, 1) := by decide +kernel
theorem dL_law_312 : decode cL_law 312 = .ok (.iload 6, 2) := by decide +kernel
theorem dL_law_314 : decode cL_law 314 = .ok (.ifCond .ne 15, 3) := by decide +kernel
theorem dL_law_317 : decode cL_law 317 = .ok (.aload_n 3, 1) := by decide +kernel
theorem dL_law_318 : decode cL_law 318 = .ok (.iconst 0, 1) := by decide +kernel
theorem dL_law_319 : decode cL_law 319 = .ok (.laload, 1) := by decide +kernel
theorem dL_law_320 : decode cL_law 320 = .ok (.iload 7, 2) := by decide +kernel
theorem dL_law_322 : decode cL_law 322 = .ok (.i2l, 1) := by decide +kernel
theorem dL_law_323 : decode cL_law 323 = .ok (.lcmp, 1) := by decide +kernel
theorem dL_law_324 : decode cL_law 324 = .ok (.ifCond .eq 5, 3) := by decide +kernel
theorem dL_law_327 : decode cL_law 327 = .ok (.iconst 0, 1) := by decide +kernel
theorem dL_law_328 : decode cL_law 328 = .ok (.ireturn, 1) := by decide +kernel
theorem dL_law_329 : decode cL_law 329 = .ok (.goto 1140, 3) := by decide +kernel
theorem dL_law_332 : decode cL_law 332 = .ok (.aload_n 1, 1) := by decide +kernel
theorem dL_law_333 : decode cL_law 333 = .ok (.aload_n 3, 1) := by decide +kernel
theorem dL_law_334 : decode cL_law 334 = .ok (.invokestatic 102, 3) := by decide +kernel
theorem dL_law_337 : decode cL_law 337 = .ok (.istore 6, 2) := by decide +kernel
theorem dL_law_339 : decode cL_law 339 = .ok (.aload_n 2, 1) := by decide +kernel
theorem dL_law_340 : decode cL_law 340 = .ok (.invokevirtual 105, 3) := by decide +kernel
theorem dL_law_343 : decode cL_law 343 = .ok (.istore 7, 2) := by decide +kernel
theorem dL_law_345 : decode cL_law 345 = .ok (.aload_n 2, 1) := by decide +kernel
theorem dL_law_346 : decode cL_law 346 = .ok (.invokevirtual 92, 3) := by decide +kernel
theorem dL_law_349 : decode cL_law 349 = .ok (.iload 6, 2) := by decide +kernel
theorem dL_law_351 : decode cL_law 351 = .ok (.if_icmp .eq 5, 3) := by decide +kernel
theorem dL_law_354 : decode cL_law 354 = .ok (.iconst 0, 1) := by decide +kernel
theorem dL_law_355 : decode cL_law 355 = .ok (.ireturn, 1) := by decide +kernel
theorem dL_law_356 : decode cL_law 356 = .ok (.iload 6, 2) := by decide +kernel
theorem dL_law_358 : decode cL_law 358 = .ok (.ifCond .ne 15, 3) := by decide +kernel
theorem dL_law_361 : decode cL_law 361 = .ok (.aload_n 3, 1) := by decide +kernel
theorem dL_law_362 : decode cL_law 362 = .ok (.iconst 0, 1) := by decide +kernel
theorem dL_law_363 : decode cL_law 363 = .ok (.laload, 1) := by decide +kernel
theorem dL_law_364 : decode cL_law 364 = .ok (.iload 7, 2) := by decide +kernel
theorem dL_law_366 : decode cL_law 366 = .ok (.i2l, 1) := by decide +kernel
theorem dL_law_367 : decode cL_law 367 = .ok (.lcmp, 1) := by decide +kernel
theorem dL_law_368 : decode cL_law 368 = .ok (.ifCond .eq 5, 3) := by decide +kernel
theorem dL_law_371 : decode cL_law 371 = .ok (.iconst 0, 1) := by decide +kernel
theorem dL_law_372 : decode cL_law 372 = .ok (.ireturn, 1) := by decide +kernel
theorem dL_law_373 : decode cL_law 373 = .ok (.goto 1096, 3) := by decide +kernel
theorem dL_law_376 : decode cL_law 376 = .ok (.aload_n 1, 1) := by decide +kernel
theorem dL_law_377 : decode cL_law 377 = .ok (.aload_n 0, 1) := by decide +kernel
theorem dL_law_378 : decode cL_law 378 = .ok (.iload 5, 2) := by decide +kernel
theorem dL_law_380 : decode cL_law 380 = .ok (.iconst 1, 1) := by decide +kernel
theorem dL_law_381 : decode cL_law 381 = .ok (.iadd, 1) := by decide +kernel
theorem dL_law_382 : decode cL_law 382 = .ok (.iaload, 1) := by decide +kernel
theorem dL_law_383 : decode cL_law 383 = .ok (.aload_n 0, 1) := by decide +kernel
theorem dL_law_384 : decode cL_law 384 = .ok (.iload 5, 2) := by decide +kernel
theorem dL_law_386 : decode cL_law 386 = .ok (.iconst 2, 1) := by decide +kernel
theorem dL_law_387 : decode cL_law 387 = .ok (.iadd, 1) := by decide +kernel
theorem dL_law_388 : decode cL_law 388 = .ok (.iaload, 1) := by decide +kernel
theorem dL_law_389 : decode cL_law 389 = .ok (.aload_n 3, 1) := by decide +kernel
theorem dL_law_390 : decode cL_law 390 = .ok (.invokestatic 106, 3) := by decide +kernel
theorem dL_law_393 : decode cL_law 393 = .ok (.istore 6, 2) := by decide +kernel
theorem dL_law_395 : decode cL_law 395 = .ok (.aload_n 2, 1) := by decide +kernel
theorem dL_law_396 : decode cL_law 396 = .ok (.aload_n 0, 1) := by decide +kernel
theorem dL_law_397 : decode cL_law 397 = .ok (.iload 5, 2) := by decide +kernel
theorem dL_law_399 : decode cL_law 399 = .ok (.iconst 1, 1) := by decide +kernel
theorem dL_law_400 : decode cL_law 400 = .ok (.iadd, 1) := by decide +kernel
theorem dL_law_401 : decode cL_law 401 = .ok (.iaload, 1) := by decide +kernel
theorem dL_law_402 : decode cL_law 402 = .ok (.aload_n 0, 1) := by decide +kernel
theorem dL_law_403 : decode cL_law 403 = .ok (.iload 5, 2) := by decide +kernel
theorem dL_law_405 : decode cL_law 405 = .ok (.iconst 2, 1) := by decide +kernel
theorem dL_law_406 : decode cL_law 406 = .ok (.iadd, 1) := by decide +kernel
theorem dL_law_407 : decode cL_law 407 = .ok (.iaload, 1) := by decide +kernel
theorem dL_law_408 : decode cL_law 408 = .ok (.invokevirtual 108, 3) := by decide +kernel
theorem dL_law_411 : decode cL_law 411 = .ok (.istore 7, 2) := by decide +kernel
theorem dL_law_413 : decode cL_law 413 = .ok (.aload_n 2, 1) := by decide +kernel
theorem dL_law_414 : decode cL_law 414 = .ok (.invokevirtual 92, 3) := by decide +kernel
theorem dL_law_417 : decode cL_law 417 = .ok (.iload 6, 2) := by decide +kernel
theorem dL_law_419 : decode cL_law 419 = .ok (.if_icmp .eq 5, 3) := by decide +kernel
theorem dL_law_422 : decode cL_law 422 = .ok (.iconst 0, 1) := by decide +kernel
theorem dL_law_423 : decode cL_law 423 = .ok (.ireturn, 1) := by decide +kernel
theorem dL_law_424 : decode cL_law 424 = .ok (.iload 6, 2) := by decide +kernel
theorem dL_law_426 : decode cL_law 426 = .ok (.ifCond .ne 15, 3) := by decide +kernel
theorem dL_law_429 : decode cL_law 429 = .ok (.aload_n 3, 1) := by decide +kernel
theorem dL_law_430 : decode cL_law 430 = .ok (.iconst 0, 1) := by decide +kernel
theorem dL_law_431 : decode cL_law 431 = .ok (.laload, 1) := by decide +kernel
theorem dL_law_432 : decode cL_law 432 = .ok (.iload 7, 2) := by decide +kernel
theorem dL_law_434 : decode cL_law 434 = .ok (.i2l, 1) := by decide +kernel
theorem dL_law_435 : decode cL_law 435 = .ok (.lcmp, 1) := by decide +kernel
theorem dL_law_436 : decode cL_law 436 = .ok (.ifCond .eq 5, 3) := by decide +kernel
theorem dL_law_439 : decode cL_law 439 = .ok (.iconst 0, 1) := by decide +kernel
theorem dL_law_440 : decode cL_law 440 = .ok (.ireturn, 1) := by decide +kernel
theorem dL_law_441 : decode cL_law 441 = .ok (.goto 1028, 3) := by decide +kernel
theorem dL_law_444 : decode cL_law 444 = .ok (.aload_n 1, 1) := by decide +kernel
theorem dL_law_445 : decode cL_law 445 = .ok (.aload_n 0, 1) := by decide +kernel
theorem dL_law_446 : decode cL_law 446 = .ok (.iload 5, 2) := by decide +kernel
theorem dL_law_448 : decode cL_law 448 = .ok (.iconst 1, 1) := by decide +kernel
theorem dL_law_449 : decode cL_law 449 = .ok (.iadd, 1) := by decide +kernel
theorem dL_law_450 : decode cL_law 450 = .ok (.iaload, 1) := by decide +kernel
theorem dL_law_451 : decode cL_law 451 = .ok (.aload_n 3, 1) := by decide +kernel
end
section
theorem dL_law_452 : decode cL_law 452 = .ok (.invokestatic 109, 3) := by decide +kernel
theorem dL_law_455 : decode cL_law 455 = .ok (.istore 6, 2) := by decide +kernel
theorem dL_law_457 : decode cL_law 457 = .ok (.aload_n 2, 1) := by decide +kernel
theorem dL_law_458 : decode cL_law 458 = .ok (.aload_n 0, 1) := by decide +kernel
theorem dL_law_459 : decode cL_law 459 = .ok (.iload 5, 2) := by decide +kernel
theorem dL_law_461 : decode cL_law 461 = .ok (.iconst 1, 1) := by decide +kernel
theorem dL_law_462 : decode cL_law 462 = .ok (.iadd, 1) := by decide +kernel
theorem dL_law_463 : decode cL_law 463 = .ok (.iaload, 1) := by decide +kernel
theorem dL_law_464 : decode cL_law 464 = .ok (.invokevirtual 111, 3) := by decide +kernel
theorem dL_law_467 : decode cL_law 467 = .ok (.istore 7, 2) := by decide +kernel
theorem dL_law_469 : decode cL_law 469 = .ok (.aload_n 2, 1) := by decide +kernel
theorem dL_law_470 : decode cL_law 470 = .ok (.invokevirtual 92, 3) := by decide +kernel
theorem dL_law_473 : decode cL_law 473 = .ok (.iload 6, 2) := by decide +kernel
theorem dL_law_475 : decode cL_law 475 = .ok (.if_icmp .eq 5, 3) := by decide +kernel
theorem dL_law_478 : decode cL_law 478 = .ok (.iconst 0, 1) := by decide +kernel
theorem dL_law_479 : decode cL_law 479 = .ok (.ireturn, 1) := by decide +kernel
theorem dL_law_480 : decode cL_law 480 = .ok (.iload 6, 2) := by decide +kernel
theorem dL_law_482 : decode cL_law 482 = .ok (.ifCond .ne 22, 3) := by decide +kernel
theorem dL_law_485 : decode cL_law 485 = .ok (.aload_n 3, 1) := by decide +kernel
theorem dL_law_486 : decode cL_law 486 = .ok (.iconst 0, 1) := by decide +kernel
theorem dL_law_487 : decode cL_law 487 = .ok (.laload, 1) := by decide +kernel
theorem dL_law_488 : decode cL_law 488 = .ok (.iload 7, 2) := by decide +kernel
theorem dL_law_490 : decode cL_law 490 = .ok (.ifCond .eq 7, 3) := by decide +kernel
theorem dL_law_493 : decode cL_law 493 = .ok (.lconst 1, 1) := by decide +kernel
theorem dL_law_494 : decode cL_law 494 = .ok (.goto 4, 3) := by decide +kernel
theorem dL_law_497 : decode cL_law 497 = .ok (.lconst 0, 1) := by decide +kernel
theorem dL_law_498 : decode cL_law 498 = .ok (.lcmp, 1) := by decide +kernel
theorem dL_law_499 : decode cL_law 499 = .ok (.ifCond .eq 5, 3) := by decide +kernel
theorem dL_law_502 : decode cL_law 502 = .ok (.iconst 0, 1) := by decide +kernel
theorem dL_law_503 : decode cL_law 503 = .ok (.ireturn, 1) := by decide +kernel
theorem dL_law_504 : decode cL_law 504 = .ok (.goto 965, 3) := by decide +kernel
theorem dL_law_507 : decode cL_law 507 = .ok (.aload_n 1, 1) := by decide +kernel
theorem dL_law_508 : decode cL_law 508 = .ok (.aload_n 0, 1) := by decide +kernel
theorem dL_law_509 : decode cL_law 509 = .ok (.iload 5, 2) := by decide +kernel
theorem dL_law_511 : decode cL_law 511 = .ok (.iconst 1, 1) := by decide +kernel
theorem dL_law_512 : decode cL_law 512 = .ok (.iadd, 1) := by decide +kernel
theorem dL_law_513 : decode cL_law 513 = .ok (.iaload, 1) := by decide +kernel
theorem dL_law_514 : decode cL_law 514 = .ok (.aload_n 3, 1) := by decide +kernel
theorem dL_law_515 : decode cL_law 515 = .ok (.invokestatic 112, 3) := by decide +kernel
theorem dL_law_518 : decode cL_law 518 = .ok (.istore 6, 2) := by decide +kernel
theorem dL_law_520 : decode cL_law 520 = .ok (.aload_n 2, 1) := by decide +kernel
theorem dL_law_521 : decode cL_law 521 = .ok (.aload_n 0, 1) := by decide +kernel
theorem dL_law_522 : decode cL_law 522 = .ok (.iload 5, 2) := by decide +kernel
theorem dL_law_524 : decode cL_law 524 = .ok (.iconst 1, 1) := by decide +kernel
theorem dL_law_525 : decode cL_law 525 = .ok (.iadd, 1) := by decide +kernel
theorem dL_law_526 : decode cL_law 526 = .ok (.iaload, 1) := by decide +kernel
theorem dL_law_527 : decode cL_law 527 = .ok (.invokevirtual 114, 3) := by decide +kernel
theorem dL_law_530 : decode cL_law 530 = .ok (.istore 7, 2) := by decide +kernel
theorem dL_law_532 : decode cL_law 532 = .ok (.aload_n 2, 1) := by decide +kernel
theorem dL_law_533 : decode cL_law 533 = .ok (.invokevirtual 92, 3) := by decide +kernel
theorem dL_law_536 : decode cL_law 536 = .ok (.iload 6, 2) := by decide +kernel
theorem dL_law_538 : decode cL_law 538 = .ok (.if_icmp .eq 5, 3) := by decide +kernel
theorem dL_law_541 : decode cL_law 541 = .ok (.iconst 0, 1) := by decide +kernel
theorem dL_law_542 : decode cL_law 542 = .ok (.ireturn, 1) := by decide +kernel
theorem dL_law_543 : decode cL_law 543 = .ok (.iload 6, 2) := by decide +kernel
theorem dL_law_545 : decode cL_law 545 = .ok (.ifCond .ne 15, 3) := by decide +kernel
theorem dL_law_548 : decode cL_law 548 = .ok (.aload_n 3, 1) := by decide +kernel
theorem dL_law_549 : decode cL_law 549 = .ok (.iconst 0, 1) := by decide +kernel
theorem dL_law_550 : decode cL_law 550 = .ok (.laload, 1) := by decide +kernel
theorem dL_law_551 : decode cL_law 551 = .ok (.iload 7, 2) := by decide +kernel
theorem dL_law_553 : decode cL_law 553 = .ok (.i2l, 1) := by decide +kernel
theorem dL_law_554 : decode cL_law 554 = .ok (.lcmp, 1) := by decide +kernel
theorem dL_law_555 : decode cL_law 555 = .ok (.ifCond .eq 5, 3) := by decide +kernel
theorem dL_law_558 : decode cL_law 558 = .ok (.iconst 0, 1) := by decide +kernel
theorem dL_law_559 : decode cL_law 559 = .ok (.ireturn, 1) := by decide +kernel
theorem dL_law_560 : decode cL_law 560 = .ok (.goto 909, 3) := by decide +kernel
theorem dL_law_563 : decode cL_law 563 = .ok (.aload_n 1, 1) := by decide +kernel
theorem dL_law_564 : decode cL_law 564 = .ok (.invokevirtual 115, 3) := by decide +kernel
theorem dL_law_567 : decode cL_law 567 = .ok (.aload_n 2, 1) := by decide +kernel
theorem dL_law_568 : decode cL_law 568 = .ok (.invokevirtual 118, 3) := by decide +kernel
theorem dL_law_571 : decode cL_law 571 = .ok (.if_icmp .eq 898, 3) := by decide +kernel
theorem dL_law_574 : decode cL_law 574 = .ok (.iconst 0, 1) := by decide +kernel
theorem dL_law_575 : decode cL_law 575 = .ok (.ireturn, 1) := by decide +kernel
theorem dL_law_576 : decode cL_law 576 = .ok (.aload_n 1, 1) := by decide +kernel
theorem dL_law_577 : decode cL_law 577 = .ok (.invokevirtual 119, 3) := by decide +kernel
theorem dL_law_580 : decode cL_law 580 = .ok (.aload_n 2, 1) := by decide +kernel
theorem dL_law_581 : decode cL_law 581 = .ok (.invokevirtual 122, 3) := by decide +kernel
theorem dL_law_584 : decode cL_law 584 = .ok (.if_icmp .eq 885, 3) := by decide +kernel
theorem dL_law_587 : decode cL_law 587 = .ok (.iconst 0, 1) := by decide +kernel
theorem dL_law_588 : decode cL_law 588 = .ok (.ireturn, 1) := by decide +kernel
theorem dL_law_589 : decode cL_law 589 = .ok (.aload_n 1, 1) := by decide +kernel
theorem dL_law_590 : decode cL_law 590 = .ok (.aload_n 0, 1) := by decide +kernel
theorem dL_law_591 : decode cL_law 591 = .ok (.iload 5, 2) := by decide +kernel
theorem dL_law_593 : decode cL_law 593 = .ok (.iconst 1, 1) := by decide +kernel
theorem dL_law_594 : decode cL_law 594 = .ok (.iadd, 1) := by decide +kernel
theorem dL_law_595 : decode cL_law 595 = .ok (.iaload, 1) := by decide +kernel
theorem dL_law_596 : decode cL_law 596 = .ok (.aload_n 3, 1) := by decide +kernel
theorem dL_law_597 : decode cL_law 597 = .ok (.invokestatic 123, 3) := by decide +kernel
theorem dL_law_600 : decode cL_law 600 = .ok (.istore 6, 2) := by decide +kernel
theorem dL_law_602 : decode cL_law 602 = .ok (.aload_n 2, 1) := by decide +kernel
theorem dL_law_603 : decode cL_law 603 = .ok (.aload_n 0, 1) := by decide +kernel
theorem dL_law_604 : decode cL_law 604 = .ok (.iload 5, 2) := by decide +kernel
theorem dL_law_606 : decode cL_law 606 = .ok (.iconst 1, 1) := by decide +kernel
theorem dL_law_607 : decode cL_law 607 = .ok (.iadd, 1) := by decide +kernel
theorem dL_law_608 : decode cL_law 608 = .ok (.iaload, 1) := by decide +kernel
theorem dL_law_609 : decode cL_law 609 = .ok (.invokevirtual 125, 3) := by decide +kernel
theorem dL_law_612 : decode cL_law 612 = .ok (.istore 7, 2) := by decide +kernel
theorem dL_law_614 : decode cL_law 614 = .ok (.aload_n 2, 1) := by decide +kernel
theorem dL_law_615 : decode cL_law 615 = .ok (.invokevirtual 92, 3) := by decide +kernel
theorem dL_law_618 : decode cL_law 618 = .ok (.iload 6, 2) := by decide +kernel
theorem dL_law_620 : decode cL_law 620 = .ok (.if_icmp .eq 5, 3) := by decide +kernel
theorem dL_law_623 : decode cL_law 623 = .ok (.iconst 0, 1) := by decide +kernel
theorem dL_law_624 : decode cL_law 624 = .ok (.ireturn, 1) := by decide +kernel
theorem dL_law_625 : decode cL_law 625 = .ok (.iload 6, 2) := by decide +kernel
theorem dL_law_627 : decode cL_law 627 = .ok (.ifCond .ne 15, 3) := by decide +kernel
theorem dL_law_630 : decode cL_law 630 = .ok (.aload_n 3, 1) := by decide +kernel
theorem dL_law_631 : decode cL_law 631 = .ok (.iconst 0, 1) := by decide +kernel
theorem dL_law_632 : decode cL_law 632 = .ok (.laload, 1) := by decide +kernel
theorem dL_law_633 : decode cL_law 633 = .ok (.iload 7, 2) := by decide +kernel
theorem dL_law_635 : decode cL_law 635 = .ok (.i2l, 1) := by decide +kernel
theorem dL_law_636 : decode cL_law 636 = .ok (.lcmp, 1) := by decide +kernel
theorem dL_law_637 : decode cL_law 637 = .ok (.ifCond .eq 5, 3) := by decide +kernel
theorem dL_law_640 : decode cL_law 640 = .ok (.iconst 0, 1) := by decide +kernel
theorem dL_law_641 : decode cL_law 641 = .ok (.ireturn, 1) := by decide +kernel
theorem dL_law_642 : decode cL_law 642 = .ok (.goto 827, 3) := by decide +kernel
theorem dL_law_645 : decode cL_law 645 = .ok (.aload_n 1, 1) := by decide +kernel
theorem dL_law_646 : decode cL_law 646 = .ok (.invokevirtual 126, 3) := by decide +kernel
theorem dL_law_649 : decode cL_law 649 = .ok (.aload_n 2, 1) := by decide +kernel
theorem dL_law_650 : decode cL_law 650 = .ok (.invokevirtual 129, 3) := by decide +kernel
theorem dL_law_653 : decode cL_law 653 = .ok (.if_icmp .eq 816, 3) := by decide +kernel
theorem dL_law_656 : decode cL_law 656 = .ok (.iconst 0, 1) := by decide +kernel
theorem dL_law_657 : decode cL_law 657 = .ok (.ireturn, 1) := by decide +kernel
theorem dL_law_658 : decode cL_law 658 = .ok (.aload_n 1, 1) := by decide +kernel
theorem dL_law_659 : decode cL_law 659 = .ok (.aload_n 0, 1) := by decide +kernel
theorem dL_law_660 : decode cL_law 660 = .ok (.iload 5, 2) := by decide +kernel
theorem dL_law_662 : decode cL_law 662 = .ok (.iconst 1, 1) := by decide +kernel
theorem dL_law_663 : decode cL_law 663 = .ok (.iadd, 1) := by decide +kernel
theorem dL_law_664 : decode cL_law 664 = .ok (.iaload, 1) := by decide +kernel
theorem dL_law_665 : decode cL_law 665 = .ok (.aload_n 3, 1) := by decide +kernel
theorem dL_law_666 : decode cL_law 666 = .ok (.invokestatic 130, 3) := by decide +kernel
theorem dL_law_669 : decode cL_law 669 = .ok (.istore 6, 2) := by decide +kernel
theorem dL_law_671 : decode cL_law 671 = .ok (.aload_n 2, 1) := by decide +kernel
theorem dL_law_672 : decode cL_law 672 = .ok (.aload_n 0, 1) := by decide +kernel
theorem dL_law_673 : decode cL_law 673 = .ok (.iload 5, 2) := by decide +kernel
theorem dL_law_675 : decode cL_law 675 = .ok (.iconst 1, 1) := by decide +kernel
theorem dL_law_676 : decode cL_law 676 = .ok (.iadd, 1) := by decide +kernel
theorem dL_law_677 : decode cL_law 677 = .ok (.iaload, 1) := by decide +kernel
theorem dL_law_678 : decode cL_law 678 = .ok (.invokevirtual 132, 3) := by decide +kernel
theorem dL_law_681 : decode cL_law 681 = .ok (.istore 7, 2) := by decide +kernel
theorem dL_law_683 : decode cL_law 683 = .ok (.aload_n 2, 1) := by decide +kernel
theorem dL_law_684 : decode cL_law 684 = .ok (.invokevirtual 92, 3) := by decide +kernel
theorem dL_law_687 : decode cL_law 687 = .ok (.iload 6, 2) := by decide +kernel
theorem dL_law_689 : decode cL_law 689 = .ok (.if_icmp .eq 5, 3) := by decide +kernel
theorem dL_law_692 : decode cL_law 692 = .ok (.iconst 0, 1) := by decide +kernel
theorem dL_law_693 : decode cL_law 693 = .ok (.ireturn, 1) := by decide +kernel
theorem dL_law_694 : decode cL_law 694 = .ok (.iload 6, 2) := by decide +kernel
theorem dL_law_696 : decode cL_law 696 = .ok (.ifCond .ne 15, 3) := by decide +kernel
theorem dL_law_699 : decode cL_law 699 = .ok (.aload_n 3, 1) := by decide +kernel
theorem dL_law_700 : decode cL_law 700 = .ok (.iconst 0, 1) := by decide +kernel
theorem dL_law_701 : decode cL_law 701 = .ok (.laload, 1) := by decide +kernel
theorem dL_law_702 : decode cL_law 702 = .ok (.iload 7, 2) := by decide +kernel
theorem dL_law_704 : decode cL_law 704 = .ok (.i2l, 1) := by decide +kernel
theorem dL_law_705 : decode cL_law 705 = .ok (.lcmp, 1) := by decide +kernel
theorem dL_law_706 : decode cL_law 706 = .ok (.ifCond .eq 5, 3) := by decide +kernel
theorem dL_law_709 : decode cL_law 709 = .ok (.iconst 0, 1) := by decide +kernel
theorem dL_law_710 : decode cL_law 710 = .ok (.ireturn, 1) := by decide +kernel
theorem dL_law_711 : decode cL_law 711 = .ok (.goto 758, 3) := by decide +kernel
theorem dL_law_714 : decode cL_law 714 = .ok (.aload_n 1, 1) := by decide +kernel
theorem dL_law_715 : decode cL_law 715 = .ok (.aload_n 0, 1) := by decide +kernel
theorem dL_law_716 : decode cL_law 716 = .ok (.iload 5, 2) := by decide +kernel
theorem dL_law_718 : decode cL_law 718 = .ok (.iconst 1, 1) := by decide +kernel
theorem dL_law_719 : decode cL_law 719 = .ok (.iadd, 1) := by decide +kernel
theorem dL_law_720 : decode cL_law 720 = .ok (.iaload, 1) := by decide +kernel
theorem dL_law_721 : decode cL_law 721 = .ok (.aload_n 3, 1) := by decide +kernel
theorem dL_law_722 : decode cL_law 722 = .ok (.invokestatic 133, 3) := by decide +kernel
theorem dL_law_725 : decode cL_law 725 = .ok (.istore 6, 2) := by decide +kernel
theorem dL_law_727 : decode cL_law 727 = .ok (.aload_n 2, 1) := by decide +kernel
theorem dL_law_728 : decode cL_law 728 = .ok (.aload_n 0, 1) := by decide +kernel
theorem dL_law_729 : decode cL_law 729 = .ok (.iload 5, 2) := by decide +kernel
theorem dL_law_731 : decode cL_law 731 = .ok (.iconst 1, 1) := by decide +kernel
theorem dL_law_732 : decode cL_law 732 = .ok (.iadd, 1) := by decide +kernel
theorem dL_law_733 : decode cL_law 733 = .ok (.iaload, 1) := by decide +kernel
theorem dL_law_734 : decode cL_law 734 = .ok (.invokevirtual 135, 3) := by decide +kernel
theorem dL_law_737 : decode cL_law 737 = .ok (.istore 7, 2) := by decide +kernel
theorem dL_law_739 : decode cL_law 739 = .ok (.aload_n 2, 1) := by decide +kernel
theorem dL_law_740 : decode cL_law 740 = .ok (.invokevirtual 92, 3) := by decide +kernel
theorem dL_law_743 : decode cL_law 743 = .ok (.iload 6, 2) := by decide +kernel
theorem dL_law_745 : decode cL_law 745 = .ok (.if_icmp .eq 5, 3) := by decide +kernel
theorem dL_law_748 : decode cL_law 748 = .ok (.iconst 0, 1) := by decide +kernel
theorem dL_law_749 : decode cL_law 749 = .ok (.ireturn, 1) := by decide +kernel
theorem dL_law_750 : decode cL_law 750 = .ok (.iload 6, 2) := by decide +kernel
theorem dL_law_752 : decode cL_law 752 = .ok (.ifCond .ne 15, 3) := by decide +kernel
theorem dL_law_755 : decode cL_law 755 = .ok (.aload_n 3, 1) := by decide +kernel
theorem dL_law_756 : decode cL_law 756 = .ok (.iconst 0, 1) := by decide +kernel
theorem dL_law_757 : decode cL_law 757 = .ok (.laload, 1) := by decide +kernel
theorem dL_law_758 : decode cL_law 758 = .ok (.iload 7, 2) := by decide +kernel
theorem dL_law_760 : decode cL_law 760 = .ok (.i2l, 1) := by decide +kernel
theorem dL_law_761 : decode cL_law 761 = .ok (.lcmp, 1) := by decide +kernel
theorem dL_law_762 : decode cL_law 762 = .ok (.ifCond .eq 5, 3) := by decide +kernel
theorem dL_law_765 : decode cL_law 765 = .ok (.iconst 0, 1) := by decide +kernel
theorem dL_law_766 : decode cL_law 766 = .ok (.ireturn, 1) := by decide +kernel
theorem dL_law_767 : decode cL_law 767 = .ok (.goto 702, 3) := by decide +kernel
theorem dL_law_770 : decode cL_law 770 = .ok (.aload_n 1, 1) := by decide +kernel
theorem dL_law_771 : decode cL_law 771 = .ok (.aload_n 0, 1) := by decide +kernel
theorem dL_law_772 : decode cL_law 772 = .ok (.iload 5, 2) := by decide +kernel
theorem dL_law_774 : decode cL_law 774 = .ok (.iconst 1, 1) := by decide +kernel
theorem dL_law_775 : decode cL_law 775 = .ok (.iadd, 1) := by decide +kernel
theorem dL_law_776 : decode cL_law 776 = .ok (.iaload, 1) := by decide +kernel
theorem dL_law_777 : decode cL_law 777 = .ok (.aload_n 0, 1) := by decide +kernel
theorem dL_law_778 : decode cL_law 778 = .ok (.iload 5, 2) := by decide +kernel
theorem dL_law_780 : decode cL_law 780 = .ok (.iconst 2, 1) := by decide +kernel
theorem dL_law_781 : decode cL_law 781 = .ok (.iadd, 1) := by decide +kernel
theorem dL_law_782 : decode cL_law 782 = .ok (.iaload, 1) := by decide +kernel
theorem dL_law_783 : decode cL_law 783 = .ok (.aload_n 0, 1) := by decide +kernel
theorem dL_law_784 : decode cL_law 784 = .ok (.iload 5, 2) := by decide +kernel
theorem dL_law_786 : decode cL_law 786 = .ok (.iconst 3, 1) := by decide +kernel
theorem dL_law_787 : decode cL_law 787 = .ok (.iadd, 1) := by decide +kernel
theorem dL_law_788 : decode cL_law 788 = .ok (.iaload, 1) := by decide +kernel
theorem dL_law_789 : decode cL_law 789 = .ok (.aload_n 3, 1) := by decide +kernel
theorem dL_law_790 : decode cL_law 790 = .ok (.invokestatic 136, 3) := by decide +kernel
theorem dL_law_793 : decode cL_law 793 = .ok (.istore 6, 2) := by decide +kernel
theorem dL_law_795 : decode cL_law 795 = .ok (.aload_n 2, 1) := by decide +kernel
theorem dL_law_796 : decode cL_law 796 = .ok (.aload_n 0, 1) := by decide +kernel
theorem dL_law_797 : decode cL_law 797 = .ok (.iload 5, 2) := by decide +kernel
theorem dL_law_799 : decode cL_law 799 = .ok (.iconst 1, 1) := by decide +kernel
theorem dL_law_800 : decode cL_law 800 = .ok (.iadd, 1) := by decide +kernel
theorem dL_law_801 : decode cL_law 801 = .ok (.iaload, 1) := by decide +kernel
theorem dL_law_802 : decode cL_law 802 = .ok (.aload_n 0, 1) := by decide +kernel
theorem dL_law_803 : decode cL_law 803 = .ok (.iload 5, 2) := by decide +kernel
theorem dL_law_805 : decode cL_law 805 = .ok (.iconst 2, 1) := by decide +kernel
end
section
theorem dL_law_806 : decode cL_law 806 = .ok (.iadd, 1) := by decide +kernel
theorem dL_law_807 : decode cL_law 807 = .ok (.iaload, 1) := by decide +kernel
theorem dL_law_808 : decode cL_law 808 = .ok (.aload_n 0, 1) := by decide +kernel
theorem dL_law_809 : decode cL_law 809 = .ok (.iload 5, 2) := by decide +kernel
theorem dL_law_811 : decode cL_law 811 = .ok (.iconst 3, 1) := by decide +kernel
theorem dL_law_812 : decode cL_law 812 = .ok (.iadd, 1) := by decide +kernel
theorem dL_law_813 : decode cL_law 813 = .ok (.iaload, 1) := by decide +kernel
theorem dL_law_814 : decode cL_law 814 = .ok (.invokevirtual 139, 3) := by decide +kernel
theorem dL_law_817 : decode cL_law 817 = .ok (.istore 7, 2) := by decide +kernel
theorem dL_law_819 : decode cL_law 819 = .ok (.aload_n 2, 1) := by decide +kernel
theorem dL_law_820 : decode cL_law 820 = .ok (.invokevirtual 92, 3) := by decide +kernel
theorem dL_law_823 : decode cL_law 823 = .ok (.iload 6, 2) := by decide +kernel
theorem dL_law_825 : decode cL_law 825 = .ok (.if_icmp .eq 5, 3) := by decide +kernel
theorem dL_law_828 : decode cL_law 828 = .ok (.iconst 0, 1) := by decide +kernel
theorem dL_law_829 : decode cL_law 829 = .ok (.ireturn, 1) := by decide +kernel
theorem dL_law_830 : decode cL_law 830 = .ok (.iload 6, 2) := by decide +kernel
theorem dL_law_832 : decode cL_law 832 = .ok (.ifCond .ne 22, 3) := by decide +kernel
theorem dL_law_835 : decode cL_law 835 = .ok (.aload_n 3, 1) := by decide +kernel
theorem dL_law_836 : decode cL_law 836 = .ok (.iconst 0, 1) := by decide +kernel
theorem dL_law_837 : decode cL_law 837 = .ok (.laload, 1) := by decide +kernel
theorem dL_law_838 : decode cL_law 838 = .ok (.iload 7, 2) := by decide +kernel
theorem dL_law_840 : decode cL_law 840 = .ok (.ifCond .eq 7, 3) := by decide +kernel
theorem dL_law_843 : decode cL_law 843 = .ok (.lconst 1, 1) := by decide +kernel
theorem dL_law_844 : decode cL_law 844 = .ok (.goto 4, 3) := by decide +kernel
theorem dL_law_847 : decode cL_law 847 = .ok (.lconst 0, 1) := by decide +kernel
theorem dL_law_848 : decode cL_law 848 = .ok (.lcmp, 1) := by decide +kernel
theorem dL_law_849 : decode cL_law 849 = .ok (.ifCond .eq 5, 3) := by decide +kernel
theorem dL_law_852 : decode cL_law 852 = .ok (.iconst 0, 1) := by decide +kernel
theorem dL_law_853 : decode cL_law 853 = .ok (.ireturn, 1) := by decide +kernel
theorem dL_law_854 : decode cL_law 854 = .ok (.goto 615, 3) := by decide +kernel
theorem dL_law_857 : decode cL_law 857 = .ok (.aload_n 1, 1) := by decide +kernel
theorem dL_law_858 : decode cL_law 858 = .ok (.aload_n 0, 1) := by decide +kernel
theorem dL_law_859 : decode cL_law 859 = .ok (.iload 5, 2) := by decide +kernel
theorem dL_law_861 : decode cL_law 861 = .ok (.iconst 1, 1) := by decide +kernel
theorem dL_law_862 : decode cL_law 862 = .ok (.iadd, 1) := by decide +kernel
theorem dL_law_863 : decode cL_law 863 = .ok (.iaload, 1) := by decide +kernel
theorem dL_law_864 : decode cL_law 864 = .ok (.aload_n 3, 1) := by decide +kernel
theorem dL_law_865 : decode cL_law 865 = .ok (.invokestatic 140, 3) := by decide +kernel
theorem dL_law_868 : decode cL_law 868 = .ok (.istore 6, 2) := by decide +kernel
theorem dL_law_870 : decode cL_law 870 = .ok (.aload_n 2, 1) := by decide +kernel
theorem dL_law_871 : decode cL_law 871 = .ok (.aload_n 0, 1) := by decide +kernel
theorem dL_law_872 : decode cL_law 872 = .ok (.iload 5, 2) := by decide +kernel
theorem dL_law_874 : decode cL_law 874 = .ok (.iconst 1, 1) := by decide +kernel
theorem dL_law_875 : decode cL_law 875 = .ok (.iadd, 1) := by decide +kernel
theorem dL_law_876 : decode cL_law 876 = .ok (.iaload, 1) := by decide +kernel
theorem dL_law_877 : decode cL_law 877 = .ok (.invokevirtual 142, 3) := by decide +kernel
theorem dL_law_880 : decode cL_law 880 = .ok (.istore 7, 2) := by decide +kernel
theorem dL_law_882 : decode cL_law 882 = .ok (.aload_n 2, 1) := by decide +kernel
theorem dL_law_883 : decode cL_law 883 = .ok (.invokevirtual 92, 3) := by decide +kernel
theorem dL_law_886 : decode cL_law 886 = .ok (.iload 6, 2) := by decide +kernel
theorem dL_law_888 : decode cL_law 888 = .ok (.if_icmp .eq 5, 3) := by decide +kernel
theorem dL_law_891 : decode cL_law 891 = .ok (.iconst 0, 1) := by decide +kernel
theorem dL_law_892 : decode cL_law 892 = .ok (.ireturn, 1) := by decide +kernel
theorem dL_law_893 : decode cL_law 893 = .ok (.iload 6, 2) := by decide +kernel
theorem dL_law_895 : decode cL_law 895 = .ok (.ifCond .ne 15, 3) := by decide +kernel
theorem dL_law_898 : decode cL_law 898 = .ok (.aload_n 3, 1) := by decide +kernel
theorem dL_law_899 : decode cL_law 899 = .ok (.iconst 0, 1) := by decide +kernel
theorem dL_law_900 : decode cL_law 900 = .ok (.laload, 1) := by decide +kernel
theorem dL_law_901 : decode cL_law 901 = .ok (.iload 7, 2) := by decide +kernel
theorem dL_law_903 : decode cL_law 903 = .ok (.i2l, 1) := by decide +kernel
theorem dL_law_904 : decode cL_law 904 = .ok (.lcmp, 1) := by decide +kernel
theorem dL_law_905 : decode cL_law 905 = .ok (.ifCond .eq 5, 3) := by decide +kernel
theorem dL_law_908 : decode cL_law 908 = .ok (.iconst 0, 1) := by decide +kernel
theorem dL_law_909 : decode cL_law 909 = .ok (.ireturn, 1) := by decide +kernel
theorem dL_law_910 : decode cL_law 910 = .ok (.goto 559, 3) := by decide +kernel
theorem dL_law_913 : decode cL_law 913 = .ok (.aload_n 1, 1) := by decide +kernel
theorem dL_law_914 : decode cL_law 914 = .ok (.aload_n 0, 1) := by decide +kernel
theorem dL_law_915 : decode cL_law 915 = .ok (.iload 5, 2) := by decide +kernel
theorem dL_law_917 : decode cL_law 917 = .ok (.iconst 1, 1) := by decide +kernel
theorem dL_law_918 : decode cL_law 918 = .ok (.iadd, 1) := by decide +kernel
theorem dL_law_919 : decode cL_law 919 = .ok (.iaload, 1) := by decide +kernel
theorem dL_law_920 : decode cL_law 920 = .ok (.aload_n 0, 1) := by decide +kernel
theorem dL_law_921 : decode cL_law 921 = .ok (.iload 5, 2) := by decide +kernel
theorem dL_law_923 : decode cL_law 923 = .ok (.iconst 2, 1) := by decide +kernel
theorem dL_law_924 : decode cL_law 924 = .ok (.iadd, 1) := by decide +kernel
theorem dL_law_925 : decode cL_law 925 = .ok (.iaload, 1) := by decide +kernel
theorem dL_law_926 : decode cL_law 926 = .ok (.aload_n 3, 1) := by decide +kernel
theorem dL_law_927 : decode cL_law 927 = .ok (.invokestatic 143, 3) := by decide +kernel
theorem dL_law_930 : decode cL_law 930 = .ok (.istore 6, 2) := by decide +kernel
theorem dL_law_932 : decode cL_law 932 = .ok (.aload_n 2, 1) := by decide +kernel
theorem dL_law_933 : decode cL_law 933 = .ok (.aload_n 0, 1) := by decide +kernel
theorem dL_law_934 : decode cL_law 934 = .ok (.iload 5, 2) := by decide +kernel
theorem dL_law_936 : decode cL_law 936 = .ok (.iconst 1, 1) := by decide +kernel
theorem dL_law_937 : decode cL_law 937 = .ok (.iadd, 1) := by decide +kernel
theorem dL_law_938 : decode cL_law 938 = .ok (.iaload, 1) := by decide +kernel
theorem dL_law_939 : decode cL_law 939 = .ok (.aload_n 0, 1) := by decide +kernel
theorem dL_law_940 : decode cL_law 940 = .ok (.iload 5, 2) := by decide +kernel
theorem dL_law_942 : decode cL_law 942 = .ok (.iconst 2, 1) := by decide +kernel
theorem dL_law_943 : decode cL_law 943 = .ok (.iadd, 1) := by decide +kernel
theorem dL_law_944 : decode cL_law 944 = .ok (.iaload, 1) := by decide +kernel
theorem dL_law_945 : decode cL_law 945 = .ok (.invokevirtual 145, 3) := by decide +kernel
theorem dL_law_948 : decode cL_law 948 = .ok (.istore 7, 2) := by decide +kernel
theorem dL_law_950 : decode cL_law 950 = .ok (.aload_n 2, 1) := by decide +kernel
theorem dL_law_951 : decode cL_law 951 = .ok (.invokevirtual 92, 3) := by decide +kernel
theorem dL_law_954 : decode cL_law 954 = .ok (.iload 6, 2) := by decide +kernel
theorem dL_law_956 : decode cL_law 956 = .ok (.if_icmp .eq 5, 3) := by decide +kernel
theorem dL_law_959 : decode cL_law 959 = .ok (.iconst 0, 1) := by decide +kernel
theorem dL_law_960 : decode cL_law 960 = .ok (.ireturn, 1) := by decide +kernel
theorem dL_law_961 : decode cL_law 961 = .ok (.iload 6, 2) := by decide +kernel
theorem dL_law_963 : decode cL_law 963 = .ok (.ifCond .ne 15, 3) := by decide +kernel
theorem dL_law_966 : decode cL_law 966 = .ok (.aload_n 3, 1) := by decide +kernel
theorem dL_law_967 : decode cL_law 967 = .ok (.iconst 0, 1) := by decide +kernel
theorem dL_law_968 : decode cL_law 968 = .ok (.laload, 1) := by decide +kernel
theorem dL_law_969 : decode cL_law 969 = .ok (.iload 7, 2) := by decide +kernel
theorem dL_law_971 : decode cL_law 971 = .ok (.i2l, 1) := by decide +kernel
theorem dL_law_972 : decode cL_law 972 = .ok (.lcmp, 1) := by decide +kernel
theorem dL_law_973 : decode cL_law 973 = .ok (.ifCond .eq 5, 3) := by decide +kernel
theorem dL_law_976 : decode cL_law 976 = .ok (.iconst 0, 1) := by decide +kernel
theorem dL_law_977 : decode cL_law 977 = .ok (.ireturn, 1) := by decide +kernel
theorem dL_law_978 : decode cL_law 978 = .ok (.goto 491, 3) := by decide +kernel
theorem dL_law_981 : decode cL_law 981 = .ok (.aload_n 1, 1) := by decide +kernel
theorem dL_law_982 : decode cL_law 982 = .ok (.aload_n 0, 1) := by decide +kernel
theorem dL_law_983 : decode cL_law 983 = .ok (.iload 5, 2) := by decide +kernel
theorem dL_law_985 : decode cL_law 985 = .ok (.iconst 1, 1) := by decide +kernel
theorem dL_law_986 : decode cL_law 986 = .ok (.iadd, 1) := by decide +kernel
theorem dL_law_987 : decode cL_law 987 = .ok (.iaload, 1) := by decide +kernel
theorem dL_law_988 : decode cL_law 988 = .ok (.aload_n 0, 1) := by decide +kernel
theorem dL_law_989 : decode cL_law 989 = .ok (.iload 5, 2) := by decide +kernel
theorem dL_law_991 : decode cL_law 991 = .ok (.iconst 2, 1) := by decide +kernel
theorem dL_law_992 : decode cL_law 992 = .ok (.iadd, 1) := by decide +kernel
theorem dL_law_993 : decode cL_law 993 = .ok (.iaload, 1) := by decide +kernel
theorem dL_law_994 : decode cL_law 994 = .ok (.aload_n 3, 1) := by decide +kernel
theorem dL_law_995 : decode cL_law 995 = .ok (.invokestatic 146, 3) := by decide +kernel
theorem dL_law_998 : decode cL_law 998 = .ok (.istore 6, 2) := by decide +kernel
theorem dL_law_1000 : decode cL_law 1000 = .ok (.aload_n 2, 1) := by decide +kernel
theorem dL_law_1001 : decode cL_law 1001 = .ok (.aload_n 0, 1) := by decide +kernel
theorem dL_law_1002 : decode cL_law 1002 = .ok (.iload 5, 2) := by decide +kernel
theorem dL_law_1004 : decode cL_law 1004 = .ok (.iconst 1, 1) := by decide +kernel
theorem dL_law_1005 : decode cL_law 1005 = .ok (.iadd, 1) := by decide +kernel
theorem dL_law_1006 : decode cL_law 1006 = .ok (.iaload, 1) := by decide +kernel
theorem dL_law_1007 : decode cL_law 1007 = .ok (.aload_n 0, 1) := by decide +kernel
theorem dL_law_1008 : decode cL_law 1008 = .ok (.iload 5, 2) := by decide +kernel
theorem dL_law_1010 : decode cL_law 1010 = .ok (.iconst 2, 1) := by decide +kernel
theorem dL_law_1011 : decode cL_law 1011 = .ok (.iadd, 1) := by decide +kernel
theorem dL_law_1012 : decode cL_law 1012 = .ok (.iaload, 1) := by decide +kernel
theorem dL_law_1013 : decode cL_law 1013 = .ok (.invokevirtual 148, 3) := by decide +kernel
theorem dL_law_1016 : decode cL_law 1016 = .ok (.istore 7, 2) := by decide +kernel
theorem dL_law_1018 : decode cL_law 1018 = .ok (.aload_n 2, 1) := by decide +kernel
theorem dL_law_1019 : decode cL_law 1019 = .ok (.invokevirtual 92, 3) := by decide +kernel
theorem dL_law_1022 : decode cL_law 1022 = .ok (.iload 6, 2) := by decide +kernel
theorem dL_law_1024 : decode cL_law 1024 = .ok (.if_icmp .eq 5, 3) := by decide +kernel
theorem dL_law_1027 : decode cL_law 1027 = .ok (.iconst 0, 1) := by decide +kernel
theorem dL_law_1028 : decode cL_law 1028 = .ok (.ireturn, 1) := by decide +kernel
theorem dL_law_1029 : decode cL_law 1029 = .ok (.iload 6, 2) := by decide +kernel
theorem dL_law_1031 : decode cL_law 1031 = .ok (.ifCond .ne 15, 3) := by decide +kernel
theorem dL_law_1034 : decode cL_law 1034 = .ok (.aload_n 3, 1) := by decide +kernel
theorem dL_law_1035 : decode cL_law 1035 = .ok (.iconst 0, 1) := by decide +kernel
theorem dL_law_1036 : decode cL_law 1036 = .ok (.laload, 1) := by decide +kernel
theorem dL_law_1037 : decode cL_law 1037 = .ok (.iload 7, 2) := by decide +kernel
theorem dL_law_1039 : decode cL_law 1039 = .ok (.i2l, 1) := by decide +kernel
theorem dL_law_1040 : decode cL_law 1040 = .ok (.lcmp, 1) := by decide +kernel
theorem dL_law_1041 : decode cL_law 1041 = .ok (.ifCond .eq 5, 3) := by decide +kernel
theorem dL_law_1044 : decode cL_law 1044 = .ok (.iconst 0, 1) := by decide +kernel
theorem dL_law_1045 : decode cL_law 1045 = .ok (.ireturn, 1) := by decide +kernel
theorem dL_law_1046 : decode cL_law 1046 = .ok (.goto 423, 3) := by decide +kernel
theorem dL_law_1049 : decode cL_law 1049 = .ok (.aload_n 1, 1) := by decide +kernel
theorem dL_law_1050 : decode cL_law 1050 = .ok (.aload_n 0, 1) := by decide +kernel
theorem dL_law_1051 : decode cL_law 1051 = .ok (.iload 5, 2) := by decide +kernel
theorem dL_law_1053 : decode cL_law 1053 = .ok (.iconst 1, 1) := by decide +kernel
theorem dL_law_1054 : decode cL_law 1054 = .ok (.iadd, 1) := by decide +kernel
theorem dL_law_1055 : decode cL_law 1055 = .ok (.iaload, 1) := by decide +kernel
theorem dL_law_1056 : decode cL_law 1056 = .ok (.aload_n 0, 1) := by decide +kernel
theorem dL_law_1057 : decode cL_law 1057 = .ok (.iload 5, 2) := by decide +kernel
theorem dL_law_1059 : decode cL_law 1059 = .ok (.iconst 2, 1) := by decide +kernel
theorem dL_law_1060 : decode cL_law 1060 = .ok (.iadd, 1) := by decide +kernel
theorem dL_law_1061 : decode cL_law 1061 = .ok (.iaload, 1) := by decide +kernel
theorem dL_law_1062 : decode cL_law 1062 = .ok (.aload_n 3, 1) := by decide +kernel
theorem dL_law_1063 : decode cL_law 1063 = .ok (.invokestatic 149, 3) := by decide +kernel
theorem dL_law_1066 : decode cL_law 1066 = .ok (.istore 6, 2) := by decide +kernel
theorem dL_law_1068 : decode cL_law 1068 = .ok (.aload_n 2, 1) := by decide +kernel
theorem dL_law_1069 : decode cL_law 1069 = .ok (.aload_n 0, 1) := by decide +kernel
theorem dL_law_1070 : decode cL_law 1070 = .ok (.iload 5, 2) := by decide +kernel
theorem dL_law_1072 : decode cL_law 1072 = .ok (.iconst 1, 1) := by decide +kernel
theorem dL_law_1073 : decode cL_law 1073 = .ok (.iadd, 1) := by decide +kernel
theorem dL_law_1074 : decode cL_law 1074 = .ok (.iaload, 1) := by decide +kernel
theorem dL_law_1075 : decode cL_law 1075 = .ok (.aload_n 0, 1) := by decide +kernel
theorem dL_law_1076 : decode cL_law 1076 = .ok (.iload 5, 2) := by decide +kernel
theorem dL_law_1078 : decode cL_law 1078 = .ok (.iconst 2, 1) := by decide +kernel
theorem dL_law_1079 : decode cL_law 1079 = .ok (.iadd, 1) := by decide +kernel
theorem dL_law_1080 : decode cL_law 1080 = .ok (.iaload, 1) := by decide +kernel
theorem dL_law_1081 : decode cL_law 1081 = .ok (.invokevirtual 151, 3) := by decide +kernel
theorem dL_law_1084 : decode cL_law 1084 = .ok (.istore 7, 2) := by decide +kernel
theorem dL_law_1086 : decode cL_law 1086 = .ok (.aload_n 2, 1) := by decide +kernel
theorem dL_law_1087 : decode cL_law 1087 = .ok (.invokevirtual 92, 3) := by decide +kernel
theorem dL_law_1090 : decode cL_law 1090 = .ok (.iload 6, 2) := by decide +kernel
theorem dL_law_1092 : decode cL_law 1092 = .ok (.if_icmp .eq 5, 3) := by decide +kernel
theorem dL_law_1095 : decode cL_law 1095 = .ok (.iconst 0, 1) := by decide +kernel
theorem dL_law_1096 : decode cL_law 1096 = .ok (.ireturn, 1) := by decide +kernel
theorem dL_law_1097 : decode cL_law 1097 = .ok (.iload 6, 2) := by decide +kernel
theorem dL_law_1099 : decode cL_law 1099 = .ok (.ifCond .ne 15, 3) := by decide +kernel
theorem dL_law_1102 : decode cL_law 1102 = .ok (.aload_n 3, 1) := by decide +kernel
theorem dL_law_1103 : decode cL_law 1103 = .ok (.iconst 0, 1) := by decide +kernel
theorem dL_law_1104 : decode cL_law 1104 = .ok (.laload, 1) := by decide +kernel
theorem dL_law_1105 : decode cL_law 1105 = .ok (.iload 7, 2) := by decide +kernel
theorem dL_law_1107 : decode cL_law 1107 = .ok (.i2l, 1) := by decide +kernel
theorem dL_law_1108 : decode cL_law 1108 = .ok (.lcmp, 1) := by decide +kernel
theorem dL_law_1109 : decode cL_law 1109 = .ok (.ifCond .eq 5, 3) := by decide +kernel
theorem dL_law_1112 : decode cL_law 1112 = .ok (.iconst 0, 1) := by decide +kernel
theorem dL_law_1113 : decode cL_law 1113 = .ok (.ireturn, 1) := by decide +kernel
theorem dL_law_1114 : decode cL_law 1114 = .ok (.goto 355, 3) := by decide +kernel
theorem dL_law_1117 : decode cL_law 1117 = .ok (.aload_n 1, 1) := by decide +kernel
theorem dL_law_1118 : decode cL_law 1118 = .ok (.aload_n 0, 1) := by decide +kernel
theorem dL_law_1119 : decode cL_law 1119 = .ok (.iload 5, 2) := by decide +kernel
theorem dL_law_1121 : decode cL_law 1121 = .ok (.iconst 1, 1) := by decide +kernel
theorem dL_law_1122 : decode cL_law 1122 = .ok (.iadd, 1) := by decide +kernel
theorem dL_law_1123 : decode cL_law 1123 = .ok (.iaload, 1) := by decide +kernel
theorem dL_law_1124 : decode cL_law 1124 = .ok (.aload_n 0, 1) := by decide +kernel
theorem dL_law_1125 : decode cL_law 1125 = .ok (.iload 5, 2) := by decide +kernel
theorem dL_law_1127 : decode cL_law 1127 = .ok (.iconst 2, 1) := by decide +kernel
theorem dL_law_1128 : decode cL_law 1128 = .ok (.iadd, 1) := by decide +kernel
theorem dL_law_1129 : decode cL_law 1129 = .ok (.iaload, 1) := by decide +kernel
theorem dL_law_1130 : decode cL_law 1130 = .ok (.aload_n 3, 1) := by decide +kernel
theorem dL_law_1131 : decode cL_law 1131 = .ok (.invokestatic 152, 3) := by decide +kernel
theorem dL_law_1134 : decode cL_law 1134 = .ok (.istore 6, 2) := by decide +kernel
theorem dL_law_1136 : decode cL_law 1136 = .ok (.aload_n 2, 1) := by decide +kernel
theorem dL_law_1137 : decode cL_law 1137 = .ok (.aload_n 0, 1) := by decide +kernel
theorem dL_law_1138 : decode cL_law 1138 = .ok (.iload 5, 2) := by decide +kernel
theorem dL_law_1140 : decode cL_law 1140 = .ok (.iconst 1, 1) := by decide +kernel
theorem dL_law_1141 : decode cL_law 1141 = .ok (.iadd, 1) := by decide +kernel
theorem dL_law_1142 : decode cL_law 1142 = .ok (.iaload, 1) := by decide +kernel
end
section
theorem dL_law_1143 : decode cL_law 1143 = .ok (.aload_n 0, 1) := by decide +kernel
theorem dL_law_1144 : decode cL_law 1144 = .ok (.iload 5, 2) := by decide +kernel
theorem dL_law_1146 : decode cL_law 1146 = .ok (.iconst 2, 1) := by decide +kernel
theorem dL_law_1147 : decode cL_law 1147 = .ok (.iadd, 1) := by decide +kernel
theorem dL_law_1148 : decode cL_law 1148 = .ok (.iaload, 1) := by decide +kernel
theorem dL_law_1149 : decode cL_law 1149 = .ok (.invokevirtual 154, 3) := by decide +kernel
theorem dL_law_1152 : decode cL_law 1152 = .ok (.istore 7, 2) := by decide +kernel
theorem dL_law_1154 : decode cL_law 1154 = .ok (.aload_n 2, 1) := by decide +kernel
theorem dL_law_1155 : decode cL_law 1155 = .ok (.invokevirtual 92, 3) := by decide +kernel
theorem dL_law_1158 : decode cL_law 1158 = .ok (.iload 6, 2) := by decide +kernel
theorem dL_law_1160 : decode cL_law 1160 = .ok (.if_icmp .eq 5, 3) := by decide +kernel
theorem dL_law_1163 : decode cL_law 1163 = .ok (.iconst 0, 1) := by decide +kernel
theorem dL_law_1164 : decode cL_law 1164 = .ok (.ireturn, 1) := by decide +kernel
theorem dL_law_1165 : decode cL_law 1165 = .ok (.iload 6, 2) := by decide +kernel
theorem dL_law_1167 : decode cL_law 1167 = .ok (.ifCond .ne 22, 3) := by decide +kernel
theorem dL_law_1170 : decode cL_law 1170 = .ok (.aload_n 3, 1) := by decide +kernel
theorem dL_law_1171 : decode cL_law 1171 = .ok (.iconst 0, 1) := by decide +kernel
theorem dL_law_1172 : decode cL_law 1172 = .ok (.laload, 1) := by decide +kernel
theorem dL_law_1173 : decode cL_law 1173 = .ok (.iload 7, 2) := by decide +kernel
theorem dL_law_1175 : decode cL_law 1175 = .ok (.ifCond .eq 7, 3) := by decide +kernel
theorem dL_law_1178 : decode cL_law 1178 = .ok (.lconst 1, 1) := by decide +kernel
theorem dL_law_1179 : decode cL_law 1179 = .ok (.goto 4, 3) := by decide +kernel
theorem dL_law_1182 : decode cL_law 1182 = .ok (.lconst 0, 1) := by decide +kernel
theorem dL_law_1183 : decode cL_law 1183 = .ok (.lcmp, 1) := by decide +kernel
theorem dL_law_1184 : decode cL_law 1184 = .ok (.ifCond .eq 5, 3) := by decide +kernel
theorem dL_law_1187 : decode cL_law 1187 = .ok (.iconst 0, 1) := by decide +kernel
theorem dL_law_1188 : decode cL_law 1188 = .ok (.ireturn, 1) := by decide +kernel
theorem dL_law_1189 : decode cL_law 1189 = .ok (.goto 280, 3) := by decide +kernel
theorem dL_law_1192 : decode cL_law 1192 = .ok (.aload_n 1, 1) := by decide +kernel
theorem dL_law_1193 : decode cL_law 1193 = .ok (.aload_n 0, 1) := by decide +kernel
theorem dL_law_1194 : decode cL_law 1194 = .ok (.iload 5, 2) := by decide +kernel
theorem dL_law_1196 : decode cL_law 1196 = .ok (.iconst 1, 1) := by decide +kernel
theorem dL_law_1197 : decode cL_law 1197 = .ok (.iadd, 1) := by decide +kernel
theorem dL_law_1198 : decode cL_law 1198 = .ok (.iaload, 1) := by decide +kernel
theorem dL_law_1199 : decode cL_law 1199 = .ok (.aload_n 0, 1) := by decide +kernel
theorem dL_law_1200 : decode cL_law 1200 = .ok (.iload 5, 2) := by decide +kernel
theorem dL_law_1202 : decode cL_law 1202 = .ok (.iconst 2, 1) := by decide +kernel
theorem dL_law_1203 : decode cL_law 1203 = .ok (.iadd, 1) := by decide +kernel
theorem dL_law_1204 : decode cL_law 1204 = .ok (.iaload, 1) := by decide +kernel
theorem dL_law_1205 : decode cL_law 1205 = .ok (.aload_n 3, 1) := by decide +kernel
theorem dL_law_1206 : decode cL_law 1206 = .ok (.invokestatic 155, 3) := by decide +kernel
theorem dL_law_1209 : decode cL_law 1209 = .ok (.istore 6, 2) := by decide +kernel
theorem dL_law_1211 : decode cL_law 1211 = .ok (.aload_n 2, 1) := by decide +kernel
theorem dL_law_1212 : decode cL_law 1212 = .ok (.aload_n 0, 1) := by decide +kernel
theorem dL_law_1213 : decode cL_law 1213 = .ok (.iload 5, 2) := by decide +kernel
theorem dL_law_1215 : decode cL_law 1215 = .ok (.iconst 1, 1) := by decide +kernel
theorem dL_law_1216 : decode cL_law 1216 = .ok (.iadd, 1) := by decide +kernel
theorem dL_law_1217 : decode cL_law 1217 = .ok (.iaload, 1) := by decide +kernel
theorem dL_law_1218 : decode cL_law 1218 = .ok (.aload_n 0, 1) := by decide +kernel
theorem dL_law_1219 : decode cL_law 1219 = .ok (.iload 5, 2) := by decide +kernel
theorem dL_law_1221 : decode cL_law 1221 = .ok (.iconst 2, 1) := by decide +kernel
theorem dL_law_1222 : decode cL_law 1222 = .ok (.iadd, 1) := by decide +kernel
theorem dL_law_1223 : decode cL_law 1223 = .ok (.iaload, 1) := by decide +kernel
theorem dL_law_1224 : decode cL_law 1224 = .ok (.invokevirtual 157, 3) := by decide +kernel
theorem dL_law_1227 : decode cL_law 1227 = .ok (.istore 7, 2) := by decide +kernel
theorem dL_law_1229 : decode cL_law 1229 = .ok (.aload_n 2, 1) := by decide +kernel
theorem dL_law_1230 : decode cL_law 1230 = .ok (.invokevirtual 92, 3) := by decide +kernel
theorem dL_law_1233 : decode cL_law 1233 = .ok (.iload 6, 2) := by decide +kernel
theorem dL_law_1235 : decode cL_law 1235 = .ok (.if_icmp .eq 5, 3) := by decide +kernel
theorem dL_law_1238 : decode cL_law 1238 = .ok (.iconst 0, 1) := by decide +kernel
theorem dL_law_1239 : decode cL_law 1239 = .ok (.ireturn, 1) := by decide +kernel
theorem dL_law_1240 : decode cL_law 1240 = .ok (.iload 6, 2) := by decide +kernel
theorem dL_law_1242 : decode cL_law 1242 = .ok (.ifCond .ne 15, 3) := by decide +kernel
theorem dL_law_1245 : decode cL_law 1245 = .ok (.aload_n 3, 1) := by decide +kernel
theorem dL_law_1246 : decode cL_law 1246 = .ok (.iconst 0, 1) := by decide +kernel
theorem dL_law_1247 : decode cL_law 1247 = .ok (.laload, 1) := by decide +kernel
theorem dL_law_1248 : decode cL_law 1248 = .ok (.iload 7, 2) := by decide +kernel
theorem dL_law_1250 : decode cL_law 1250 = .ok (.i2l, 1) := by decide +kernel
theorem dL_law_1251 : decode cL_law 1251 = .ok (.lcmp, 1) := by decide +kernel
theorem dL_law_1252 : decode cL_law 1252 = .ok (.ifCond .eq 5, 3) := by decide +kernel
theorem dL_law_1255 : decode cL_law 1255 = .ok (.iconst 0, 1) := by decide +kernel
theorem dL_law_1256 : decode cL_law 1256 = .ok (.ireturn, 1) := by decide +kernel
theorem dL_law_1257 : decode cL_law 1257 = .ok (.goto 212, 3) := by decide +kernel
theorem dL_law_1260 : decode cL_law 1260 = .ok (.aload_n 1, 1) := by decide +kernel
theorem dL_law_1261 : decode cL_law 1261 = .ok (.aload_n 0, 1) := by decide +kernel
theorem dL_law_1262 : decode cL_law 1262 = .ok (.iload 5, 2) := by decide +kernel
theorem dL_law_1264 : decode cL_law 1264 = .ok (.iconst 1, 1) := by decide +kernel
theorem dL_law_1265 : decode cL_law 1265 = .ok (.iadd, 1) := by decide +kernel
theorem dL_law_1266 : decode cL_law 1266 = .ok (.iaload, 1) := by decide +kernel
theorem dL_law_1267 : decode cL_law 1267 = .ok (.aload_n 0, 1) := by decide +kernel
theorem dL_law_1268 : decode cL_law 1268 = .ok (.iload 5, 2) := by decide +kernel
theorem dL_law_1270 : decode cL_law 1270 = .ok (.iconst 2, 1) := by decide +kernel
theorem dL_law_1271 : decode cL_law 1271 = .ok (.iadd, 1) := by decide +kernel
theorem dL_law_1272 : decode cL_law 1272 = .ok (.iaload, 1) := by decide +kernel
theorem dL_law_1273 : decode cL_law 1273 = .ok (.aload 4, 2) := by decide +kernel
theorem dL_law_1275 : decode cL_law 1275 = .ok (.invokestatic 158, 3) := by decide +kernel
theorem dL_law_1278 : decode cL_law 1278 = .ok (.istore 6, 2) := by decide +kernel
theorem dL_law_1280 : decode cL_law 1280 = .ok (.aload_n 2, 1) := by decide +kernel
theorem dL_law_1281 : decode cL_law 1281 = .ok (.aload_n 0, 1) := by decide +kernel
theorem dL_law_1282 : decode cL_law 1282 = .ok (.iload 5, 2) := by decide +kernel
theorem dL_law_1284 : decode cL_law 1284 = .ok (.iconst 1, 1) := by decide +kernel
theorem dL_law_1285 : decode cL_law 1285 = .ok (.iadd, 1) := by decide +kernel
theorem dL_law_1286 : decode cL_law 1286 = .ok (.iaload, 1) := by decide +kernel
theorem dL_law_1287 : decode cL_law 1287 = .ok (.aload_n 0, 1) := by decide +kernel
theorem dL_law_1288 : decode cL_law 1288 = .ok (.iload 5, 2) := by decide +kernel
theorem dL_law_1290 : decode cL_law 1290 = .ok (.iconst 2, 1) := by decide +kernel
theorem dL_law_1291 : decode cL_law 1291 = .ok (.iadd, 1) := by decide +kernel
theorem dL_law_1292 : decode cL_law 1292 = .ok (.iaload, 1) := by decide +kernel
theorem dL_law_1293 : decode cL_law 1293 = .ok (.invokevirtual 161, 3) := by decide +kernel
theorem dL_law_1296 : decode cL_law 1296 = .ok (.fstore 7, 2) := by decide +kernel
theorem dL_law_1298 : decode cL_law 1298 = .ok (.aload_n 2, 1) := by decide +kernel
theorem dL_law_1299 : decode cL_law 1299 = .ok (.invokevirtual 92, 3) := by decide +kernel
theorem dL_law_1302 : decode cL_law 1302 = .ok (.iload 6, 2) := by decide +kernel
theorem dL_law_1304 : decode cL_law 1304 = .ok (.if_icmp .eq 5, 3) := by decide +kernel
theorem dL_law_1307 : decode cL_law 1307 = .ok (.iconst 0, 1) := by decide +kernel
theorem dL_law_1308 : decode cL_law 1308 = .ok (.ireturn, 1) := by decide +kernel
theorem dL_law_1309 : decode cL_law 1309 = .ok (.iload 6, 2) := by decide +kernel
theorem dL_law_1311 : decode cL_law 1311 = .ok (.ifCond .ne 36, 3) := by decide +kernel
theorem dL_law_1314 : decode cL_law 1314 = .ok (.aload 4, 2) := by decide +kernel
theorem dL_law_1316 : decode cL_law 1316 = .ok (.iconst 0, 1) := by decide +kernel
theorem dL_law_1317 : decode cL_law 1317 = .ok (.daload, 1) := by decide +kernel
theorem dL_law_1318 : decode cL_law 1318 = .ok (.fload 7, 2) := by decide +kernel
theorem dL_law_1320 : decode cL_law 1320 = .ok (.f2d, 1) := by decide +kernel
theorem dL_law_1321 : decode cL_law 1321 = .ok (.dcmp .l, 1) := by decide +kernel
theorem dL_law_1322 : decode cL_law 1322 = .ok (.ifCond .eq 25, 3) := by decide +kernel
theorem dL_law_1325 : decode cL_law 1325 = .ok (.aload 4, 2) := by decide +kernel
theorem dL_law_1327 : decode cL_law 1327 = .ok (.iconst 0, 1) := by decide +kernel
theorem dL_law_1328 : decode cL_law 1328 = .ok (.daload, 1) := by decide +kernel
theorem dL_law_1329 : decode cL_law 1329 = .ok (.aload 4, 2) := by decide +kernel
theorem dL_law_1331 : decode cL_law 1331 = .ok (.iconst 0, 1) := by decide +kernel
theorem dL_law_1332 : decode cL_law 1332 = .ok (.daload, 1) := by decide +kernel
theorem dL_law_1333 : decode cL_law 1333 = .ok (.dcmp .l, 1) := by decide +kernel
theorem dL_law_1334 : decode cL_law 1334 = .ok (.ifCond .eq 11, 3) := by decide +kernel
theorem dL_law_1337 : decode cL_law 1337 = .ok (.fload 7, 2) := by decide +kernel
theorem dL_law_1339 : decode cL_law 1339 = .ok (.fload 7, 2) := by decide +kernel
theorem dL_law_1341 : decode cL_law 1341 = .ok (.fcmp .l, 1) := by decide +kernel
theorem dL_law_1342 : decode cL_law 1342 = .ok (.ifCond .ne 5, 3) := by decide +kernel
theorem dL_law_1345 : decode cL_law 1345 = .ok (.iconst 0, 1) := by decide +kernel
theorem dL_law_1346 : decode cL_law 1346 = .ok (.ireturn, 1) := by decide +kernel
theorem dL_law_1347 : decode cL_law 1347 = .ok (.goto 122, 3) := by decide +kernel
theorem dL_law_1350 : decode cL_law 1350 = .ok (.aload_n 1, 1) := by decide +kernel
theorem dL_law_1351 : decode cL_law 1351 = .ok (.aload_n 0, 1) := by decide +kernel
theorem dL_law_1352 : decode cL_law 1352 = .ok (.iload 5, 2) := by decide +kernel
theorem dL_law_1354 : decode cL_law 1354 = .ok (.iconst 1, 1) := by decide +kernel
theorem dL_law_1355 : decode cL_law 1355 = .ok (.iadd, 1) := by decide +kernel
theorem dL_law_1356 : decode cL_law 1356 = .ok (.iaload, 1) := by decide +kernel
theorem dL_law_1357 : decode cL_law 1357 = .ok (.aload_n 3, 1) := by decide +kernel
theorem dL_law_1358 : decode cL_law 1358 = .ok (.invokestatic 162, 3) := by decide +kernel
theorem dL_law_1361 : decode cL_law 1361 = .ok (.istore 6, 2) := by decide +kernel
theorem dL_law_1363 : decode cL_law 1363 = .ok (.aload_n 2, 1) := by decide +kernel
theorem dL_law_1364 : decode cL_law 1364 = .ok (.aload_n 0, 1) := by decide +kernel
theorem dL_law_1365 : decode cL_law 1365 = .ok (.iload 5, 2) := by decide +kernel
theorem dL_law_1367 : decode cL_law 1367 = .ok (.iconst 1, 1) := by decide +kernel
theorem dL_law_1368 : decode cL_law 1368 = .ok (.iadd, 1) := by decide +kernel
theorem dL_law_1369 : decode cL_law 1369 = .ok (.iaload, 1) := by decide +kernel
theorem dL_law_1370 : decode cL_law 1370 = .ok (.invokevirtual 164, 3) := by decide +kernel
theorem dL_law_1373 : decode cL_law 1373 = .ok (.istore 7, 2) := by decide +kernel
theorem dL_law_1375 : decode cL_law 1375 = .ok (.aload_n 2, 1) := by decide +kernel
theorem dL_law_1376 : decode cL_law 1376 = .ok (.invokevirtual 92, 3) := by decide +kernel
theorem dL_law_1379 : decode cL_law 1379 = .ok (.iload 6, 2) := by decide +kernel
theorem dL_law_1381 : decode cL_law 1381 = .ok (.if_icmp .eq 5, 3) := by decide +kernel
theorem dL_law_1384 : decode cL_law 1384 = .ok (.iconst 0, 1) := by decide +kernel
theorem dL_law_1385 : decode cL_law 1385 = .ok (.ireturn, 1) := by decide +kernel
theorem dL_law_1386 : decode cL_law 1386 = .ok (.iload 6, 2) := by decide +kernel
theorem dL_law_1388 : decode cL_law 1388 = .ok (.ifCond .ne 15, 3) := by decide +kernel
theorem dL_law_1391 : decode cL_law 1391 = .ok (.aload_n 3, 1) := by decide +kernel
theorem dL_law_1392 : decode cL_law 1392 = .ok (.iconst 0, 1) := by decide +kernel
theorem dL_law_1393 : decode cL_law 1393 = .ok (.laload, 1) := by decide +kernel
theorem dL_law_1394 : decode cL_law 1394 = .ok (.iload 7, 2) := by decide +kernel
theorem dL_law_1396 : decode cL_law 1396 = .ok (.i2l, 1) := by decide +kernel
theorem dL_law_1397 : decode cL_law 1397 = .ok (.lcmp, 1) := by decide +kernel
theorem dL_law_1398 : decode cL_law 1398 = .ok (.ifCond .eq 5, 3) := by decide +kernel
theorem dL_law_1401 : decode cL_law 1401 = .ok (.iconst 0, 1) := by decide +kernel
theorem dL_law_1402 : decode cL_law 1402 = .ok (.ireturn, 1) := by decide +kernel
theorem dL_law_1403 : decode cL_law 1403 = .ok (.goto 66, 3) := by decide +kernel
theorem dL_law_1406 : decode cL_law 1406 = .ok (.aload_n 1, 1) := by decide +kernel
theorem dL_law_1407 : decode cL_law 1407 = .ok (.aload_n 0, 1) := by decide +kernel
theorem dL_law_1408 : decode cL_law 1408 = .ok (.iload 5, 2) := by decide +kernel
theorem dL_law_1410 : decode cL_law 1410 = .ok (.iconst 1, 1) := by decide +kernel
theorem dL_law_1411 : decode cL_law 1411 = .ok (.iadd, 1) := by decide +kernel
theorem dL_law_1412 : decode cL_law 1412 = .ok (.iaload, 1) := by decide +kernel
theorem dL_law_1413 : decode cL_law 1413 = .ok (.aload_n 3, 1) := by decide +kernel
theorem dL_law_1414 : decode cL_law 1414 = .ok (.invokestatic 165, 3) := by decide +kernel
theorem dL_law_1417 : decode cL_law 1417 = .ok (.istore 6, 2) := by decide +kernel
theorem dL_law_1419 : decode cL_law 1419 = .ok (.aload_n 2, 1) := by decide +kernel
theorem dL_law_1420 : decode cL_law 1420 = .ok (.aload_n 0, 1) := by decide +kernel
theorem dL_law_1421 : decode cL_law 1421 = .ok (.iload 5, 2) := by decide +kernel
theorem dL_law_1423 : decode cL_law 1423 = .ok (.iconst 1, 1) := by decide +kernel
theorem dL_law_1424 : decode cL_law 1424 = .ok (.iadd, 1) := by decide +kernel
theorem dL_law_1425 : decode cL_law 1425 = .ok (.iaload, 1) := by decide +kernel
theorem dL_law_1426 : decode cL_law 1426 = .ok (.invokevirtual 167, 3) := by decide +kernel
theorem dL_law_1429 : decode cL_law 1429 = .ok (.istore 7, 2) := by decide +kernel
theorem dL_law_1431 : decode cL_law 1431 = .ok (.aload_n 2, 1) := by decide +kernel
theorem dL_law_1432 : decode cL_law 1432 = .ok (.invokevirtual 92, 3) := by decide +kernel
theorem dL_law_1435 : decode cL_law 1435 = .ok (.iload 6, 2) := by decide +kernel
theorem dL_law_1437 : decode cL_law 1437 = .ok (.if_icmp .eq 5, 3) := by decide +kernel
theorem dL_law_1440 : decode cL_law 1440 = .ok (.iconst 0, 1) := by decide +kernel
theorem dL_law_1441 : decode cL_law 1441 = .ok (.ireturn, 1) := by decide +kernel
theorem dL_law_1442 : decode cL_law 1442 = .ok (.iload 6, 2) := by decide +kernel
theorem dL_law_1444 : decode cL_law 1444 = .ok (.ifCond .ne 22, 3) := by decide +kernel
theorem dL_law_1447 : decode cL_law 1447 = .ok (.aload_n 3, 1) := by decide +kernel
theorem dL_law_1448 : decode cL_law 1448 = .ok (.iconst 0, 1) := by decide +kernel
theorem dL_law_1449 : decode cL_law 1449 = .ok (.laload, 1) := by decide +kernel
theorem dL_law_1450 : decode cL_law 1450 = .ok (.iload 7, 2) := by decide +kernel
theorem dL_law_1452 : decode cL_law 1452 = .ok (.ifCond .eq 7, 3) := by decide +kernel
theorem dL_law_1455 : decode cL_law 1455 = .ok (.lconst 1, 1) := by decide +kernel
theorem dL_law_1456 : decode cL_law 1456 = .ok (.goto 4, 3) := by decide +kernel
theorem dL_law_1459 : decode cL_law 1459 = .ok (.lconst 0, 1) := by decide +kernel
theorem dL_law_1460 : decode cL_law 1460 = .ok (.lcmp, 1) := by decide +kernel
theorem dL_law_1461 : decode cL_law 1461 = .ok (.ifCond .eq 5, 3) := by decide +kernel
theorem dL_law_1464 : decode cL_law 1464 = .ok (.iconst 0, 1) := by decide +kernel
theorem dL_law_1465 : decode cL_law 1465 = .ok (.ireturn, 1) := by decide +kernel
theorem dL_law_1466 : decode cL_law 1466 = .ok (.goto 3, 3) := by decide +kernel
theorem dL_law_1469 : decode cL_law 1469 = .ok (.iinc 5 4, 3) := by decide +kernel
theorem dL_law_1472 : decode cL_law 1472 = .ok (.goto (-1444), 3) := by decide +kernel
theorem dL_law_1475 : decode cL_law 1475 = .ok (.iconst 1, 1) := by decide +kernel
theorem dL_law_1476 : decode cL_law 1476 = .ok (.ireturn, 1) := by decide +kernel
end
section
/-! MY LAYER: a world is a map from addresses to cells; a judgement z_E says that a body goes on well from here; contracts z_M. -/
abbrev z_G : Type := va_G × (Nat → ClassId) × Nat × Launch × Nat × Nat × (Nat → Int32)
abbrev z_W : Type := Nat → Option va_E
def z_T : List Cond := lw_tbl.filter goodWord
theorem z_tb {w : Cond} (h : w ∈ tables_1) : w ∈ lw_tbl := List.mem_append_right _ h
theorem z_Tof {w : Cond} (h : w ∈ lw_tbl) (g : goodWord w = true) : w ∈ z_T := List.mem_filter.mpr ⟨h, g⟩
theorem z_Tgood {w : Cond} (h : w ∈ z_T) : (w.onTables && w.keeps) = true ∨ ∃ ty, w = .arrayClass ty := good_of_word (List.mem_filter.mp h).2
abbrev z_A (G : z_G) : Nat → Prop := fun q => G.2.2.1 ≤ q
def z_tys (G : z_G) : List (ClassId × FieldType) := [(G.2.1 0, .int), (G.2.1 1, .boolean), (G.2.1 2, .long), (G.2.1 3, .double), (G.2.1 4, .object RX3), (G.2.1 5, .object RX1), (G.2.1 6, .object RX4), (G.2.1 7, .object RX2)]
def z_nestN : List (String × Nat × MethodName × String) := [("ClubAcademy", 29, ({ cls := "ClubAcademy$Book", name := "<init>", desc := "()V" } : Jvm.MethodName), "ClubAcademy"), ("ClubAcademy$Book", 11, ({ cls := "ClubAcademy$Line", name := "<init>", desc := "()V" } : Jvm.MethodName), "ClubAcademy"), ("ClubAcademy$Game", 29, ({ cls := "ClubAcademy", name := "positionAfter", desc := "(II)I" } : Jvm.MethodName), "ClubAcademy"), ("ClubAcademy$Book", 65, ({ cls := "ClubAcademy", name := "moveOfLine", desc := "(II)I" } : Jvm.MethodName), "ClubAcademy"), ("ClubAcademy$Game", 37, ({ cls := "ClubAcademy", name := "moveOfLine", desc := "(II)I" } : Jvm.MethodName), "ClubAcademy")]
def z_castN : List String := ["java/lang/IllegalArgumentException", "java/lang/IllegalStateException", "java/lang/IndexOutOfBoundsException"]
def z_strs : List (String × Nat × String) := [("ClubAcademy", 210, "position is out of range"), ("ClubAcademy", 212, "move is out of range"), ("ClubAcademy", 58, "there are as many players as there may be"), ("ClubAcademy", 220, "there is no such player"), ("ClubAcademy", 71, "a game is of two unlike players"), ("ClubAcademy", 78, "a game goes on"), ("ClubAcademy", 83, "there were as many games as there may be"), ("ClubAcademy", 88, "no game goes on"), ("ClubAcademy", 94, "the game has as many moves as it may have"), ("ClubAcademy", 106, "result is out of range"), ("ClubAcademy", 223, "there is no such puzzle"), ("ClubAcademy", 153, "the player has tried the puzzle"), ("ClubAcademy", 168, "theme is out of range"), ("ClubAcademy", 214, "moves is out of range"), ("ClubAcademy", 216, "line is out of range"), ("ClubAcademy", 204, "the player would have no game")]
def z_declN : List MethodName := [({ cls := "java/lang/RuntimeException", name := "<init>", desc := "()V" } : Jvm.MethodName), ({ cls := "java/lang/RuntimeException", name := "<init>", desc := "(Ljava/lang/String;)V" } : Jvm.MethodName), ({ cls := "java/lang/Exception", name := "<init>", desc := "()V" } : Jvm.MethodName), ({ cls := "java/lang/Exception", name := "<init>", desc := "(Ljava/lang/String;)V" } : Jvm.MethodName), ({ cls := "java/lang/Throwable", name := "<init>", desc := "()V" } : Jvm.MethodName), ({ cls := "java/lang/Throwable", name := "<init>", desc := "(Ljava/lang/String;)V" } : Jvm.MethodName)]
def z_ncast : List (String × String) := [("java/lang/IndexOutOfBoundsException", "java/lang/IllegalArgumentException"), ("java/lang/IndexOutOfBoundsException", "java/lang/IllegalStateException"), ("java/lang/IllegalArgumentException", "java/lang/IndexOutOfBoundsException"), ("java/lang/IllegalArgumentException", "java/lang/IllegalStateException"), ("java/lang/IllegalStateException", "java/lang/IndexOutOfBoundsException"), ("java/lang/IllegalStateException", "java/lang/IllegalArgumentException")]
def z_over : List String := [RX3, RX1, RX4, RX2]
/-- what holds of the machine's tables and of the start's own cells, all along -/
def z_F (G : z_G) (U : State) : Prop :=
  va_K G.1 vwCl (z_tys G) U ∧ (∀ q ∈ z_nestN, va_Nw (.methodLinkNest q.1 q.2.1 q.2.2.1 q.2.2.2) U) ∧ (∀ q ∈ z_castN, va_Nw (.castable q q) U) ∧ (∀ q ∈ z_strs, ∃ a, vk_R q.1 q.2.1 q.2.2 a U) ∧ (∀ C ∈ z_over, va_AO C U) ∧
  vx_Zq Bundle.tN "UNASSIGNED_STACK" Bundle.steD (z_A G) U U.heap ∧ vx_Zq Bundle.tN "SUPPRESSED_SENTINEL" Bundle.listD (z_A G) U U.heap ∧ G.2.2.1 ≤ U.heap.size ∧ G.2.2.2.1.stackTraces = false ∧ (∀ y ∈ z_declN, va_Nw (.declares y) U) ∧ (∀ q ∈ z_ncast, va_Nc q.1 q.2 U) ∧ va_X G.2.2.2.2.1 G.2.2.2.2.2.1 G.2.2.2.2.2.2 U U.heap ∧ G.2.2.2.2.1 < G.2.2.1
theorem z_F.next {G : z_G} {s U : State} {H : Heap} {locs : List Loc} (h : z_F G s) (hW : s.WarmedH U.vm) (hH : U.heap = H) (hS : va_S (z_A G) s.heap H locs) : z_F G U := by
  obtain ⟨h1, h2, h2c, h3, h4, h5, h6, h7, h8, h9, h10, h11, h12⟩ := h
  refine ⟨h1.moved hW.alike, fun q hq => va_Nw.warmM hW (h2 q hq), fun q hq => va_Nw.warmC hW (h2c q hq), fun q hq => ?_, fun C hC => (h4 C hC).moved hW.alike, ?_, ?_, ?_, h8, fun y hy => va_Nw.warmD hW (h9 y hy), fun q hq => (h10 q hq).moved hW.alike, ?_, h12⟩
  · obtain ⟨a, ha⟩ := h3 q hq
    exact ⟨a, ha.warm hW⟩
  · rw [hH]; exact vx_Zq.moved hW.alike (h5.kept hS.2.1)
  · rw [hH]; exact vx_Zq.moved hW.alike (h6.kept hS.2.1)
  · rw [hH]; exact Nat.le_trans h7 hS.1
  · rw [hH]; exact va_X.moved hW.alike (h11.kept (hS.2.1 _ (Nat.lt_of_lt_of_le h12 h7) (Nat.not_le.mpr h12)))
theorem z_F.same {G : z_G} {s U : State} (hv : U.vm = s.vm) (hH : U.heap = s.heap) (h : z_F G s) : z_F G U :=
  h.next (by rw [hv]; exact State.WarmedH.refl s) hH (va_S.rf (A := z_A G))
/-- the world lies in the heap -/
def z_R (G : z_G) (w : z_W) (H : Heap) : Prop := ∃ ws : va_W, va_P G.1 vwCl ws H ∧ va_D (z_A G) ws ∧ ∀ a e, w a = some e → ∃ k : Nat, ws[k]? = some (a, e)
def z_up (w : z_W) (a : Nat) (e : va_E) : z_W := fun b => if b = a then some e else w b
theorem z_upS (w : z_W) (a : Nat) (e : va_E) : z_up w a e a = some e := if_pos rfl
theorem z_upN (w : z_W) {a b : Nat} (e : va_E) (h : b ≠ a) : z_up w a e b = w b := if_neg h
theorem z_R_set {G : z_G} {w : z_W} {ws : va_W} {a k : Nat} {e e' : va_E} {H1 : Heap} (hD : va_D (z_A G) ws) (hk : ws[k]? = some (a, e)) (hw : ∀ a e, w a = some e → ∃ k : Nat, ws[k]? = some (a, e)) (hP1 : va_P G.1 vwCl (ws.set k (a, e')) H1) (hD1 : va_D (z_A G) (ws.set k (a, e'))) : z_R G (z_up w a e') H1 := by
  refine ⟨_, hP1, hD1, fun b f hb => ?_⟩
  have hl := (List.getElem?_eq_some_iff.mp hk).1
  by_cases hba : b = a
  · subst hba
    rw [z_upS] at hb
    cases hb
    exact ⟨k, by rw [List.getElem?_set_self hl]⟩
  · rw [z_upN _ _ hba] at hb
    obtain ⟨j, hj⟩ := hw b f hb
    refine ⟨j, ?_⟩
    rw [List.getElem?_set_ne]
    · exact hj
    · intro q
      subst q
      rw [hk] at hj
      cases hj
      exact hba rfl
theorem z_R_new {G : z_G} {w : z_W} {ws : va_W} {q : Nat} {e : va_E} {H1 : Heap} (hw : ∀ a e, w a = some e → ∃ k : Nat, ws[k]? = some (a, e)) (hP1 : va_P G.1 vwCl (ws ++ [(q, e)]) H1) (hD1 : va_D (z_A G) (ws ++ [(q, e)])) : z_R G (z_up w q e) H1 ∧ w q = none := by
  have hlast : (ws ++ [(q, e)])[ws.length]? = some (q, e) := by simp
  refine ⟨⟨_, hP1, hD1, fun b f hb => ?_⟩, ?_⟩
  · by_cases hba : b = q
    · subst hba
      rw [z_upS] at hb
      cases hb
      exact ⟨_, hlast⟩
    · rw [z_upN _ _ hba] at hb
      obtain ⟨j, hj⟩ := hw b f hb
      exact ⟨j, by rw [List.getElem?_append_left (List.getElem?_eq_some_iff.mp hj).1]; exact hj⟩
  · cases hq : w q with
    | none => rfl
    | some f =>
      obtain ⟨j, hj⟩ := hw q f hq
      have hjl := (List.getElem?_eq_some_iff.mp hj).1
      have h1 : (ws ++ [(q, e)])[j]? = some (q, f) := by rw [List.getElem?_append_left hjl]; exact hj
      have := hD1.1 j ws.length (q, f) (q, e) h1 hlast rfl
      omega
theorem z_R.one {G : z_G} {w : z_W} {H : Heap} (h : z_R G w H) {a : Nat} {e : va_E} (he : w a = some e) : va_P G.1 vwCl [(a, e)] H ∧ va_D (z_A G) [(a, e)] := by
  obtain ⟨ws, hP, hD, hw⟩ := h
  obtain ⟨k, hk⟩ := hw a e he
  exact ⟨hP.sub [k] (by simp [hk]), hD.sub [k] (by rfl) (by simp [hk])⟩
def z_U (G : z_G) (w : z_W) (U : State) : Prop := z_R G w U.heap ∧ z_F G U
abbrev z_Mi : Type := MethodName × ByteArray × Nat × Option FieldType × List (Nat × Nat × Nat × Nat)
def z_lb (d : Nat) : Nat := 33 * d
def z_Qc (G : z_G) (QR : Option Value → z_W → Prop) : Array Value → State → Outcome → State → Prop := fun _ st oc t => (∃ v w, oc = .returned v ∧ QR v w ∧ z_R G w t.heap) ∧ va_F (z_A G) st t
def z_XC (G : z_G) (QX : String → z_W → Prop) : String → State → State → Prop := fun E st t => (∃ w, QX E w ∧ z_R G w t.heap) ∧ va_F (z_A G) st t
def z_Cx (G : z_G) (Y : z_Mi) (p : Program) (s : State) (m : MethodId) (args : Array Value) (meth : Method) (c : Code) : Prop :=
  p.tables.exec = Jvm.exec ∧ c.code = Y.2.1 ∧ c.maxLocals = Y.2.2.1 ∧ s.vm.findClass Y.1.cls = some m.cls ∧ (∀ w ∈ z_T, w.before args s = true) ∧ meth.sig.returnType = Y.2.2.2.1 ∧ meth.locks = false ∧ meth.name = Y.1.name ∧ c.exceptionTable.toList = tableOf Y.2.2.2.2 ∧ z_F G s
/-- locals: what is known of them, place by place -/
def z_L (ls : Array Slot) (L : List (Option Value)) (nL : Nat) : Prop := L.length = nL ∧ ls.size = nL ∧ lv_wf ls ∧ ∀ (i : Nat) (v : Value), L[i]? = some (some v) → ls[i]? = some (.val v) ∧ v.category = 1
def z_en (L : List (Option Value)) : List (Nat × Value) := (List.range L.length).filterMap (fun j => (L[j]?.join).map (fun v => (j, v)))
theorem z_en_mem {L : List (Option Value)} {i : Nat} {v : Value} : (i, v) ∈ z_en L ↔ L[i]? = some (some v) := by
  unfold z_en
  rw [List.mem_filterMap]
  constructor
  · rintro ⟨j, -, h⟩
    cases hj : L[j]? with
    | none => simp [hj] at h
    | some x =>
      cases x with
      | none => simp [hj] at h
      | some y =>
        simp [hj] at h
        obtain ⟨rfl, rfl⟩ := h
        exact hj
  · intro h
    refine ⟨i, List.mem_range.mpr (List.getElem?_eq_some_iff.mp h).1, by simp [h]⟩
theorem z_L.has {ls : Array Slot} {L : List (Option Value)} {nL : Nat} (h : z_L ls L nL) : lv_has ls nL (z_en L) :=
  ⟨h.2.1, h.2.2.1, fun q hq => (h.2.2.2 q.1 q.2 (z_en_mem.mp hq)).1⟩
theorem z_L.set {ls ls' : Array Slot} {L : List (Option Value)} {nL i : Nat} {v : Value} (h : z_L ls L nL) (hi : i < nL) (hv : v.category = 1) (h' : lv_has ls' nL ((i, v) :: (z_en L).filter (fun q => !(q.1 == i) && !(q.1 + 1 == i && q.2.category == 2)))) : z_L ls' (L.set i (some v)) nL := by
  refine ⟨by rw [List.length_set]; exact h.1, h'.1, h'.2.1, fun j x hx => ?_⟩
  by_cases hj : j = i
  · subst hj
    rw [List.getElem?_set_self (by rw [h.1]; exact hi)] at hx
    cases hx
    exact ⟨h'.2.2 (j, v) List.mem_cons_self, hv⟩
  · rw [List.getElem?_set_ne (Ne.symm hj)] at hx
    have hc := (h.2.2.2 j x hx).2
    refine ⟨h'.2.2 (j, x) (List.mem_cons_of_mem _ (List.mem_filter.mpr ⟨z_en_mem.mpr hx, ?_⟩)), hc⟩
    have h2 : (x.category == 2) = false := by rw [hc]; rfl
    simp [hj, h2]
theorem z_L.at {ls : Array Slot} {L : List (Option Value)} {nL : Nat} (h : z_L ls L nL) {i : Nat} {v : Value} (hi : L[i]? = some (some v)) : ls[i]? = some (.val v) := (h.2.2.2 i v hi).1
abbrev z_Gq : Type := List Frame → Array Value → State → Nat → Nat → State → Prop
def z_mq (G : z_G) (QR : Option Value → z_W → Prop) (QX : String → z_W → Prop) : z_Gq := fun below args s mc ms => vx_MQ below (z_Qc G QR) (z_XC G QX) args s mc ms (z_A G)
/-- THE JUDGEMENT: the body Y goes on well from pc, locals L, stack st, world w; d calls deep, k cells and n slots still to make -/
def z_E (G : z_G) (Y : z_Mi) (d : Nat) (Z : z_Gq) (pc : Nat) (L : List (Option Value)) (st : List Value) (w : z_W) (k n : Nat) : Prop :=
  ∀ (p : Program) (e : Env) (R : Room) (s : State) (m : MethodId) (args : Array Value) (below : List Frame) (meth : Method) (c : Code) (H : Heap) (locs : List Loc) (cells slots : Nat) (ls : Array Slot) (mc ms : Nat),
    z_Cx G Y p s m args meth c → z_R G w H → va_S (z_A G) s.heap H locs → z_L ls L Y.2.2.1 → (d ≤ R.frames ∧ z_lb d ≤ R.locals) → (cells + k ≤ mc ∧ slots + n ≤ ms ∧ mc ≤ R.cells ∧ ms ≤ R.slots) →
    W p G.2.2.2.1 e R s m args below meth c H locs cells slots (Z below args s mc ms) (F0 m pc ls st)
/-- .. with an exception of class E thrown at pc -/
def z_X (G : z_G) (Y : z_Mi) (d : Nat) (Z : z_Gq) (E : String) (pc : Nat) (L : List (Option Value)) (w : z_W) (k n : Nat) : Prop :=
  ∀ (p : Program) (e : Env) (R : Room) (s : State) (m : MethodId) (args : Array Value) (below : List Frame) (meth : Method) (c : Code) (H : Heap) (locs : List Loc) (cells slots : Nat) (ls : Array Slot) (mc ms : Nat) (rest : List Value) (q : Addr) (ce : Cell),
    z_Cx G Y p s m args meth c → z_R G w H → va_S (z_A G) s.heap H locs → z_L ls L Y.2.2.1 → (d ≤ R.frames ∧ z_lb d ≤ R.locals) → (cells + k ≤ mc ∧ slots + n ≤ ms ∧ mc ≤ R.cells ∧ ms ≤ R.slots) →
    H[q]? = some ce → ce.vm = .none → s.vm.findClass E = some ce.cls → vx_W p G.2.2.2.1 e R s m args below meth c H locs cells slots (Z below args s mc ms) (F0 m pc ls rest) q
def z_ws (Y : z_Mi) : List Cond := .code Y.1 Y.2.1 Y.2.2.1 Y.2.2.2.1 :: z_T
def z_rm (d k n : Nat) : Room := { frames := d, cells := k, slots := n, locals := z_lb d }
/-- A CONTRACT -/
def z_M (G : z_G) (Y : z_Mi) (d : Nat) (av : List Value) (w : z_W) (k n : Nat) (QR : Option Value → z_W → Prop) (QX : String → z_W → Prop) : Prop :=
  vx_Met G.2.2.2.1 Y.1 (z_ws Y) (z_rm d k n) (va_Pc av (z_U G w)) (z_Qc G QR) (z_XC G QX) k n (z_A G)
def z_in (av : List Value) (nL : Nat) : List (Option Value) := av.map some ++ List.replicate (nL - av.length) none
theorem lv_args_1 : ∀ (av : List Value) (j : Nat), (∀ v ∈ av, v.category = 1) → ∀ i v, av[i]? = some v → (j + i, v) ∈ lv_args j av
  | [], j, _, i, v, h => by simp at h
  | x :: t, j, hc, i, v, h => by
    have hx : ¬ x.category = 2 := by rw [hc x List.mem_cons_self]; decide
    unfold lv_args
    rw [if_neg hx]
    cases i with
    | zero =>
      simp at h
      subst h
      exact List.mem_cons_self
    | succ i =>
      have h2 : t[i]? = some v := by simpa using h
      have := lv_args_1 t (j + 1) (fun v hv => hc v (List.mem_cons_of_mem _ hv)) i v h2
      rw [show j + (i + 1) = j + 1 + i by omega]
      exact List.mem_cons_of_mem _ this
theorem lg_sl_1 : ∀ (av : List Value), (∀ v ∈ av, v.category = 1) → (lg_sl av).length = av.length
  | [], _ => rfl
  | x :: t, hc => by
    have hx : ¬ x.category = 2 := by rw [hc x List.mem_cons_self]; decide
    have := lg_sl_1 t (fun v hv => hc v (List.mem_cons_of_mem _ hv))
    simp only [lg_sl, List.flatMap_cons, if_neg hx, List.length_append, List.length_cons, List.length_nil] at this ⊢
    omega
theorem z_entry (av : List Value) {nL : Nat} (hc : ∀ v ∈ av, v.category = 1) (hn : av.length ≤ nL) : z_L ((lg_sl av ++ List.replicate (nL - (lg_sl av).length) Slot.unset).toArray) (z_in av nL) nL := by
  have h := lv_entry av (n := nL) (by rw [lg_sl_1 av hc]; exact hn)
  refine ⟨by simp [z_in]; omega, h.1, h.2.1, fun i v hi => ?_⟩
  have hav : av[i]? = some v := by
    unfold z_in at hi
    by_cases hl : i < av.length
    · rw [List.getElem?_append_left (by rw [List.length_map]; exact hl), List.getElem?_map] at hi
      cases hq : av[i]? with
      | none => rw [hq] at hi; cases hi
      | some x => rw [hq] at hi; cases hi; rfl
    · rw [List.getElem?_append_right (by rw [List.length_map]; omega)] at hi
      rw [List.getElem?_replicate] at hi
      split at hi <;> cases hi
  refine ⟨h.2.2 (i, v) ?_, hc v (List.mem_of_getElem? hav)⟩
  have := lv_args_1 av 0 hc i v hav
  rwa [Nat.zero_add] at this
theorem z_M.of {G : z_G} {Y : z_Mi} {d : Nat} {av : List Value} {w : z_W} {k n : Nat} {QR : Option Value → z_W → Prop} {QX : String → z_W → Prop} (hy : plainName Y.1.cls = true) (hh : Y.2.2.2.2 = []) (hc : ∀ v ∈ av, v.category = 1) (hn : av.length ≤ Y.2.2.1)
    (h : z_E G Y d (z_mq G QR QX) 0 (z_in av Y.2.2.1) [] w k n) : z_M G Y d av w k n QR QX := by
  refine vx_ofW (cc := Y.2.1) (maxL := Y.2.2.1) (ret := Y.2.2.2.1) hy rfl ?_
  intro p e s m args below meth c s₁ B hml hT hv
  obtain ⟨rfl, hR, hF⟩ := hv
  have hts := atoms_spec (ws := z_ws Y) B.pre
  have hl := z_entry av (nL := Y.2.2.1) hc hn
  rw [lg_entry_eq]
  have hT2 : c.exceptionTable.toList = tableOf Y.2.2.2.2 := by
    rw [hh]
    cases hx : c.exceptionTable.toList with
    | nil => rfl
    | cons x t => exact absurd (hT x (by rw [hx]; exact List.mem_cons_self)) id
  exact h p e _ s m _ below meth c s.heap [] 0 0 _ k n ⟨B.exec, B.bytes, hml, findClass_of_methodNamed B.named, fun w hw => hts w (List.mem_cons_of_mem _ hw), B.returns, B.notSynchronized, (name_of_methodNamed B.named B.method).1, hT2, hF⟩ hR va_S.rf hl ⟨Nat.le_refl _, Nat.le_refl _⟩ ⟨by omega, by omega, Nat.le_refl _, Nat.le_refl _⟩
end
section
section ZROWS
variable {G : z_G} {Y : z_Mi} {d : Nat} {Z : z_Gq} {pc : Nat} {L : List (Option Value)} {st : List Value} {w : z_W} {k n : Nat}
theorem z_iadd {x y : Int32} (d0 : decode Y.2.1 pc = .ok (.iadd, 1))  (kk : z_E G Y d Z (pc + 1) L (.int (x + y) :: st) w k n) : z_E G Y d Z pc L (.int y :: .int x :: st) w k n := by
  intro p e R s m args below meth c H locs cells slots ls mc ms C hR hS hL hd hk
  exact lv_iadd C.1 C.2.1 d0  (kk p e R s m args below meth c H locs cells slots ls mc ms C hR hS hL hd hk)
theorem z_isub {x y : Int32} (d0 : decode Y.2.1 pc = .ok (.isub, 1))  (kk : z_E G Y d Z (pc + 1) L (.int (x - y) :: st) w k n) : z_E G Y d Z pc L (.int y :: .int x :: st) w k n := by
  intro p e R s m args below meth c H locs cells slots ls mc ms C hR hS hL hd hk
  exact lv_isub C.1 C.2.1 d0  (kk p e R s m args below meth c H locs cells slots ls mc ms C hR hS hL hd hk)
theorem z_imul {x y : Int32} (d0 : decode Y.2.1 pc = .ok (.imul, 1))  (kk : z_E G Y d Z (pc + 1) L (.int (x * y) :: st) w k n) : z_E G Y d Z pc L (.int y :: .int x :: st) w k n := by
  intro p e R s m args below meth c H locs cells slots ls mc ms C hR hS hL hd hk
  exact lv_imul C.1 C.2.1 d0  (kk p e R s m args below meth c H locs cells slots ls mc ms C hR hS hL hd hk)
theorem z_iand {x y : Int32} (d0 : decode Y.2.1 pc = .ok (.iand, 1))  (kk : z_E G Y d Z (pc + 1) L (.int (x &&& y) :: st) w k n) : z_E G Y d Z pc L (.int y :: .int x :: st) w k n := by
  intro p e R s m args below meth c H locs cells slots ls mc ms C hR hS hL hd hk
  exact lv_iand C.1 C.2.1 d0  (kk p e R s m args below meth c H locs cells slots ls mc ms C hR hS hL hd hk)
theorem z_ior {x y : Int32} (d0 : decode Y.2.1 pc = .ok (.ior, 1))  (kk : z_E G Y d Z (pc + 1) L (.int (x ||| y) :: st) w k n) : z_E G Y d Z pc L (.int y :: .int x :: st) w k n := by
  intro p e R s m args below meth c H locs cells slots ls mc ms C hR hS hL hd hk
  exact lv_ior C.1 C.2.1 d0  (kk p e R s m args below meth c H locs cells slots ls mc ms C hR hS hL hd hk)
theorem z_ishl {x y : Int32} (d0 : decode Y.2.1 pc = .ok (.ishl, 1))  (kk : z_E G Y d Z (pc + 1) L (.int (x <<< (y &&& 31)) :: st) w k n) : z_E G Y d Z pc L (.int y :: .int x :: st) w k n := by
  intro p e R s m args below meth c H locs cells slots ls mc ms C hR hS hL hd hk
  exact lv_ishl C.1 C.2.1 d0  (kk p e R s m args below meth c H locs cells slots ls mc ms C hR hS hL hd hk)
theorem z_ishr {x y : Int32} (d0 : decode Y.2.1 pc = .ok (.ishr, 1))  (kk : z_E G Y d Z (pc + 1) L (.int (x >>> (y &&& 31)) :: st) w k n) : z_E G Y d Z pc L (.int y :: .int x :: st) w k n := by
  intro p e R s m args below meth c H locs cells slots ls mc ms C hR hS hL hd hk
  exact lv_ishr C.1 C.2.1 d0  (kk p e R s m args below meth c H locs cells slots ls mc ms C hR hS hL hd hk)
theorem z_irem {x y : Int32} (d0 : decode Y.2.1 pc = .ok (.irem, 1)) (hne : ¬ y = 0) (kk : z_E G Y d Z (pc + 1) L (.int (x - x / y * y) :: st) w k n) : z_E G Y d Z pc L (.int y :: .int x :: st) w k n := by
  intro p e R s m args below meth c H locs cells slots ls mc ms C hR hS hL hd hk
  exact lv_irem C.1 C.2.1 d0 hne (kk p e R s m args below meth c H locs cells slots ls mc ms C hR hS hL hd hk)
theorem z_idiv {x y : Int32} (d0 : decode Y.2.1 pc = .ok (.idiv, 1)) (hne : ¬ y = 0) (kk : z_E G Y d Z (pc + 1) L (.int (x / y) :: st) w k n) : z_E G Y d Z pc L (.int y :: .int x :: st) w k n := by
  intro p e R s m args below meth c H locs cells slots ls mc ms C hR hS hL hd hk
  exact lv_idiv C.1 C.2.1 d0 hne (kk p e R s m args below meth c H locs cells slots ls mc ms C hR hS hL hd hk)
theorem z_i2l {x : Int32} (d0 : decode Y.2.1 pc = .ok (.i2l, 1))  (kk : z_E G Y d Z (pc + 1) L (.long x.toInt64 :: st) w k n) : z_E G Y d Z pc L (.int x :: st) w k n := by
  intro p e R s m args below meth c H locs cells slots ls mc ms C hR hS hL hd hk
  exact lv_i2l C.1 C.2.1 d0 rfl (kk p e R s m args below meth c H locs cells slots ls mc ms C hR hS hL hd hk)
theorem z_i2f {x : Int32} (d0 : decode Y.2.1 pc = .ok (.i2f, 1))  (kk : z_E G Y d Z (pc + 1) L (.float (FP.i2f x) :: st) w k n) : z_E G Y d Z pc L (.int x :: st) w k n := by
  intro p e R s m args below meth c H locs cells slots ls mc ms C hR hS hL hd hk
  exact lv_i2f C.1 C.2.1 d0  (kk p e R s m args below meth c H locs cells slots ls mc ms C hR hS hL hd hk)
theorem z_fdiv {x y : UInt32} (d0 : decode Y.2.1 pc = .ok (.fdiv, 1)) (hne : vf_n32 (FP.fdiv x y)) (kk : z_E G Y d Z (pc + 1) L (.float (FP.fdiv x y) :: st) w k n) : z_E G Y d Z pc L (.float y :: .float x :: st) w k n := by
  intro p e R s m args below meth c H locs cells slots ls mc ms C hR hS hL hd hk
  exact lv_fdiv C.1 C.2.1 d0 hne (kk p e R s m args below meth c H locs cells slots ls mc ms C hR hS hL hd hk)
theorem z_f2d {x : UInt32} (d0 : decode Y.2.1 pc = .ok (.f2d, 1)) (hne : vf_n64 (FP.f2d x)) (kk : z_E G Y d Z (pc + 1) L (.double (FP.f2d x) :: st) w k n) : z_E G Y d Z pc L (.float x :: st) w k n := by
  intro p e R s m args below meth c H locs cells slots ls mc ms C hR hS hL hd hk
  exact lv_f2d C.1 C.2.1 d0 hne (kk p e R s m args below meth c H locs cells slots ls mc ms C hR hS hL hd hk)
theorem z_dcmp {x y : UInt64} {op : CmpOp} (d0 : decode Y.2.1 pc = .ok (.dcmp op, 1))  (kk : z_E G Y d Z (pc + 1) L (.int (Op.cmpValue (FP.dcmp x y) op) :: st) w k n) : z_E G Y d Z pc L (.double y :: .double x :: st) w k n := by
  intro p e R s m args below meth c H locs cells slots ls mc ms C hR hS hL hd hk
  exact lv_dcmp C.1 C.2.1 d0  (kk p e R s m args below meth c H locs cells slots ls mc ms C hR hS hL hd hk)
theorem z_fcmp {x y : UInt32} {op : CmpOp} (d0 : decode Y.2.1 pc = .ok (.fcmp op, 1))  (kk : z_E G Y d Z (pc + 1) L (.int (Op.cmpValue (FP.fcmp x y) op) :: st) w k n) : z_E G Y d Z pc L (.float y :: .float x :: st) w k n := by
  intro p e R s m args below meth c H locs cells slots ls mc ms C hR hS hL hd hk
  exact lv_fcmp C.1 C.2.1 d0  (kk p e R s m args below meth c H locs cells slots ls mc ms C hR hS hL hd hk)
theorem z_lcmp {x y : Int64} (d0 : decode Y.2.1 pc = .ok (.lcmp, 1))  (kk : z_E G Y d Z (pc + 1) L (.int (lg_cmp x y) :: st) w k n) : z_E G Y d Z pc L (.long y :: .long x :: st) w k n := by
  intro p e R s m args below meth c H locs cells slots ls mc ms C hR hS hL hd hk
  exact W.lcmp C.1 C.2.1 d0  (kk p e R s m args below meth c H locs cells slots ls mc ms C hR hS hL hd hk)
theorem z_fconst0  (d0 : decode Y.2.1 pc = .ok (.fconst 0, 1))  (kk : z_E G Y d Z (pc + 1) L (.float FP.fconst0 :: st) w k n) : z_E G Y d Z pc L st w k n := by
  intro p e R s m args below meth c H locs cells slots ls mc ms C hR hS hL hd hk
  exact lv_fconst0 C.1 C.2.1 d0  (kk p e R s m args below meth c H locs cells slots ls mc ms C hR hS hL hd hk)
theorem z_dup {v : Value} (d0 : decode Y.2.1 pc = .ok (.dup, 1)) (hv : v.category = 1) (kk : z_E G Y d Z (pc + 1) L (v :: v :: st) w k n) : z_E G Y d Z pc L (v :: st) w k n := by
  intro p e R s m args below meth c H locs cells slots ls mc ms C hR hS hL hd hk
  exact lv_dup C.1 C.2.1 d0 hv (kk p e R s m args below meth c H locs cells slots ls mc ms C hR hS hL hd hk)
theorem z_dup2 {v u : Value} (d0 : decode Y.2.1 pc = .ok (.dup2, 1)) (hv : v.category = 1) (hu : u.category = 1) (kk : z_E G Y d Z (pc + 1) L (v :: u :: v :: u :: st) w k n) : z_E G Y d Z pc L (v :: u :: st) w k n := by
  intro p e R s m args below meth c H locs cells slots ls mc ms C hR hS hL hd hk
  exact lv_dup2_11 C.1 C.2.1 d0 hv hu (kk p e R s m args below meth c H locs cells slots ls mc ms C hR hS hL hd hk)
theorem z_null  (d0 : decode Y.2.1 pc = .ok (.aconst_null, 1))  (kk : z_E G Y d Z (pc + 1) L (.null :: st) w k n) : z_E G Y d Z pc L st w k n := by
  intro p e R s m args below meth c H locs cells slots ls mc ms C hR hS hL hd hk
  exact lv_null C.1 C.2.1 d0  (kk p e R s m args below meth c H locs cells slots ls mc ms C hR hS hL hd hk)
theorem z_lconst0  (d0 : decode Y.2.1 pc = .ok (.lconst 0, 1))  (kk : z_E G Y d Z (pc + 1) L (.long 0 :: st) w k n) : z_E G Y d Z pc L st w k n := by
  intro p e R s m args below meth c H locs cells slots ls mc ms C hR hS hL hd hk
  exact lv_lconst C.1 C.2.1 d0 (by decide) (kk p e R s m args below meth c H locs cells slots ls mc ms C hR hS hL hd hk)
theorem z_lconst1  (d0 : decode Y.2.1 pc = .ok (.lconst 1, 1))  (kk : z_E G Y d Z (pc + 1) L (.long 1 :: st) w k n) : z_E G Y d Z pc L st w k n := by
  intro p e R s m args below meth c H locs cells slots ls mc ms C hR hS hL hd hk
  exact lv_lconst C.1 C.2.1 d0 (by decide) (kk p e R s m args below meth c H locs cells slots ls mc ms C hR hS hL hd hk)
theorem z_bipush_m16  (d0 : decode Y.2.1 pc = .ok (.bipush (-16), 2))  (kk : z_E G Y d Z (pc + 2) L (.int (-16) :: st) w k n) : z_E G Y d Z pc L st w k n := by
  intro p e R s m args below meth c H locs cells slots ls mc ms C hR hS hL hd hk
  exact lv_bipush C.1 C.2.1 d0 (by decide) (kk p e R s m args below meth c H locs cells slots ls mc ms C hR hS hL hd hk)
theorem z_bipush_6  (d0 : decode Y.2.1 pc = .ok (.bipush 6, 2))  (kk : z_E G Y d Z (pc + 2) L (.int (6) :: st) w k n) : z_E G Y d Z pc L st w k n := by
  intro p e R s m args below meth c H locs cells slots ls mc ms C hR hS hL hd hk
  exact lv_bipush C.1 C.2.1 d0 (by decide) (kk p e R s m args below meth c H locs cells slots ls mc ms C hR hS hL hd hk)
theorem z_bipush_7  (d0 : decode Y.2.1 pc = .ok (.bipush 7, 2))  (kk : z_E G Y d Z (pc + 2) L (.int (7) :: st) w k n) : z_E G Y d Z pc L st w k n := by
  intro p e R s m args below meth c H locs cells slots ls mc ms C hR hS hL hd hk
  exact lv_bipush C.1 C.2.1 d0 (by decide) (kk p e R s m args below meth c H locs cells slots ls mc ms C hR hS hL hd hk)
theorem z_bipush_8  (d0 : decode Y.2.1 pc = .ok (.bipush 8, 2))  (kk : z_E G Y d Z (pc + 2) L (.int (8) :: st) w k n) : z_E G Y d Z pc L st w k n := by
  intro p e R s m args below meth c H locs cells slots ls mc ms C hR hS hL hd hk
  exact lv_bipush C.1 C.2.1 d0 (by decide) (kk p e R s m args below meth c H locs cells slots ls mc ms C hR hS hL hd hk)
theorem z_bipush_12  (d0 : decode Y.2.1 pc = .ok (.bipush 12, 2))  (kk : z_E G Y d Z (pc + 2) L (.int (12) :: st) w k n) : z_E G Y d Z pc L st w k n := by
  intro p e R s m args below meth c H locs cells slots ls mc ms C hR hS hL hd hk
  exact lv_bipush C.1 C.2.1 d0 (by decide) (kk p e R s m args below meth c H locs cells slots ls mc ms C hR hS hL hd hk)
theorem z_bipush_13  (d0 : decode Y.2.1 pc = .ok (.bipush 13, 2))  (kk : z_E G Y d Z (pc + 2) L (.int (13) :: st) w k n) : z_E G Y d Z pc L st w k n := by
  intro p e R s m args below meth c H locs cells slots ls mc ms C hR hS hL hd hk
  exact lv_bipush C.1 C.2.1 d0 (by decide) (kk p e R s m args below meth c H locs cells slots ls mc ms C hR hS hL hd hk)
theorem z_bipush_31  (d0 : decode Y.2.1 pc = .ok (.bipush 31, 2))  (kk : z_E G Y d Z (pc + 2) L (.int (31) :: st) w k n) : z_E G Y d Z pc L st w k n := by
  intro p e R s m args below meth c H locs cells slots ls mc ms C hR hS hL hd hk
  exact lv_bipush C.1 C.2.1 d0 (by decide) (kk p e R s m args below meth c H locs cells slots ls mc ms C hR hS hL hd hk)
theorem z_bipush_32  (d0 : decode Y.2.1 pc = .ok (.bipush 32, 2))  (kk : z_E G Y d Z (pc + 2) L (.int (32) :: st) w k n) : z_E G Y d Z pc L st w k n := by
  intro p e R s m args below meth c H locs cells slots ls mc ms C hR hS hL hd hk
  exact lv_bipush C.1 C.2.1 d0 (by decide) (kk p e R s m args below meth c H locs cells slots ls mc ms C hR hS hL hd hk)
theorem z_bipush_37  (d0 : decode Y.2.1 pc = .ok (.bipush 37, 2))  (kk : z_E G Y d Z (pc + 2) L (.int (37) :: st) w k n) : z_E G Y d Z pc L st w k n := by
  intro p e R s m args below meth c H locs cells slots ls mc ms C hR hS hL hd hk
  exact lv_bipush C.1 C.2.1 d0 (by decide) (kk p e R s m args below meth c H locs cells slots ls mc ms C hR hS hL hd hk)
theorem z_bipush_40  (d0 : decode Y.2.1 pc = .ok (.bipush 40, 2))  (kk : z_E G Y d Z (pc + 2) L (.int (40) :: st) w k n) : z_E G Y d Z pc L st w k n := by
  intro p e R s m args below meth c H locs cells slots ls mc ms C hR hS hL hd hk
  exact lv_bipush C.1 C.2.1 d0 (by decide) (kk p e R s m args below meth c H locs cells slots ls mc ms C hR hS hL hd hk)
theorem z_bipush_50  (d0 : decode Y.2.1 pc = .ok (.bipush 50, 2))  (kk : z_E G Y d Z (pc + 2) L (.int (50) :: st) w k n) : z_E G Y d Z pc L st w k n := by
  intro p e R s m args below meth c H locs cells slots ls mc ms C hR hS hL hd hk
  exact lv_bipush C.1 C.2.1 d0 (by decide) (kk p e R s m args below meth c H locs cells slots ls mc ms C hR hS hL hd hk)
theorem z_bipush_60  (d0 : decode Y.2.1 pc = .ok (.bipush 60, 2))  (kk : z_E G Y d Z (pc + 2) L (.int (60) :: st) w k n) : z_E G Y d Z pc L st w k n := by
  intro p e R s m args below meth c H locs cells slots ls mc ms C hR hS hL hd hk
  exact lv_bipush C.1 C.2.1 d0 (by decide) (kk p e R s m args below meth c H locs cells slots ls mc ms C hR hS hL hd hk)
theorem z_bipush_100  (d0 : decode Y.2.1 pc = .ok (.bipush 100, 2))  (kk : z_E G Y d Z (pc + 2) L (.int (100) :: st) w k n) : z_E G Y d Z pc L st w k n := by
  intro p e R s m args below meth c H locs cells slots ls mc ms C hR hS hL hd hk
  exact lv_bipush C.1 C.2.1 d0 (by decide) (kk p e R s m args below meth c H locs cells slots ls mc ms C hR hS hL hd hk)
theorem z_bipush_101  (d0 : decode Y.2.1 pc = .ok (.bipush 101, 2))  (kk : z_E G Y d Z (pc + 2) L (.int (101) :: st) w k n) : z_E G Y d Z pc L st w k n := by
  intro p e R s m args below meth c H locs cells slots ls mc ms C hR hS hL hd hk
  exact lv_bipush C.1 C.2.1 d0 (by decide) (kk p e R s m args below meth c H locs cells slots ls mc ms C hR hS hL hd hk)
theorem z_iconst_m1  (d0 : decode Y.2.1 pc = .ok (.iconst (-1), 1))  (kk : z_E G Y d Z (pc + 1) L (.int (-1) :: st) w k n) : z_E G Y d Z pc L st w k n := by
  intro p e R s m args below meth c H locs cells slots ls mc ms C hR hS hL hd hk
  exact lv_iconst C.1 C.2.1 d0 (by decide) (kk p e R s m args below meth c H locs cells slots ls mc ms C hR hS hL hd hk)
theorem z_iconst_0  (d0 : decode Y.2.1 pc = .ok (.iconst 0, 1))  (kk : z_E G Y d Z (pc + 1) L (.int (0) :: st) w k n) : z_E G Y d Z pc L st w k n := by
  intro p e R s m args below meth c H locs cells slots ls mc ms C hR hS hL hd hk
  exact lv_iconst C.1 C.2.1 d0 (by decide) (kk p e R s m args below meth c H locs cells slots ls mc ms C hR hS hL hd hk)
theorem z_iconst_1  (d0 : decode Y.2.1 pc = .ok (.iconst 1, 1))  (kk : z_E G Y d Z (pc + 1) L (.int (1) :: st) w k n) : z_E G Y d Z pc L st w k n := by
  intro p e R s m args below meth c H locs cells slots ls mc ms C hR hS hL hd hk
  exact lv_iconst C.1 C.2.1 d0 (by decide) (kk p e R s m args below meth c H locs cells slots ls mc ms C hR hS hL hd hk)
theorem z_iconst_2  (d0 : decode Y.2.1 pc = .ok (.iconst 2, 1))  (kk : z_E G Y d Z (pc + 1) L (.int (2) :: st) w k n) : z_E G Y d Z pc L st w k n := by
  intro p e R s m args below meth c H locs cells slots ls mc ms C hR hS hL hd hk
  exact lv_iconst C.1 C.2.1 d0 (by decide) (kk p e R s m args below meth c H locs cells slots ls mc ms C hR hS hL hd hk)
theorem z_iconst_3  (d0 : decode Y.2.1 pc = .ok (.iconst 3, 1))  (kk : z_E G Y d Z (pc + 1) L (.int (3) :: st) w k n) : z_E G Y d Z pc L st w k n := by
  intro p e R s m args below meth c H locs cells slots ls mc ms C hR hS hL hd hk
  exact lv_iconst C.1 C.2.1 d0 (by decide) (kk p e R s m args below meth c H locs cells slots ls mc ms C hR hS hL hd hk)
theorem z_iconst_4  (d0 : decode Y.2.1 pc = .ok (.iconst 4, 1))  (kk : z_E G Y d Z (pc + 1) L (.int (4) :: st) w k n) : z_E G Y d Z pc L st w k n := by
  intro p e R s m args below meth c H locs cells slots ls mc ms C hR hS hL hd hk
  exact lv_iconst C.1 C.2.1 d0 (by decide) (kk p e R s m args below meth c H locs cells slots ls mc ms C hR hS hL hd hk)
theorem z_iconst_5  (d0 : decode Y.2.1 pc = .ok (.iconst 5, 1))  (kk : z_E G Y d Z (pc + 1) L (.int (5) :: st) w k n) : z_E G Y d Z pc L st w k n := by
  intro p e R s m args below meth c H locs cells slots ls mc ms C hR hS hL hd hk
  exact lv_iconst C.1 C.2.1 d0 (by decide) (kk p e R s m args below meth c H locs cells slots ls mc ms C hR hS hL hd hk)
theorem z_sipush_320  (d0 : decode Y.2.1 pc = .ok (.sipush 320, 3))  (kk : z_E G Y d Z (pc + 3) L (.int (320) :: st) w k n) : z_E G Y d Z pc L st w k n := by
  intro p e R s m args below meth c H locs cells slots ls mc ms C hR hS hL hd hk
  exact lv_sipush C.1 C.2.1 d0 (by decide) (kk p e R s m args below meth c H locs cells slots ls mc ms C hR hS hL hd hk)
theorem z_sipush_720  (d0 : decode Y.2.1 pc = .ok (.sipush 720, 3))  (kk : z_E G Y d Z (pc + 3) L (.int (720) :: st) w k n) : z_E G Y d Z pc L st w k n := by
  intro p e R s m args below meth c H locs cells slots ls mc ms C hR hS hL hd hk
  exact lv_sipush C.1 C.2.1 d0 (by decide) (kk p e R s m args below meth c H locs cells slots ls mc ms C hR hS hL hd hk)
theorem z_sipush_999  (d0 : decode Y.2.1 pc = .ok (.sipush 999, 3))  (kk : z_E G Y d Z (pc + 3) L (.int (999) :: st) w k n) : z_E G Y d Z pc L st w k n := by
  intro p e R s m args below meth c H locs cells slots ls mc ms C hR hS hL hd hk
  exact lv_sipush C.1 C.2.1 d0 (by decide) (kk p e R s m args below meth c H locs cells slots ls mc ms C hR hS hL hd hk)
theorem z_sipush_1000  (d0 : decode Y.2.1 pc = .ok (.sipush 1000, 3))  (kk : z_E G Y d Z (pc + 3) L (.int (1000) :: st) w k n) : z_E G Y d Z pc L st w k n := by
  intro p e R s m args below meth c H locs cells slots ls mc ms C hR hS hL hd hk
  exact lv_sipush C.1 C.2.1 d0 (by decide) (kk p e R s m args below meth c H locs cells slots ls mc ms C hR hS hL hd hk)
theorem z_sipush_3000  (d0 : decode Y.2.1 pc = .ok (.sipush 3000, 3))  (kk : z_E G Y d Z (pc + 3) L (.int (3000) :: st) w k n) : z_E G Y d Z pc L st w k n := by
  intro p e R s m args below meth c H locs cells slots ls mc ms C hR hS hL hd hk
  exact lv_sipush C.1 C.2.1 d0 (by decide) (kk p e R s m args below meth c H locs cells slots ls mc ms C hR hS hL hd hk)
theorem z_sipush_5460  (d0 : decode Y.2.1 pc = .ok (.sipush 5460, 3))  (kk : z_E G Y d Z (pc + 3) L (.int (5460) :: st) w k n) : z_E G Y d Z pc L st w k n := by
  intro p e R s m args below meth c H locs cells slots ls mc ms C hR hS hL hd hk
  exact lv_sipush C.1 C.2.1 d0 (by decide) (kk p e R s m args below meth c H locs cells slots ls mc ms C hR hS hL hd hk)
def z_isr : Value → Bool | .null => true | .ref _ => true | _ => false
theorem z_isr_rf (r : Option Nat) : z_isr (va_rf r) = true := by cases r <;> rfl
theorem z_isr_cat {v : Value} (h : z_isr v = true) : v.category = 1 := by cases v <;> first | rfl | cases h
theorem z_isr_or {v : Value} (h : z_isr v = true) : v = .null ∨ ∃ a, v = .ref a := by
  cases v <;> first | exact Or.inl rfl | exact Or.inr ⟨_, rfl⟩ | cases h
theorem z_iload_n {j : Fin 4} {x : Int32} (d0 : decode Y.2.1 pc = .ok (.iload_n j, 1)) (hl : L[(j : Nat)]? = some (some (.int x))) (kk : z_E G Y d Z (pc + 1) L (.int x :: st) w k n) : z_E G Y d Z pc L st w k n := by
  intro p e R s m args below meth c H locs cells slots ls mc ms C hR hS hL hd hk
  exact lv_iload_n C.1 C.2.1 d0 rfl (hL.at hl) (kk p e R s m args below meth c H locs cells slots ls mc ms C hR hS hL hd hk)
theorem z_iload {i : Nat} {x : Int32} (d0 : decode Y.2.1 pc = .ok (.iload i, 2)) (hl : L[i]? = some (some (.int x))) (kk : z_E G Y d Z (pc + 2) L (.int x :: st) w k n) : z_E G Y d Z pc L st w k n := by
  intro p e R s m args below meth c H locs cells slots ls mc ms C hR hS hL hd hk
  exact lv_iload C.1 C.2.1 d0 (hL.at hl) (kk p e R s m args below meth c H locs cells slots ls mc ms C hR hS hL hd hk)
theorem z_fload_n {j : Fin 4} {x : UInt32} (d0 : decode Y.2.1 pc = .ok (.fload_n j, 1)) (hl : L[(j : Nat)]? = some (some (.float x))) (kk : z_E G Y d Z (pc + 1) L (.float x :: st) w k n) : z_E G Y d Z pc L st w k n := by
  intro p e R s m args below meth c H locs cells slots ls mc ms C hR hS hL hd hk
  exact lv_fload_n C.1 C.2.1 d0 rfl (hL.at hl) (kk p e R s m args below meth c H locs cells slots ls mc ms C hR hS hL hd hk)
theorem z_fload {i : Nat} {x : UInt32} (d0 : decode Y.2.1 pc = .ok (.fload i, 2)) (hl : L[i]? = some (some (.float x))) (kk : z_E G Y d Z (pc + 2) L (.float x :: st) w k n) : z_E G Y d Z pc L st w k n := by
  intro p e R s m args below meth c H locs cells slots ls mc ms C hR hS hL hd hk
  exact lv_fload C.1 C.2.1 d0 (hL.at hl) (kk p e R s m args below meth c H locs cells slots ls mc ms C hR hS hL hd hk)
theorem z_aload_n {j : Fin 4} {v : Value} (d0 : decode Y.2.1 pc = .ok (.aload_n j, 1)) (hl : L[(j : Nat)]? = some (some v)) (hv : z_isr v = true) (kk : z_E G Y d Z (pc + 1) L (v :: st) w k n) : z_E G Y d Z pc L st w k n := by
  intro p e R s m args below meth c H locs cells slots ls mc ms C hR hS hL hd hk
  rcases z_isr_or hv with rfl | ⟨a, rfl⟩
  · exact lv_aload_nN C.1 C.2.1 d0 rfl (hL.at hl) (kk p e R s m args below meth c H locs cells slots ls mc ms C hR hS hL hd hk)
  · exact lv_aload_n C.1 C.2.1 d0 rfl (hL.at hl) (kk p e R s m args below meth c H locs cells slots ls mc ms C hR hS hL hd hk)
theorem z_aload {i : Nat} {v : Value} (d0 : decode Y.2.1 pc = .ok (.aload i, 2)) (hl : L[i]? = some (some v)) (hv : z_isr v = true) (kk : z_E G Y d Z (pc + 2) L (v :: st) w k n) : z_E G Y d Z pc L st w k n := by
  intro p e R s m args below meth c H locs cells slots ls mc ms C hR hS hL hd hk
  rcases z_isr_or hv with rfl | ⟨a, rfl⟩
  · exact lv_aloadN C.1 C.2.1 d0 (hL.at hl) (kk p e R s m args below meth c H locs cells slots ls mc ms C hR hS hL hd hk)
  · exact lv_aload C.1 C.2.1 d0 (hL.at hl) (kk p e R s m args below meth c H locs cells slots ls mc ms C hR hS hL hd hk)
theorem z_istore0 {y : Option Value} {t : List (Option Value)} {x : Int32} (d0 : decode Y.2.1 pc = .ok (.istore_n 0, 1)) (kk : z_E G Y d Z (pc + 1) (some (.int x) :: t) st w k n) : z_E G Y d Z pc (y :: t) (.int x :: st) w k n := by
  intro p e R s m args below meth c H locs cells slots ls mc ms C hR hS hL hd hk
  have hi : 0 < Y.2.2.1 := by rw [← hL.1]; simp only [List.length_cons]; omega
  exact lv_istore_n C.1 C.2.1 d0 rfl hL.has hi rfl (fun ls2 h2 => kk p e R s m args below meth c H locs cells slots ls2 mc ms C hR hS (hL.set hi rfl h2) hd hk)
theorem z_astore0 {y : Option Value} {t : List (Option Value)} {v : Value} (d0 : decode Y.2.1 pc = .ok (.astore_n 0, 1)) (hv : z_isr v = true) (kk : z_E G Y d Z (pc + 1) (some v :: t) st w k n) : z_E G Y d Z pc (y :: t) (v :: st) w k n := by
  intro p e R s m args below meth c H locs cells slots ls mc ms C hR hS hL hd hk
  have hi : 0 < Y.2.2.1 := by rw [← hL.1]; simp only [List.length_cons]; omega
  rcases z_isr_or hv with rfl | ⟨a, rfl⟩
  · exact lv_astore_nN C.1 C.2.1 d0 rfl hL.has hi rfl (fun ls2 h2 => kk p e R s m args below meth c H locs cells slots ls2 mc ms C hR hS (hL.set hi rfl h2) hd hk)
  · exact lv_astore_n C.1 C.2.1 d0 rfl hL.has hi rfl (fun ls2 h2 => kk p e R s m args below meth c H locs cells slots ls2 mc ms C hR hS (hL.set hi rfl h2) hd hk)
theorem z_iinc0 {t : List (Option Value)} {x : Int32} (d0 : decode Y.2.1 pc = .ok (.iinc 0 1, 3)) (kk : z_E G Y d Z (pc + 3) (some (.int (x + 1)) :: t) st w k n) : z_E G Y d Z pc (some (.int x) :: t) st w k n := by
  intro p e R s m args below meth c H locs cells slots ls mc ms C hR hS hL hd hk
  have hi : 0 < Y.2.2.1 := by rw [← hL.1]; simp only [List.length_cons]; omega
  obtain ⟨kq, hkq⟩ := List.getElem?_of_mem (z_en_mem (L := some (.int x) :: t) (i := 0) (v := .int x) |>.mpr rfl)
  exact lv_iinc (v := x + 1) C.1 C.2.1 d0 hL.has hkq rfl hi rfl (fun ls2 h2 => kk p e R s m args below meth c H locs cells slots ls2 mc ms C hR hS (hL.set hi rfl h2) hd hk)
theorem z_iinc0m {t : List (Option Value)} {x : Int32} (d0 : decode Y.2.1 pc = .ok (.iinc 0 (-1), 3)) (kk : z_E G Y d Z (pc + 3) (some (.int (x + (-1))) :: t) st w k n) : z_E G Y d Z pc (some (.int x) :: t) st w k n := by
  intro p e R s m args below meth c H locs cells slots ls mc ms C hR hS hL hd hk
  have hi : 0 < Y.2.2.1 := by rw [← hL.1]; simp only [List.length_cons]; omega
  obtain ⟨kq, hkq⟩ := List.getElem?_of_mem (z_en_mem (L := some (.int x) :: t) (i := 0) (v := .int x) |>.mpr rfl)
  exact lv_iinc (v := x + (-1)) C.1 C.2.1 d0 hL.has hkq rfl hi rfl (fun ls2 h2 => kk p e R s m args below meth c H locs cells slots ls2 mc ms C hR hS (hL.set hi rfl h2) hd hk)
theorem z_iinc0f {t : List (Option Value)} {x : Int32} (d0 : decode Y.2.1 pc = .ok (.iinc 0 4, 3)) (kk : z_E G Y d Z (pc + 3) (some (.int (x + 4)) :: t) st w k n) : z_E G Y d Z pc (some (.int x) :: t) st w k n := by
  intro p e R s m args below meth c H locs cells slots ls mc ms C hR hS hL hd hk
  have hi : 0 < Y.2.2.1 := by rw [← hL.1]; simp only [List.length_cons]; omega
  obtain ⟨kq, hkq⟩ := List.getElem?_of_mem (z_en_mem (L := some (.int x) :: t) (i := 0) (v := .int x) |>.mpr rfl)
  exact lv_iinc (v := x + 4) C.1 C.2.1 d0 hL.has hkq rfl hi rfl (fun ls2 h2 => kk p e R s m args below meth c H locs cells slots ls2 mc ms C hR hS (hL.set hi rfl h2) hd hk)
theorem z_istore1 {x0 y : Option Value} {t : List (Option Value)} {x : Int32} (d0 : decode Y.2.1 pc = .ok (.istore_n 1, 1)) (kk : z_E G Y d Z (pc + 1) (x0 :: some (.int x) :: t) st w k n) : z_E G Y d Z pc (x0 :: y :: t) (.int x :: st) w k n := by
  intro p e R s m args below meth c H locs cells slots ls mc ms C hR hS hL hd hk
  have hi : 1 < Y.2.2.1 := by rw [← hL.1]; simp only [List.length_cons]; omega
  exact lv_istore_n C.1 C.2.1 d0 rfl hL.has hi rfl (fun ls2 h2 => kk p e R s m args below meth c H locs cells slots ls2 mc ms C hR hS (hL.set hi rfl h2) hd hk)
theorem z_astore1 {x0 y : Option Value} {t : List (Option Value)} {v : Value} (d0 : decode Y.2.1 pc = .ok (.astore_n 1, 1)) (hv : z_isr v = true) (kk : z_E G Y d Z (pc + 1) (x0 :: some v :: t) st w k n) : z_E G Y d Z pc (x0 :: y :: t) (v :: st) w k n := by
  intro p e R s m args below meth c H locs cells slots ls mc ms C hR hS hL hd hk
  have hi : 1 < Y.2.2.1 := by rw [← hL.1]; simp only [List.length_cons]; omega
  rcases z_isr_or hv with rfl | ⟨a, rfl⟩
  · exact lv_astore_nN C.1 C.2.1 d0 rfl hL.has hi rfl (fun ls2 h2 => kk p e R s m args below meth c H locs cells slots ls2 mc ms C hR hS (hL.set hi rfl h2) hd hk)
  · exact lv_astore_n C.1 C.2.1 d0 rfl hL.has hi rfl (fun ls2 h2 => kk p e R s m args below meth c H locs cells slots ls2 mc ms C hR hS (hL.set hi rfl h2) hd hk)
theorem z_iinc1 {x0 : Option Value} {t : List (Option Value)} {x : Int32} (d0 : decode Y.2.1 pc = .ok (.iinc 1 1, 3)) (kk : z_E G Y d Z (pc + 3) (x0 :: some (.int (x + 1)) :: t) st w k n) : z_E G Y d Z pc (x0 :: some (.int x) :: t) st w k n := by
  intro p e R s m args below meth c H locs cells slots ls mc ms C hR hS hL hd hk
  have hi : 1 < Y.2.2.1 := by rw [← hL.1]; simp only [List.length_cons]; omega
  obtain ⟨kq, hkq⟩ := List.getElem?_of_mem (z_en_mem (L := x0 :: some (.int x) :: t) (i := 1) (v := .int x) |>.mpr rfl)
  exact lv_iinc (v := x + 1) C.1 C.2.1 d0 hL.has hkq rfl hi rfl (fun ls2 h2 => kk p e R s m args below meth c H locs cells slots ls2 mc ms C hR hS (hL.set hi rfl h2) hd hk)
theorem z_iinc1m {x0 : Option Value} {t : List (Option Value)} {x : Int32} (d0 : decode Y.2.1 pc = .ok (.iinc 1 (-1), 3)) (kk : z_E G Y d Z (pc + 3) (x0 :: some (.int (x + (-1))) :: t) st w k n) : z_E G Y d Z pc (x0 :: some (.int x) :: t) st w k n := by
  intro p e R s m args below meth c H locs cells slots ls mc ms C hR hS hL hd hk
  have hi : 1 < Y.2.2.1 := by rw [← hL.1]; simp only [List.length_cons]; omega
  obtain ⟨kq, hkq⟩ := List.getElem?_of_mem (z_en_mem (L := x0 :: some (.int x) :: t) (i := 1) (v := .int x) |>.mpr rfl)
  exact lv_iinc (v := x + (-1)) C.1 C.2.1 d0 hL.has hkq rfl hi rfl (fun ls2 h2 => kk p e R s m args below meth c H locs cells slots ls2 mc ms C hR hS (hL.set hi rfl h2) hd hk)
theorem z_iinc1f {x0 : Option Value} {t : List (Option Value)} {x : Int32} (d0 : decode Y.2.1 pc = .ok (.iinc 1 4, 3)) (kk : z_E G Y d Z (pc + 3) (x0 :: some (.int (x + 4)) :: t) st w k n) : z_E G Y d Z pc (x0 :: some (.int x) :: t) st w k n := by
  intro p e R s m args below meth c H locs cells slots ls mc ms C hR hS hL hd hk
  have hi : 1 < Y.2.2.1 := by rw [← hL.1]; simp only [List.length_cons]; omega
  obtain ⟨kq, hkq⟩ := List.getElem?_of_mem (z_en_mem (L := x0 :: some (.int x) :: t) (i := 1) (v := .int x) |>.mpr rfl)
  exact lv_iinc (v := x + 4) C.1 C.2.1 d0 hL.has hkq rfl hi rfl (fun ls2 h2 => kk p e R s m args below meth c H locs cells slots ls2 mc ms C hR hS (hL.set hi rfl h2) hd hk)
theorem z_istore2 {x0 x1 y : Option Value} {t : List (Option Value)} {x : Int32} (d0 : decode Y.2.1 pc = .ok (.istore_n 2, 1)) (kk : z_E G Y d Z (pc + 1) (x0 :: x1 :: some (.int x) :: t) st w k n) : z_E G Y d Z pc (x0 :: x1 :: y :: t) (.int x :: st) w k n := by
  intro p e R s m args below meth c H locs cells slots ls mc ms C hR hS hL hd hk
  have hi : 2 < Y.2.2.1 := by rw [← hL.1]; simp only [List.length_cons]; omega
  exact lv_istore_n C.1 C.2.1 d0 rfl hL.has hi rfl (fun ls2 h2 => kk p e R s m args below meth c H locs cells slots ls2 mc ms C hR hS (hL.set hi rfl h2) hd hk)
theorem z_astore2 {x0 x1 y : Option Value} {t : List (Option Value)} {v : Value} (d0 : decode Y.2.1 pc = .ok (.astore_n 2, 1)) (hv : z_isr v = true) (kk : z_E G Y d Z (pc + 1) (x0 :: x1 :: some v :: t) st w k n) : z_E G Y d Z pc (x0 :: x1 :: y :: t) (v :: st) w k n := by
  intro p e R s m args below meth c H locs cells slots ls mc ms C hR hS hL hd hk
  have hi : 2 < Y.2.2.1 := by rw [← hL.1]; simp only [List.length_cons]; omega
  rcases z_isr_or hv with rfl | ⟨a, rfl⟩
  · exact lv_astore_nN C.1 C.2.1 d0 rfl hL.has hi rfl (fun ls2 h2 => kk p e R s m args below meth c H locs cells slots ls2 mc ms C hR hS (hL.set hi rfl h2) hd hk)
  · exact lv_astore_n C.1 C.2.1 d0 rfl hL.has hi rfl (fun ls2 h2 => kk p e R s m args below meth c H locs cells slots ls2 mc ms C hR hS (hL.set hi rfl h2) hd hk)
theorem z_iinc2 {x0 x1 : Option Value} {t : List (Option Value)} {x : Int32} (d0 : decode Y.2.1 pc = .ok (.iinc 2 1, 3)) (kk : z_E G Y d Z (pc + 3) (x0 :: x1 :: some (.int (x + 1)) :: t) st w k n) : z_E G Y d Z pc (x0 :: x1 :: some (.int x) :: t) st w k n := by
  intro p e R s m args below meth c H locs cells slots ls mc ms C hR hS hL hd hk
  have hi : 2 < Y.2.2.1 := by rw [← hL.1]; simp only [List.length_cons]; omega
  obtain ⟨kq, hkq⟩ := List.getElem?_of_mem (z_en_mem (L := x0 :: x1 :: some (.int x) :: t) (i := 2) (v := .int x) |>.mpr rfl)
  exact lv_iinc (v := x + 1) C.1 C.2.1 d0 hL.has hkq rfl hi rfl (fun ls2 h2 => kk p e R s m args below meth c H locs cells slots ls2 mc ms C hR hS (hL.set hi rfl h2) hd hk)
theorem z_iinc2m {x0 x1 : Option Value} {t : List (Option Value)} {x : Int32} (d0 : decode Y.2.1 pc = .ok (.iinc 2 (-1), 3)) (kk : z_E G Y d Z (pc + 3) (x0 :: x1 :: some (.int (x + (-1))) :: t) st w k n) : z_E G Y d Z pc (x0 :: x1 :: some (.int x) :: t) st w k n := by
  intro p e R s m args below meth c H locs cells slots ls mc ms C hR hS hL hd hk
  have hi : 2 < Y.2.2.1 := by rw [← hL.1]; simp only [List.length_cons]; omega
  obtain ⟨kq, hkq⟩ := List.getElem?_of_mem (z_en_mem (L := x0 :: x1 :: some (.int x) :: t) (i := 2) (v := .int x) |>.mpr rfl)
  exact lv_iinc (v := x + (-1)) C.1 C.2.1 d0 hL.has hkq rfl hi rfl (fun ls2 h2 => kk p e R s m args below meth c H locs cells slots ls2 mc ms C hR hS (hL.set hi rfl h2) hd hk)
theorem z_iinc2f {x0 x1 : Option Value} {t : List (Option Value)} {x : Int32} (d0 : decode Y.2.1 pc = .ok (.iinc 2 4, 3)) (kk : z_E G Y d Z (pc + 3) (x0 :: x1 :: some (.int (x + 4)) :: t) st w k n) : z_E G Y d Z pc (x0 :: x1 :: some (.int x) :: t) st w k n := by
  intro p e R s m args below meth c H locs cells slots ls mc ms C hR hS hL hd hk
  have hi : 2 < Y.2.2.1 := by rw [← hL.1]; simp only [List.length_cons]; omega
  obtain ⟨kq, hkq⟩ := List.getElem?_of_mem (z_en_mem (L := x0 :: x1 :: some (.int x) :: t) (i := 2) (v := .int x) |>.mpr rfl)
  exact lv_iinc (v := x + 4) C.1 C.2.1 d0 hL.has hkq rfl hi rfl (fun ls2 h2 => kk p e R s m args below meth c H locs cells slots ls2 mc ms C hR hS (hL.set hi rfl h2) hd hk)
theorem z_istore3 {x0 x1 x2 y : Option Value} {t : List (Option Value)} {x : Int32} (d0 : decode Y.2.1 pc = .ok (.istore_n 3, 1)) (kk : z_E G Y d Z (pc + 1) (x0 :: x1 :: x2 :: some (.int x) :: t) st w k n) : z_E G Y d Z pc (x0 :: x1 :: x2 :: y :: t) (.int x :: st) w k n := by
  intro p e R s m args below meth c H locs cells slots ls mc ms C hR hS hL hd hk
  have hi : 3 < Y.2.2.1 := by rw [← hL.1]; simp only [List.length_cons]; omega
  exact lv_istore_n C.1 C.2.1 d0 rfl hL.has hi rfl (fun ls2 h2 => kk p e R s m args below meth c H locs cells slots ls2 mc ms C hR hS (hL.set hi rfl h2) hd hk)
theorem z_astore3 {x0 x1 x2 y : Option Value} {t : List (Option Value)} {v : Value} (d0 : decode Y.2.1 pc = .ok (.astore_n 3, 1)) (hv : z_isr v = true) (kk : z_E G Y d Z (pc + 1) (x0 :: x1 :: x2 :: some v :: t) st w k n) : z_E G Y d Z pc (x0 :: x1 :: x2 :: y :: t) (v :: st) w k n := by
  intro p e R s m args below meth c H locs cells slots ls mc ms C hR hS hL hd hk
  have hi : 3 < Y.2.2.1 := by rw [← hL.1]; simp only [List.length_cons]; omega
  rcases z_isr_or hv with rfl | ⟨a, rfl⟩
  · exact lv_astore_nN C.1 C.2.1 d0 rfl hL.has hi rfl (fun ls2 h2 => kk p e R s m args below meth c H locs cells slots ls2 mc ms C hR hS (hL.set hi rfl h2) hd hk)
  · exact lv_astore_n C.1 C.2.1 d0 rfl hL.has hi rfl (fun ls2 h2 => kk p e R s m args below meth c H locs cells slots ls2 mc ms C hR hS (hL.set hi rfl h2) hd hk)
theorem z_iinc3 {x0 x1 x2 : Option Value} {t : List (Option Value)} {x : Int32} (d0 : decode Y.2.1 pc = .ok (.iinc 3 1, 3)) (kk : z_E G Y d Z (pc + 3) (x0 :: x1 :: x2 :: some (.int (x + 1)) :: t) st w k n) : z_E G Y d Z pc (x0 :: x1 :: x2 :: some (.int x) :: t) st w k n := by
  intro p e R s m args below meth c H locs cells slots ls mc ms C hR hS hL hd hk
  have hi : 3 < Y.2.2.1 := by rw [← hL.1]; simp only [List.length_cons]; omega
  obtain ⟨kq, hkq⟩ := List.getElem?_of_mem (z_en_mem (L := x0 :: x1 :: x2 :: some (.int x) :: t) (i := 3) (v := .int x) |>.mpr rfl)
  exact lv_iinc (v := x + 1) C.1 C.2.1 d0 hL.has hkq rfl hi rfl (fun ls2 h2 => kk p e R s m args below meth c H locs cells slots ls2 mc ms C hR hS (hL.set hi rfl h2) hd hk)
theorem z_iinc3m {x0 x1 x2 : Option Value} {t : List (Option Value)} {x : Int32} (d0 : decode Y.2.1 pc = .ok (.iinc 3 (-1), 3)) (kk : z_E G Y d Z (pc + 3) (x0 :: x1 :: x2 :: some (.int (x + (-1))) :: t) st w k n) : z_E G Y d Z pc (x0 :: x1 :: x2 :: some (.int x) :: t) st w k n := by
  intro p e R s m args below meth c H locs cells slots ls mc ms C hR hS hL hd hk
  have hi : 3 < Y.2.2.1 := by rw [← hL.1]; simp only [List.length_cons]; omega
  obtain ⟨kq, hkq⟩ := List.getElem?_of_mem (z_en_mem (L := x0 :: x1 :: x2 :: some (.int x) :: t) (i := 3) (v := .int x) |>.mpr rfl)
  exact lv_iinc (v := x + (-1)) C.1 C.2.1 d0 hL.has hkq rfl hi rfl (fun ls2 h2 => kk p e R s m args below meth c H locs cells slots ls2 mc ms C hR hS (hL.set hi rfl h2) hd hk)
theorem z_iinc3f {x0 x1 x2 : Option Value} {t : List (Option Value)} {x : Int32} (d0 : decode Y.2.1 pc = .ok (.iinc 3 4, 3)) (kk : z_E G Y d Z (pc + 3) (x0 :: x1 :: x2 :: some (.int (x + 4)) :: t) st w k n) : z_E G Y d Z pc (x0 :: x1 :: x2 :: some (.int x) :: t) st w k n := by
  intro p e R s m args below meth c H locs cells slots ls mc ms C hR hS hL hd hk
  have hi : 3 < Y.2.2.1 := by rw [← hL.1]; simp only [List.length_cons]; omega
  obtain ⟨kq, hkq⟩ := List.getElem?_of_mem (z_en_mem (L := x0 :: x1 :: x2 :: some (.int x) :: t) (i := 3) (v := .int x) |>.mpr rfl)
  exact lv_iinc (v := x + 4) C.1 C.2.1 d0 hL.has hkq rfl hi rfl (fun ls2 h2 => kk p e R s m args below meth c H locs cells slots ls2 mc ms C hR hS (hL.set hi rfl h2) hd hk)
theorem z_istore4 {x0 x1 x2 x3 y : Option Value} {t : List (Option Value)} {x : Int32} (d0 : decode Y.2.1 pc = .ok (.istore 4, 2)) (kk : z_E G Y d Z (pc + 2) (x0 :: x1 :: x2 :: x3 :: some (.int x) :: t) st w k n) : z_E G Y d Z pc (x0 :: x1 :: x2 :: x3 :: y :: t) (.int x :: st) w k n := by
  intro p e R s m args below meth c H locs cells slots ls mc ms C hR hS hL hd hk
  have hi : 4 < Y.2.2.1 := by rw [← hL.1]; simp only [List.length_cons]; omega
  exact lv_istore C.1 C.2.1 d0 hL.has hi rfl (fun ls2 h2 => kk p e R s m args below meth c H locs cells slots ls2 mc ms C hR hS (hL.set hi rfl h2) hd hk)
theorem z_astore4 {x0 x1 x2 x3 y : Option Value} {t : List (Option Value)} {v : Value} (d0 : decode Y.2.1 pc = .ok (.astore 4, 2)) (hv : z_isr v = true) (kk : z_E G Y d Z (pc + 2) (x0 :: x1 :: x2 :: x3 :: some v :: t) st w k n) : z_E G Y d Z pc (x0 :: x1 :: x2 :: x3 :: y :: t) (v :: st) w k n := by
  intro p e R s m args below meth c H locs cells slots ls mc ms C hR hS hL hd hk
  have hi : 4 < Y.2.2.1 := by rw [← hL.1]; simp only [List.length_cons]; omega
  rcases z_isr_or hv with rfl | ⟨a, rfl⟩
  · exact lv_astoreN C.1 C.2.1 d0 hL.has hi rfl (fun ls2 h2 => kk p e R s m args below meth c H locs cells slots ls2 mc ms C hR hS (hL.set hi rfl h2) hd hk)
  · exact lv_astore C.1 C.2.1 d0 hL.has hi rfl (fun ls2 h2 => kk p e R s m args below meth c H locs cells slots ls2 mc ms C hR hS (hL.set hi rfl h2) hd hk)
theorem z_iinc4 {x0 x1 x2 x3 : Option Value} {t : List (Option Value)} {x : Int32} (d0 : decode Y.2.1 pc = .ok (.iinc 4 1, 3)) (kk : z_E G Y d Z (pc + 3) (x0 :: x1 :: x2 :: x3 :: some (.int (x + 1)) :: t) st w k n) : z_E G Y d Z pc (x0 :: x1 :: x2 :: x3 :: some (.int x) :: t) st w k n := by
  intro p e R s m args below meth c H locs cells slots ls mc ms C hR hS hL hd hk
  have hi : 4 < Y.2.2.1 := by rw [← hL.1]; simp only [List.length_cons]; omega
  obtain ⟨kq, hkq⟩ := List.getElem?_of_mem (z_en_mem (L := x0 :: x1 :: x2 :: x3 :: some (.int x) :: t) (i := 4) (v := .int x) |>.mpr rfl)
  exact lv_iinc (v := x + 1) C.1 C.2.1 d0 hL.has hkq rfl hi rfl (fun ls2 h2 => kk p e R s m args below meth c H locs cells slots ls2 mc ms C hR hS (hL.set hi rfl h2) hd hk)
theorem z_iinc4m {x0 x1 x2 x3 : Option Value} {t : List (Option Value)} {x : Int32} (d0 : decode Y.2.1 pc = .ok (.iinc 4 (-1), 3)) (kk : z_E G Y d Z (pc + 3) (x0 :: x1 :: x2 :: x3 :: some (.int (x + (-1))) :: t) st w k n) : z_E G Y d Z pc (x0 :: x1 :: x2 :: x3 :: some (.int x) :: t) st w k n := by
  intro p e R s m args below meth c H locs cells slots ls mc ms C hR hS hL hd hk
  have hi : 4 < Y.2.2.1 := by rw [← hL.1]; simp only [List.length_cons]; omega
  obtain ⟨kq, hkq⟩ := List.getElem?_of_mem (z_en_mem (L := x0 :: x1 :: x2 :: x3 :: some (.int x) :: t) (i := 4) (v := .int x) |>.mpr rfl)
  exact lv_iinc (v := x + (-1)) C.1 C.2.1 d0 hL.has hkq rfl hi rfl (fun ls2 h2 => kk p e R s m args below meth c H locs cells slots ls2 mc ms C hR hS (hL.set hi rfl h2) hd hk)
theorem z_iinc4f {x0 x1 x2 x3 : Option Value} {t : List (Option Value)} {x : Int32} (d0 : decode Y.2.1 pc = .ok (.iinc 4 4, 3)) (kk : z_E G Y d Z (pc + 3) (x0 :: x1 :: x2 :: x3 :: some (.int (x + 4)) :: t) st w k n) : z_E G Y d Z pc (x0 :: x1 :: x2 :: x3 :: some (.int x) :: t) st w k n := by
  intro p e R s m args below meth c H locs cells slots ls mc ms C hR hS hL hd hk
  have hi : 4 < Y.2.2.1 := by rw [← hL.1]; simp only [List.length_cons]; omega
  obtain ⟨kq, hkq⟩ := List.getElem?_of_mem (z_en_mem (L := x0 :: x1 :: x2 :: x3 :: some (.int x) :: t) (i := 4) (v := .int x) |>.mpr rfl)
  exact lv_iinc (v := x + 4) C.1 C.2.1 d0 hL.has hkq rfl hi rfl (fun ls2 h2 => kk p e R s m args below meth c H locs cells slots ls2 mc ms C hR hS (hL.set hi rfl h2) hd hk)
theorem z_istore5 {x0 x1 x2 x3 x4 y : Option Value} {t : List (Option Value)} {x : Int32} (d0 : decode Y.2.1 pc = .ok (.istore 5, 2)) (kk : z_E G Y d Z (pc + 2) (x0 :: x1 :: x2 :: x3 :: x4 :: some (.int x) :: t) st w k n) : z_E G Y d Z pc (x0 :: x1 :: x2 :: x3 :: x4 :: y :: t) (.int x :: st) w k n := by
  intro p e R s m args below meth c H locs cells slots ls mc ms C hR hS hL hd hk
  have hi : 5 < Y.2.2.1 := by rw [← hL.1]; simp only [List.length_cons]; omega
  exact lv_istore C.1 C.2.1 d0 hL.has hi rfl (fun ls2 h2 => kk p e R s m args below meth c H locs cells slots ls2 mc ms C hR hS (hL.set hi rfl h2) hd hk)
theorem z_astore5 {x0 x1 x2 x3 x4 y : Option Value} {t : List (Option Value)} {v : Value} (d0 : decode Y.2.1 pc = .ok (.astore 5, 2)) (hv : z_isr v = true) (kk : z_E G Y d Z (pc + 2) (x0 :: x1 :: x2 :: x3 :: x4 :: some v :: t) st w k n) : z_E G Y d Z pc (x0 :: x1 :: x2 :: x3 :: x4 :: y :: t) (v :: st) w k n := by
  intro p e R s m args below meth c H locs cells slots ls mc ms C hR hS hL hd hk
  have hi : 5 < Y.2.2.1 := by rw [← hL.1]; simp only [List.length_cons]; omega
  rcases z_isr_or hv with rfl | ⟨a, rfl⟩
  · exact lv_astoreN C.1 C.2.1 d0 hL.has hi rfl (fun ls2 h2 => kk p e R s m args below meth c H locs cells slots ls2 mc ms C hR hS (hL.set hi rfl h2) hd hk)
  · exact lv_astore C.1 C.2.1 d0 hL.has hi rfl (fun ls2 h2 => kk p e R s m args below meth c H locs cells slots ls2 mc ms C hR hS (hL.set hi rfl h2) hd hk)
theorem z_iinc5 {x0 x1 x2 x3 x4 : Option Value} {t : List (Option Value)} {x : Int32} (d0 : decode Y.2.1 pc = .ok (.iinc 5 1, 3)) (kk : z_E G Y d Z (pc + 3) (x0 :: x1 :: x2 :: x3 :: x4 :: some (.int (x + 1)) :: t) st w k n) : z_E G Y d Z pc (x0 :: x1 :: x2 :: x3 :: x4 :: some (.int x) :: t) st w k n := by
  intro p e R s m args below meth c H locs cells slots ls mc ms C hR hS hL hd hk
  have hi : 5 < Y.2.2.1 := by rw [← hL.1]; simp only [List.length_cons]; omega
  obtain ⟨kq, hkq⟩ := List.getElem?_of_mem (z_en_mem (L := x0 :: x1 :: x2 :: x3 :: x4 :: some (.int x) :: t) (i := 5) (v := .int x) |>.mpr rfl)
  exact lv_iinc (v := x + 1) C.1 C.2.1 d0 hL.has hkq rfl hi rfl (fun ls2 h2 => kk p e R s m args below meth c H locs cells slots ls2 mc ms C hR hS (hL.set hi rfl h2) hd hk)
theorem z_iinc5m {x0 x1 x2 x3 x4 : Option Value} {t : List (Option Value)} {x : Int32} (d0 : decode Y.2.1 pc = .ok (.iinc 5 (-1), 3)) (kk : z_E G Y d Z (pc + 3) (x0 :: x1 :: x2 :: x3 :: x4 :: some (.int (x + (-1))) :: t) st w k n) : z_E G Y d Z pc (x0 :: x1 :: x2 :: x3 :: x4 :: some (.int x) :: t) st w k n := by
  intro p e R s m args below meth c H locs cells slots ls mc ms C hR hS hL hd hk
  have hi : 5 < Y.2.2.1 := by rw [← hL.1]; simp only [List.length_cons]; omega
  obtain ⟨kq, hkq⟩ := List.getElem?_of_mem (z_en_mem (L := x0 :: x1 :: x2 :: x3 :: x4 :: some (.int x) :: t) (i := 5) (v := .int x) |>.mpr rfl)
  exact lv_iinc (v := x + (-1)) C.1 C.2.1 d0 hL.has hkq rfl hi rfl (fun ls2 h2 => kk p e R s m args below meth c H locs cells slots ls2 mc ms C hR hS (hL.set hi rfl h2) hd hk)
theorem z_iinc5f {x0 x1 x2 x3 x4 : Option Value} {t : List (Option Value)} {x : Int32} (d0 : decode Y.2.1 pc = .ok (.iinc 5 4, 3)) (kk : z_E G Y d Z (pc + 3) (x0 :: x1 :: x2 :: x3 :: x4 :: some (.int (x + 4)) :: t) st w k n) : z_E G Y d Z pc (x0 :: x1 :: x2 :: x3 :: x4 :: some (.int x) :: t) st w k n := by
  intro p e R s m args below meth c H locs cells slots ls mc ms C hR hS hL hd hk
  have hi : 5 < Y.2.2.1 := by rw [← hL.1]; simp only [List.length_cons]; omega
  obtain ⟨kq, hkq⟩ := List.getElem?_of_mem (z_en_mem (L := x0 :: x1 :: x2 :: x3 :: x4 :: some (.int x) :: t) (i := 5) (v := .int x) |>.mpr rfl)
  exact lv_iinc (v := x + 4) C.1 C.2.1 d0 hL.has hkq rfl hi rfl (fun ls2 h2 => kk p e R s m args below meth c H locs cells slots ls2 mc ms C hR hS (hL.set hi rfl h2) hd hk)
theorem z_istore6 {x0 x1 x2 x3 x4 x5 y : Option Value} {t : List (Option Value)} {x : Int32} (d0 : decode Y.2.1 pc = .ok (.istore 6, 2)) (kk : z_E G Y d Z (pc + 2) (x0 :: x1 :: x2 :: x3 :: x4 :: x5 :: some (.int x) :: t) st w k n) : z_E G Y d Z pc (x0 :: x1 :: x2 :: x3 :: x4 :: x5 :: y :: t) (.int x :: st) w k n := by
  intro p e R s m args below meth c H locs cells slots ls mc ms C hR hS hL hd hk
  have hi : 6 < Y.2.2.1 := by rw [← hL.1]; simp only [List.length_cons]; omega
  exact lv_istore C.1 C.2.1 d0 hL.has hi rfl (fun ls2 h2 => kk p e R s m args below meth c H locs cells slots ls2 mc ms C hR hS (hL.set hi rfl h2) hd hk)
theorem z_astore6 {x0 x1 x2 x3 x4 x5 y : Option Value} {t : List (Option Value)} {v : Value} (d0 : decode Y.2.1 pc = .ok (.astore 6, 2)) (hv : z_isr v = true) (kk : z_E G Y d Z (pc + 2) (x0 :: x1 :: x2 :: x3 :: x4 :: x5 :: some v :: t) st w k n) : z_E G Y d Z pc (x0 :: x1 :: x2 :: x3 :: x4 :: x5 :: y :: t) (v :: st) w k n := by
  intro p e R s m args below meth c H locs cells slots ls mc ms C hR hS hL hd hk
  have hi : 6 < Y.2.2.1 := by rw [← hL.1]; simp only [List.length_cons]; omega
  rcases z_isr_or hv with rfl | ⟨a, rfl⟩
  · exact lv_astoreN C.1 C.2.1 d0 hL.has hi rfl (fun ls2 h2 => kk p e R s m args below meth c H locs cells slots ls2 mc ms C hR hS (hL.set hi rfl h2) hd hk)
  · exact lv_astore C.1 C.2.1 d0 hL.has hi rfl (fun ls2 h2 => kk p e R s m args below meth c H locs cells slots ls2 mc ms C hR hS (hL.set hi rfl h2) hd hk)
theorem z_fstore6 {x0 x1 x2 x3 x4 x5 y : Option Value} {t : List (Option Value)} {x : UInt32} (d0 : decode Y.2.1 pc = .ok (.fstore 6, 2)) (kk : z_E G Y d Z (pc + 2) (x0 :: x1 :: x2 :: x3 :: x4 :: x5 :: some (.float x) :: t) st w k n) : z_E G Y d Z pc (x0 :: x1 :: x2 :: x3 :: x4 :: x5 :: y :: t) (.float x :: st) w k n := by
  intro p e R s m args below meth c H locs cells slots ls mc ms C hR hS hL hd hk
  have hi : 6 < Y.2.2.1 := by rw [← hL.1]; simp only [List.length_cons]; omega
  exact lv_fstore C.1 C.2.1 d0 hL.has hi rfl (fun ls2 h2 => kk p e R s m args below meth c H locs cells slots ls2 mc ms C hR hS (hL.set hi rfl h2) hd hk)
theorem z_iinc6 {x0 x1 x2 x3 x4 x5 : Option Value} {t : List (Option Value)} {x : Int32} (d0 : decode Y.2.1 pc = .ok (.iinc 6 1, 3)) (kk : z_E G Y d Z (pc + 3) (x0 :: x1 :: x2 :: x3 :: x4 :: x5 :: some (.int (x + 1)) :: t) st w k n) : z_E G Y d Z pc (x0 :: x1 :: x2 :: x3 :: x4 :: x5 :: some (.int x) :: t) st w k n := by
  intro p e R s m args below meth c H locs cells slots ls mc ms C hR hS hL hd hk
  have hi : 6 < Y.2.2.1 := by rw [← hL.1]; simp only [List.length_cons]; omega
  obtain ⟨kq, hkq⟩ := List.getElem?_of_mem (z_en_mem (L := x0 :: x1 :: x2 :: x3 :: x4 :: x5 :: some (.int x) :: t) (i := 6) (v := .int x) |>.mpr rfl)
  exact lv_iinc (v := x + 1) C.1 C.2.1 d0 hL.has hkq rfl hi rfl (fun ls2 h2 => kk p e R s m args below meth c H locs cells slots ls2 mc ms C hR hS (hL.set hi rfl h2) hd hk)
theorem z_iinc6m {x0 x1 x2 x3 x4 x5 : Option Value} {t : List (Option Value)} {x : Int32} (d0 : decode Y.2.1 pc = .ok (.iinc 6 (-1), 3)) (kk : z_E G Y d Z (pc + 3) (x0 :: x1 :: x2 :: x3 :: x4 :: x5 :: some (.int (x + (-1))) :: t) st w k n) : z_E G Y d Z pc (x0 :: x1 :: x2 :: x3 :: x4 :: x5 :: some (.int x) :: t) st w k n := by
  intro p e R s m args below meth c H locs cells slots ls mc ms C hR hS hL hd hk
  have hi : 6 < Y.2.2.1 := by rw [← hL.1]; simp only [List.length_cons]; omega
  obtain ⟨kq, hkq⟩ := List.getElem?_of_mem (z_en_mem (L := x0 :: x1 :: x2 :: x3 :: x4 :: x5 :: some (.int x) :: t) (i := 6) (v := .int x) |>.mpr rfl)
  exact lv_iinc (v := x + (-1)) C.1 C.2.1 d0 hL.has hkq rfl hi rfl (fun ls2 h2 => kk p e R s m args below meth c H locs cells slots ls2 mc ms C hR hS (hL.set hi rfl h2) hd hk)
theorem z_iinc6f {x0 x1 x2 x3 x4 x5 : Option Value} {t : List (Option Value)} {x : Int32} (d0 : decode Y.2.1 pc = .ok (.iinc 6 4, 3)) (kk : z_E G Y d Z (pc + 3) (x0 :: x1 :: x2 :: x3 :: x4 :: x5 :: some (.int (x + 4)) :: t) st w k n) : z_E G Y d Z pc (x0 :: x1 :: x2 :: x3 :: x4 :: x5 :: some (.int x) :: t) st w k n := by
  intro p e R s m args below meth c H locs cells slots ls mc ms C hR hS hL hd hk
  have hi : 6 < Y.2.2.1 := by rw [← hL.1]; simp only [List.length_cons]; omega
  obtain ⟨kq, hkq⟩ := List.getElem?_of_mem (z_en_mem (L := x0 :: x1 :: x2 :: x3 :: x4 :: x5 :: some (.int x) :: t) (i := 6) (v := .int x) |>.mpr rfl)
  exact lv_iinc (v := x + 4) C.1 C.2.1 d0 hL.has hkq rfl hi rfl (fun ls2 h2 => kk p e R s m args below meth c H locs cells slots ls2 mc ms C hR hS (hL.set hi rfl h2) hd hk)
theorem z_istore7 {x0 x1 x2 x3 x4 x5 x6 y : Option Value} {t : List (Option Value)} {x : Int32} (d0 : decode Y.2.1 pc = .ok (.istore 7, 2)) (kk : z_E G Y d Z (pc + 2) (x0 :: x1 :: x2 :: x3 :: x4 :: x5 :: x6 :: some (.int x) :: t) st w k n) : z_E G Y d Z pc (x0 :: x1 :: x2 :: x3 :: x4 :: x5 :: x6 :: y :: t) (.int x :: st) w k n := by
  intro p e R s m args below meth c H locs cells slots ls mc ms C hR hS hL hd hk
  have hi : 7 < Y.2.2.1 := by rw [← hL.1]; simp only [List.length_cons]; omega
  exact lv_istore C.1 C.2.1 d0 hL.has hi rfl (fun ls2 h2 => kk p e R s m args below meth c H locs cells slots ls2 mc ms C hR hS (hL.set hi rfl h2) hd hk)
theorem z_astore7 {x0 x1 x2 x3 x4 x5 x6 y : Option Value} {t : List (Option Value)} {v : Value} (d0 : decode Y.2.1 pc = .ok (.astore 7, 2)) (hv : z_isr v = true) (kk : z_E G Y d Z (pc + 2) (x0 :: x1 :: x2 :: x3 :: x4 :: x5 :: x6 :: some v :: t) st w k n) : z_E G Y d Z pc (x0 :: x1 :: x2 :: x3 :: x4 :: x5 :: x6 :: y :: t) (v :: st) w k n := by
  intro p e R s m args below meth c H locs cells slots ls mc ms C hR hS hL hd hk
  have hi : 7 < Y.2.2.1 := by rw [← hL.1]; simp only [List.length_cons]; omega
  rcases z_isr_or hv with rfl | ⟨a, rfl⟩
  · exact lv_astoreN C.1 C.2.1 d0 hL.has hi rfl (fun ls2 h2 => kk p e R s m args below meth c H locs cells slots ls2 mc ms C hR hS (hL.set hi rfl h2) hd hk)
  · exact lv_astore C.1 C.2.1 d0 hL.has hi rfl (fun ls2 h2 => kk p e R s m args below meth c H locs cells slots ls2 mc ms C hR hS (hL.set hi rfl h2) hd hk)
theorem z_fstore7 {x0 x1 x2 x3 x4 x5 x6 y : Option Value} {t : List (Option Value)} {x : UInt32} (d0 : decode Y.2.1 pc = .ok (.fstore 7, 2)) (kk : z_E G Y d Z (pc + 2) (x0 :: x1 :: x2 :: x3 :: x4 :: x5 :: x6 :: some (.float x) :: t) st w k n) : z_E G Y d Z pc (x0 :: x1 :: x2 :: x3 :: x4 :: x5 :: x6 :: y :: t) (.float x :: st) w k n := by
  intro p e R s m args below meth c H locs cells slots ls mc ms C hR hS hL hd hk
  have hi : 7 < Y.2.2.1 := by rw [← hL.1]; simp only [List.length_cons]; omega
  exact lv_fstore C.1 C.2.1 d0 hL.has hi rfl (fun ls2 h2 => kk p e R s m args below meth c H locs cells slots ls2 mc ms C hR hS (hL.set hi rfl h2) hd hk)
theorem z_iinc7 {x0 x1 x2 x3 x4 x5 x6 : Option Value} {t : List (Option Value)} {x : Int32} (d0 : decode Y.2.1 pc = .ok (.iinc 7 1, 3)) (kk : z_E G Y d Z (pc + 3) (x0 :: x1 :: x2 :: x3 :: x4 :: x5 :: x6 :: some (.int (x + 1)) :: t) st w k n) : z_E G Y d Z pc (x0 :: x1 :: x2 :: x3 :: x4 :: x5 :: x6 :: some (.int x) :: t) st w k n := by
  intro p e R s m args below meth c H locs cells slots ls mc ms C hR hS hL hd hk
  have hi : 7 < Y.2.2.1 := by rw [← hL.1]; simp only [List.length_cons]; omega
  obtain ⟨kq, hkq⟩ := List.getElem?_of_mem (z_en_mem (L := x0 :: x1 :: x2 :: x3 :: x4 :: x5 :: x6 :: some (.int x) :: t) (i := 7) (v := .int x) |>.mpr rfl)
  exact lv_iinc (v := x + 1) C.1 C.2.1 d0 hL.has hkq rfl hi rfl (fun ls2 h2 => kk p e R s m args below meth c H locs cells slots ls2 mc ms C hR hS (hL.set hi rfl h2) hd hk)
theorem z_iinc7m {x0 x1 x2 x3 x4 x5 x6 : Option Value} {t : List (Option Value)} {x : Int32} (d0 : decode Y.2.1 pc = .ok (.iinc 7 (-1), 3)) (kk : z_E G Y d Z (pc + 3) (x0 :: x1 :: x2 :: x3 :: x4 :: x5 :: x6 :: some (.int (x + (-1))) :: t) st w k n) : z_E G Y d Z pc (x0 :: x1 :: x2 :: x3 :: x4 :: x5 :: x6 :: some (.int x) :: t) st w k n := by
  intro p e R s m args below meth c H locs cells slots ls mc ms C hR hS hL hd hk
  have hi : 7 < Y.2.2.1 := by rw [← hL.1]; simp only [List.length_cons]; omega
  obtain ⟨kq, hkq⟩ := List.getElem?_of_mem (z_en_mem (L := x0 :: x1 :: x2 :: x3 :: x4 :: x5 :: x6 :: some (.int x) :: t) (i := 7) (v := .int x) |>.mpr rfl)
  exact lv_iinc (v := x + (-1)) C.1 C.2.1 d0 hL.has hkq rfl hi rfl (fun ls2 h2 => kk p e R s m args below meth c H locs cells slots ls2 mc ms C hR hS (hL.set hi rfl h2) hd hk)
theorem z_iinc7f {x0 x1 x2 x3 x4 x5 x6 : Option Value} {t : List (Option Value)} {x : Int32} (d0 : decode Y.2.1 pc = .ok (.iinc 7 4, 3)) (kk : z_E G Y d Z (pc + 3) (x0 :: x1 :: x2 :: x3 :: x4 :: x5 :: x6 :: some (.int (x + 4)) :: t) st w k n) : z_E G Y d Z pc (x0 :: x1 :: x2 :: x3 :: x4 :: x5 :: x6 :: some (.int x) :: t) st w k n := by
  intro p e R s m args below meth c H locs cells slots ls mc ms C hR hS hL hd hk
  have hi : 7 < Y.2.2.1 := by rw [← hL.1]; simp only [List.length_cons]; omega
  obtain ⟨kq, hkq⟩ := List.getElem?_of_mem (z_en_mem (L := x0 :: x1 :: x2 :: x3 :: x4 :: x5 :: x6 :: some (.int x) :: t) (i := 7) (v := .int x) |>.mpr rfl)
  exact lv_iinc (v := x + 4) C.1 C.2.1 d0 hL.has hkq rfl hi rfl (fun ls2 h2 => kk p e R s m args below meth c H locs cells slots ls2 mc ms C hR hS (hL.set hi rfl h2) hd hk)
theorem z_istore8 {x0 x1 x2 x3 x4 x5 x6 x7 y : Option Value} {t : List (Option Value)} {x : Int32} (d0 : decode Y.2.1 pc = .ok (.istore 8, 2)) (kk : z_E G Y d Z (pc + 2) (x0 :: x1 :: x2 :: x3 :: x4 :: x5 :: x6 :: x7 :: some (.int x) :: t) st w k n) : z_E G Y d Z pc (x0 :: x1 :: x2 :: x3 :: x4 :: x5 :: x6 :: x7 :: y :: t) (.int x :: st) w k n := by
  intro p e R s m args below meth c H locs cells slots ls mc ms C hR hS hL hd hk
  have hi : 8 < Y.2.2.1 := by rw [← hL.1]; simp only [List.length_cons]; omega
  exact lv_istore C.1 C.2.1 d0 hL.has hi rfl (fun ls2 h2 => kk p e R s m args below meth c H locs cells slots ls2 mc ms C hR hS (hL.set hi rfl h2) hd hk)
theorem z_astore8 {x0 x1 x2 x3 x4 x5 x6 x7 y : Option Value} {t : List (Option Value)} {v : Value} (d0 : decode Y.2.1 pc = .ok (.astore 8, 2)) (hv : z_isr v = true) (kk : z_E G Y d Z (pc + 2) (x0 :: x1 :: x2 :: x3 :: x4 :: x5 :: x6 :: x7 :: some v :: t) st w k n) : z_E G Y d Z pc (x0 :: x1 :: x2 :: x3 :: x4 :: x5 :: x6 :: x7 :: y :: t) (v :: st) w k n := by
  intro p e R s m args below meth c H locs cells slots ls mc ms C hR hS hL hd hk
  have hi : 8 < Y.2.2.1 := by rw [← hL.1]; simp only [List.length_cons]; omega
  rcases z_isr_or hv with rfl | ⟨a, rfl⟩
  · exact lv_astoreN C.1 C.2.1 d0 hL.has hi rfl (fun ls2 h2 => kk p e R s m args below meth c H locs cells slots ls2 mc ms C hR hS (hL.set hi rfl h2) hd hk)
  · exact lv_astore C.1 C.2.1 d0 hL.has hi rfl (fun ls2 h2 => kk p e R s m args below meth c H locs cells slots ls2 mc ms C hR hS (hL.set hi rfl h2) hd hk)
theorem z_iinc8 {x0 x1 x2 x3 x4 x5 x6 x7 : Option Value} {t : List (Option Value)} {x : Int32} (d0 : decode Y.2.1 pc = .ok (.iinc 8 1, 3)) (kk : z_E G Y d Z (pc + 3) (x0 :: x1 :: x2 :: x3 :: x4 :: x5 :: x6 :: x7 :: some (.int (x + 1)) :: t) st w k n) : z_E G Y d Z pc (x0 :: x1 :: x2 :: x3 :: x4 :: x5 :: x6 :: x7 :: some (.int x) :: t) st w k n := by
  intro p e R s m args below meth c H locs cells slots ls mc ms C hR hS hL hd hk
  have hi : 8 < Y.2.2.1 := by rw [← hL.1]; simp only [List.length_cons]; omega
  obtain ⟨kq, hkq⟩ := List.getElem?_of_mem (z_en_mem (L := x0 :: x1 :: x2 :: x3 :: x4 :: x5 :: x6 :: x7 :: some (.int x) :: t) (i := 8) (v := .int x) |>.mpr rfl)
  exact lv_iinc (v := x + 1) C.1 C.2.1 d0 hL.has hkq rfl hi rfl (fun ls2 h2 => kk p e R s m args below meth c H locs cells slots ls2 mc ms C hR hS (hL.set hi rfl h2) hd hk)
theorem z_iinc8m {x0 x1 x2 x3 x4 x5 x6 x7 : Option Value} {t : List (Option Value)} {x : Int32} (d0 : decode Y.2.1 pc = .ok (.iinc 8 (-1), 3)) (kk : z_E G Y d Z (pc + 3) (x0 :: x1 :: x2 :: x3 :: x4 :: x5 :: x6 :: x7 :: some (.int (x + (-1))) :: t) st w k n) : z_E G Y d Z pc (x0 :: x1 :: x2 :: x3 :: x4 :: x5 :: x6 :: x7 :: some (.int x) :: t) st w k n := by
  intro p e R s m args below meth c H locs cells slots ls mc ms C hR hS hL hd hk
  have hi : 8 < Y.2.2.1 := by rw [← hL.1]; simp only [List.length_cons]; omega
  obtain ⟨kq, hkq⟩ := List.getElem?_of_mem (z_en_mem (L := x0 :: x1 :: x2 :: x3 :: x4 :: x5 :: x6 :: x7 :: some (.int x) :: t) (i := 8) (v := .int x) |>.mpr rfl)
  exact lv_iinc (v := x + (-1)) C.1 C.2.1 d0 hL.has hkq rfl hi rfl (fun ls2 h2 => kk p e R s m args below meth c H locs cells slots ls2 mc ms C hR hS (hL.set hi rfl h2) hd hk)
theorem z_iinc8f {x0 x1 x2 x3 x4 x5 x6 x7 : Option Value} {t : List (Option Value)} {x : Int32} (d0 : decode Y.2.1 pc = .ok (.iinc 8 4, 3)) (kk : z_E G Y d Z (pc + 3) (x0 :: x1 :: x2 :: x3 :: x4 :: x5 :: x6 :: x7 :: some (.int (x + 4)) :: t) st w k n) : z_E G Y d Z pc (x0 :: x1 :: x2 :: x3 :: x4 :: x5 :: x6 :: x7 :: some (.int x) :: t) st w k n := by
  intro p e R s m args below meth c H locs cells slots ls mc ms C hR hS hL hd hk
  have hi : 8 < Y.2.2.1 := by rw [← hL.1]; simp only [List.length_cons]; omega
  obtain ⟨kq, hkq⟩ := List.getElem?_of_mem (z_en_mem (L := x0 :: x1 :: x2 :: x3 :: x4 :: x5 :: x6 :: x7 :: some (.int x) :: t) (i := 8) (v := .int x) |>.mpr rfl)
  exact lv_iinc (v := x + 4) C.1 C.2.1 d0 hL.has hkq rfl hi rfl (fun ls2 h2 => kk p e R s m args below meth c H locs cells slots ls2 mc ms C hR hS (hL.set hi rfl h2) hd hk)
theorem z_istore9 {x0 x1 x2 x3 x4 x5 x6 x7 x8 y : Option Value} {t : List (Option Value)} {x : Int32} (d0 : decode Y.2.1 pc = .ok (.istore 9, 2)) (kk : z_E G Y d Z (pc + 2) (x0 :: x1 :: x2 :: x3 :: x4 :: x5 :: x6 :: x7 :: x8 :: some (.int x) :: t) st w k n) : z_E G Y d Z pc (x0 :: x1 :: x2 :: x3 :: x4 :: x5 :: x6 :: x7 :: x8 :: y :: t) (.int x :: st) w k n := by
  intro p e R s m args below meth c H locs cells slots ls mc ms C hR hS hL hd hk
  have hi : 9 < Y.2.2.1 := by rw [← hL.1]; simp only [List.length_cons]; omega
  exact lv_istore C.1 C.2.1 d0 hL.has hi rfl (fun ls2 h2 => kk p e R s m args below meth c H locs cells slots ls2 mc ms C hR hS (hL.set hi rfl h2) hd hk)
theorem z_astore9 {x0 x1 x2 x3 x4 x5 x6 x7 x8 y : Option Value} {t : List (Option Value)} {v : Value} (d0 : decode Y.2.1 pc = .ok (.astore 9, 2)) (hv : z_isr v = true) (kk : z_E G Y d Z (pc + 2) (x0 :: x1 :: x2 :: x3 :: x4 :: x5 :: x6 :: x7 :: x8 :: some v :: t) st w k n) : z_E G Y d Z pc (x0 :: x1 :: x2 :: x3 :: x4 :: x5 :: x6 :: x7 :: x8 :: y :: t) (v :: st) w k n := by
  intro p e R s m args below meth c H locs cells slots ls mc ms C hR hS hL hd hk
  have hi : 9 < Y.2.2.1 := by rw [← hL.1]; simp only [List.length_cons]; omega
  rcases z_isr_or hv with rfl | ⟨a, rfl⟩
  · exact lv_astoreN C.1 C.2.1 d0 hL.has hi rfl (fun ls2 h2 => kk p e R s m args below meth c H locs cells slots ls2 mc ms C hR hS (hL.set hi rfl h2) hd hk)
  · exact lv_astore C.1 C.2.1 d0 hL.has hi rfl (fun ls2 h2 => kk p e R s m args below meth c H locs cells slots ls2 mc ms C hR hS (hL.set hi rfl h2) hd hk)
theorem z_iinc9 {x0 x1 x2 x3 x4 x5 x6 x7 x8 : Option Value} {t : List (Option Value)} {x : Int32} (d0 : decode Y.2.1 pc = .ok (.iinc 9 1, 3)) (kk : z_E G Y d Z (pc + 3) (x0 :: x1 :: x2 :: x3 :: x4 :: x5 :: x6 :: x7 :: x8 :: some (.int (x + 1)) :: t) st w k n) : z_E G Y d Z pc (x0 :: x1 :: x2 :: x3 :: x4 :: x5 :: x6 :: x7 :: x8 :: some (.int x) :: t) st w k n := by
  intro p e R s m args below meth c H locs cells slots ls mc ms C hR hS hL hd hk
  have hi : 9 < Y.2.2.1 := by rw [← hL.1]; simp only [List.length_cons]; omega
  obtain ⟨kq, hkq⟩ := List.getElem?_of_mem (z_en_mem (L := x0 :: x1 :: x2 :: x3 :: x4 :: x5 :: x6 :: x7 :: x8 :: some (.int x) :: t) (i := 9) (v := .int x) |>.mpr rfl)
  exact lv_iinc (v := x + 1) C.1 C.2.1 d0 hL.has hkq rfl hi rfl (fun ls2 h2 => kk p e R s m args below meth c H locs cells slots ls2 mc ms C hR hS (hL.set hi rfl h2) hd hk)
theorem z_iinc9m {x0 x1 x2 x3 x4 x5 x6 x7 x8 : Option Value} {t : List (Option Value)} {x : Int32} (d0 : decode Y.2.1 pc = .ok (.iinc 9 (-1), 3)) (kk : z_E G Y d Z (pc + 3) (x0 :: x1 :: x2 :: x3 :: x4 :: x5 :: x6 :: x7 :: x8 :: some (.int (x + (-1))) :: t) st w k n) : z_E G Y d Z pc (x0 :: x1 :: x2 :: x3 :: x4 :: x5 :: x6 :: x7 :: x8 :: some (.int x) :: t) st w k n := by
  intro p e R s m args below meth c H locs cells slots ls mc ms C hR hS hL hd hk
  have hi : 9 < Y.2.2.1 := by rw [← hL.1]; simp only [List.length_cons]; omega
  obtain ⟨kq, hkq⟩ := List.getElem?_of_mem (z_en_mem (L := x0 :: x1 :: x2 :: x3 :: x4 :: x5 :: x6 :: x7 :: x8 :: some (.int x) :: t) (i := 9) (v := .int x) |>.mpr rfl)
  exact lv_iinc (v := x + (-1)) C.1 C.2.1 d0 hL.has hkq rfl hi rfl (fun ls2 h2 => kk p e R s m args below meth c H locs cells slots ls2 mc ms C hR hS (hL.set hi rfl h2) hd hk)
theorem z_iinc9f {x0 x1 x2 x3 x4 x5 x6 x7 x8 : Option Value} {t : List (Option Value)} {x : Int32} (d0 : decode Y.2.1 pc = .ok (.iinc 9 4, 3)) (kk : z_E G Y d Z (pc + 3) (x0 :: x1 :: x2 :: x3 :: x4 :: x5 :: x6 :: x7 :: x8 :: some (.int (x + 4)) :: t) st w k n) : z_E G Y d Z pc (x0 :: x1 :: x2 :: x3 :: x4 :: x5 :: x6 :: x7 :: x8 :: some (.int x) :: t) st w k n := by
  intro p e R s m args below meth c H locs cells slots ls mc ms C hR hS hL hd hk
  have hi : 9 < Y.2.2.1 := by rw [← hL.1]; simp only [List.length_cons]; omega
  obtain ⟨kq, hkq⟩ := List.getElem?_of_mem (z_en_mem (L := x0 :: x1 :: x2 :: x3 :: x4 :: x5 :: x6 :: x7 :: x8 :: some (.int x) :: t) (i := 9) (v := .int x) |>.mpr rfl)
  exact lv_iinc (v := x + 4) C.1 C.2.1 d0 hL.has hkq rfl hi rfl (fun ls2 h2 => kk p e R s m args below meth c H locs cells slots ls2 mc ms C hR hS (hL.set hi rfl h2) hd hk)
theorem z_istore10 {x0 x1 x2 x3 x4 x5 x6 x7 x8 x9 y : Option Value} {t : List (Option Value)} {x : Int32} (d0 : decode Y.2.1 pc = .ok (.istore 10, 2)) (kk : z_E G Y d Z (pc + 2) (x0 :: x1 :: x2 :: x3 :: x4 :: x5 :: x6 :: x7 :: x8 :: x9 :: some (.int x) :: t) st w k n) : z_E G Y d Z pc (x0 :: x1 :: x2 :: x3 :: x4 :: x5 :: x6 :: x7 :: x8 :: x9 :: y :: t) (.int x :: st) w k n := by
  intro p e R s m args below meth c H locs cells slots ls mc ms C hR hS hL hd hk
  have hi : 10 < Y.2.2.1 := by rw [← hL.1]; simp only [List.length_cons]; omega
  exact lv_istore C.1 C.2.1 d0 hL.has hi rfl (fun ls2 h2 => kk p e R s m args below meth c H locs cells slots ls2 mc ms C hR hS (hL.set hi rfl h2) hd hk)
theorem z_astore10 {x0 x1 x2 x3 x4 x5 x6 x7 x8 x9 y : Option Value} {t : List (Option Value)} {v : Value} (d0 : decode Y.2.1 pc = .ok (.astore 10, 2)) (hv : z_isr v = true) (kk : z_E G Y d Z (pc + 2) (x0 :: x1 :: x2 :: x3 :: x4 :: x5 :: x6 :: x7 :: x8 :: x9 :: some v :: t) st w k n) : z_E G Y d Z pc (x0 :: x1 :: x2 :: x3 :: x4 :: x5 :: x6 :: x7 :: x8 :: x9 :: y :: t) (v :: st) w k n := by
  intro p e R s m args below meth c H locs cells slots ls mc ms C hR hS hL hd hk
  have hi : 10 < Y.2.2.1 := by rw [← hL.1]; simp only [List.length_cons]; omega
  rcases z_isr_or hv with rfl | ⟨a, rfl⟩
  · exact lv_astoreN C.1 C.2.1 d0 hL.has hi rfl (fun ls2 h2 => kk p e R s m args below meth c H locs cells slots ls2 mc ms C hR hS (hL.set hi rfl h2) hd hk)
  · exact lv_astore C.1 C.2.1 d0 hL.has hi rfl (fun ls2 h2 => kk p e R s m args below meth c H locs cells slots ls2 mc ms C hR hS (hL.set hi rfl h2) hd hk)
theorem z_iinc10 {x0 x1 x2 x3 x4 x5 x6 x7 x8 x9 : Option Value} {t : List (Option Value)} {x : Int32} (d0 : decode Y.2.1 pc = .ok (.iinc 10 1, 3)) (kk : z_E G Y d Z (pc + 3) (x0 :: x1 :: x2 :: x3 :: x4 :: x5 :: x6 :: x7 :: x8 :: x9 :: some (.int (x + 1)) :: t) st w k n) : z_E G Y d Z pc (x0 :: x1 :: x2 :: x3 :: x4 :: x5 :: x6 :: x7 :: x8 :: x9 :: some (.int x) :: t) st w k n := by
  intro p e R s m args below meth c H locs cells slots ls mc ms C hR hS hL hd hk
  have hi : 10 < Y.2.2.1 := by rw [← hL.1]; simp only [List.length_cons]; omega
  obtain ⟨kq, hkq⟩ := List.getElem?_of_mem (z_en_mem (L := x0 :: x1 :: x2 :: x3 :: x4 :: x5 :: x6 :: x7 :: x8 :: x9 :: some (.int x) :: t) (i := 10) (v := .int x) |>.mpr rfl)
  exact lv_iinc (v := x + 1) C.1 C.2.1 d0 hL.has hkq rfl hi rfl (fun ls2 h2 => kk p e R s m args below meth c H locs cells slots ls2 mc ms C hR hS (hL.set hi rfl h2) hd hk)
theorem z_iinc10m {x0 x1 x2 x3 x4 x5 x6 x7 x8 x9 : Option Value} {t : List (Option Value)} {x : Int32} (d0 : decode Y.2.1 pc = .ok (.iinc 10 (-1), 3)) (kk : z_E G Y d Z (pc + 3) (x0 :: x1 :: x2 :: x3 :: x4 :: x5 :: x6 :: x7 :: x8 :: x9 :: some (.int (x + (-1))) :: t) st w k n) : z_E G Y d Z pc (x0 :: x1 :: x2 :: x3 :: x4 :: x5 :: x6 :: x7 :: x8 :: x9 :: some (.int x) :: t) st w k n := by
  intro p e R s m args below meth c H locs cells slots ls mc ms C hR hS hL hd hk
  have hi : 10 < Y.2.2.1 := by rw [← hL.1]; simp only [List.length_cons]; omega
  obtain ⟨kq, hkq⟩ := List.getElem?_of_mem (z_en_mem (L := x0 :: x1 :: x2 :: x3 :: x4 :: x5 :: x6 :: x7 :: x8 :: x9 :: some (.int x) :: t) (i := 10) (v := .int x) |>.mpr rfl)
  exact lv_iinc (v := x + (-1)) C.1 C.2.1 d0 hL.has hkq rfl hi rfl (fun ls2 h2 => kk p e R s m args below meth c H locs cells slots ls2 mc ms C hR hS (hL.set hi rfl h2) hd hk)
theorem z_iinc10f {x0 x1 x2 x3 x4 x5 x6 x7 x8 x9 : Option Value} {t : List (Option Value)} {x : Int32} (d0 : decode Y.2.1 pc = .ok (.iinc 10 4, 3)) (kk : z_E G Y d Z (pc + 3) (x0 :: x1 :: x2 :: x3 :: x4 :: x5 :: x6 :: x7 :: x8 :: x9 :: some (.int (x + 4)) :: t) st w k n) : z_E G Y d Z pc (x0 :: x1 :: x2 :: x3 :: x4 :: x5 :: x6 :: x7 :: x8 :: x9 :: some (.int x) :: t) st w k n := by
  intro p e R s m args below meth c H locs cells slots ls mc ms C hR hS hL hd hk
  have hi : 10 < Y.2.2.1 := by rw [← hL.1]; simp only [List.length_cons]; omega
  obtain ⟨kq, hkq⟩ := List.getElem?_of_mem (z_en_mem (L := x0 :: x1 :: x2 :: x3 :: x4 :: x5 :: x6 :: x7 :: x8 :: x9 :: some (.int x) :: t) (i := 10) (v := .int x) |>.mpr rfl)
  exact lv_iinc (v := x + 4) C.1 C.2.1 d0 hL.has hkq rfl hi rfl (fun ls2 h2 => kk p e R s m args below meth c H locs cells slots ls2 mc ms C hR hS (hL.set hi rfl h2) hd hk)
theorem z_istore11 {x0 x1 x2 x3 x4 x5 x6 x7 x8 x9 x10 y : Option Value} {t : List (Option Value)} {x : Int32} (d0 : decode Y.2.1 pc = .ok (.istore 11, 2)) (kk : z_E G Y d Z (pc + 2) (x0 :: x1 :: x2 :: x3 :: x4 :: x5 :: x6 :: x7 :: x8 :: x9 :: x10 :: some (.int x) :: t) st w k n) : z_E G Y d Z pc (x0 :: x1 :: x2 :: x3 :: x4 :: x5 :: x6 :: x7 :: x8 :: x9 :: x10 :: y :: t) (.int x :: st) w k n := by
  intro p e R s m args below meth c H locs cells slots ls mc ms C hR hS hL hd hk
  have hi : 11 < Y.2.2.1 := by rw [← hL.1]; simp only [List.length_cons]; omega
  exact lv_istore C.1 C.2.1 d0 hL.has hi rfl (fun ls2 h2 => kk p e R s m args below meth c H locs cells slots ls2 mc ms C hR hS (hL.set hi rfl h2) hd hk)
theorem z_astore11 {x0 x1 x2 x3 x4 x5 x6 x7 x8 x9 x10 y : Option Value} {t : List (Option Value)} {v : Value} (d0 : decode Y.2.1 pc = .ok (.astore 11, 2)) (hv : z_isr v = true) (kk : z_E G Y d Z (pc + 2) (x0 :: x1 :: x2 :: x3 :: x4 :: x5 :: x6 :: x7 :: x8 :: x9 :: x10 :: some v :: t) st w k n) : z_E G Y d Z pc (x0 :: x1 :: x2 :: x3 :: x4 :: x5 :: x6 :: x7 :: x8 :: x9 :: x10 :: y :: t) (v :: st) w k n := by
  intro p e R s m args below meth c H locs cells slots ls mc ms C hR hS hL hd hk
  have hi : 11 < Y.2.2.1 := by rw [← hL.1]; simp only [List.length_cons]; omega
  rcases z_isr_or hv with rfl | ⟨a, rfl⟩
  · exact lv_astoreN C.1 C.2.1 d0 hL.has hi rfl (fun ls2 h2 => kk p e R s m args below meth c H locs cells slots ls2 mc ms C hR hS (hL.set hi rfl h2) hd hk)
  · exact lv_astore C.1 C.2.1 d0 hL.has hi rfl (fun ls2 h2 => kk p e R s m args below meth c H locs cells slots ls2 mc ms C hR hS (hL.set hi rfl h2) hd hk)
theorem z_iinc11 {x0 x1 x2 x3 x4 x5 x6 x7 x8 x9 x10 : Option Value} {t : List (Option Value)} {x : Int32} (d0 : decode Y.2.1 pc = .ok (.iinc 11 1, 3)) (kk : z_E G Y d Z (pc + 3) (x0 :: x1 :: x2 :: x3 :: x4 :: x5 :: x6 :: x7 :: x8 :: x9 :: x10 :: some (.int (x + 1)) :: t) st w k n) : z_E G Y d Z pc (x0 :: x1 :: x2 :: x3 :: x4 :: x5 :: x6 :: x7 :: x8 :: x9 :: x10 :: some (.int x) :: t) st w k n := by
  intro p e R s m args below meth c H locs cells slots ls mc ms C hR hS hL hd hk
  have hi : 11 < Y.2.2.1 := by rw [← hL.1]; simp only [List.length_cons]; omega
  obtain ⟨kq, hkq⟩ := List.getElem?_of_mem (z_en_mem (L := x0 :: x1 :: x2 :: x3 :: x4 :: x5 :: x6 :: x7 :: x8 :: x9 :: x10 :: some (.int x) :: t) (i := 11) (v := .int x) |>.mpr rfl)
  exact lv_iinc (v := x + 1) C.1 C.2.1 d0 hL.has hkq rfl hi rfl (fun ls2 h2 => kk p e R s m args below meth c H locs cells slots ls2 mc ms C hR hS (hL.set hi rfl h2) hd hk)
theorem z_iinc11m {x0 x1 x2 x3 x4 x5 x6 x7 x8 x9 x10 : Option Value} {t : List (Option Value)} {x : Int32} (d0 : decode Y.2.1 pc = .ok (.iinc 11 (-1), 3)) (kk : z_E G Y d Z (pc + 3) (x0 :: x1 :: x2 :: x3 :: x4 :: x5 :: x6 :: x7 :: x8 :: x9 :: x10 :: some (.int (x + (-1))) :: t) st w k n) : z_E G Y d Z pc (x0 :: x1 :: x2 :: x3 :: x4 :: x5 :: x6 :: x7 :: x8 :: x9 :: x10 :: some (.int x) :: t) st w k n := by
  intro p e R s m args below meth c H locs cells slots ls mc ms C hR hS hL hd hk
  have hi : 11 < Y.2.2.1 := by rw [← hL.1]; simp only [List.length_cons]; omega
  obtain ⟨kq, hkq⟩ := List.getElem?_of_mem (z_en_mem (L := x0 :: x1 :: x2 :: x3 :: x4 :: x5 :: x6 :: x7 :: x8 :: x9 :: x10 :: some (.int x) :: t) (i := 11) (v := .int x) |>.mpr rfl)
  exact lv_iinc (v := x + (-1)) C.1 C.2.1 d0 hL.has hkq rfl hi rfl (fun ls2 h2 => kk p e R s m args below meth c H locs cells slots ls2 mc ms C hR hS (hL.set hi rfl h2) hd hk)
theorem z_iinc11f {x0 x1 x2 x3 x4 x5 x6 x7 x8 x9 x10 : Option Value} {t : List (Option Value)} {x : Int32} (d0 : decode Y.2.1 pc = .ok (.iinc 11 4, 3)) (kk : z_E G Y d Z (pc + 3) (x0 :: x1 :: x2 :: x3 :: x4 :: x5 :: x6 :: x7 :: x8 :: x9 :: x10 :: some (.int (x + 4)) :: t) st w k n) : z_E G Y d Z pc (x0 :: x1 :: x2 :: x3 :: x4 :: x5 :: x6 :: x7 :: x8 :: x9 :: x10 :: some (.int x) :: t) st w k n := by
  intro p e R s m args below meth c H locs cells slots ls mc ms C hR hS hL hd hk
  have hi : 11 < Y.2.2.1 := by rw [← hL.1]; simp only [List.length_cons]; omega
  obtain ⟨kq, hkq⟩ := List.getElem?_of_mem (z_en_mem (L := x0 :: x1 :: x2 :: x3 :: x4 :: x5 :: x6 :: x7 :: x8 :: x9 :: x10 :: some (.int x) :: t) (i := 11) (v := .int x) |>.mpr rfl)
  exact lv_iinc (v := x + 4) C.1 C.2.1 d0 hL.has hkq rfl hi rfl (fun ls2 h2 => kk p e R s m args below meth c H locs cells slots ls2 mc ms C hR hS (hL.set hi rfl h2) hd hk)
theorem z_istore12 {x0 x1 x2 x3 x4 x5 x6 x7 x8 x9 x10 x11 y : Option Value} {t : List (Option Value)} {x : Int32} (d0 : decode Y.2.1 pc = .ok (.istore 12, 2)) (kk : z_E G Y d Z (pc + 2) (x0 :: x1 :: x2 :: x3 :: x4 :: x5 :: x6 :: x7 :: x8 :: x9 :: x10 :: x11 :: some (.int x) :: t) st w k n) : z_E G Y d Z pc (x0 :: x1 :: x2 :: x3 :: x4 :: x5 :: x6 :: x7 :: x8 :: x9 :: x10 :: x11 :: y :: t) (.int x :: st) w k n := by
  intro p e R s m args below meth c H locs cells slots ls mc ms C hR hS hL hd hk
  have hi : 12 < Y.2.2.1 := by rw [← hL.1]; simp only [List.length_cons]; omega
  exact lv_istore C.1 C.2.1 d0 hL.has hi rfl (fun ls2 h2 => kk p e R s m args below meth c H locs cells slots ls2 mc ms C hR hS (hL.set hi rfl h2) hd hk)
theorem z_astore12 {x0 x1 x2 x3 x4 x5 x6 x7 x8 x9 x10 x11 y : Option Value} {t : List (Option Value)} {v : Value} (d0 : decode Y.2.1 pc = .ok (.astore 12, 2)) (hv : z_isr v = true) (kk : z_E G Y d Z (pc + 2) (x0 :: x1 :: x2 :: x3 :: x4 :: x5 :: x6 :: x7 :: x8 :: x9 :: x10 :: x11 :: some v :: t) st w k n) : z_E G Y d Z pc (x0 :: x1 :: x2 :: x3 :: x4 :: x5 :: x6 :: x7 :: x8 :: x9 :: x10 :: x11 :: y :: t) (v :: st) w k n := by
  intro p e R s m args below meth c H locs cells slots ls mc ms C hR hS hL hd hk
  have hi : 12 < Y.2.2.1 := by rw [← hL.1]; simp only [List.length_cons]; omega
  rcases z_isr_or hv with rfl | ⟨a, rfl⟩
  · exact lv_astoreN C.1 C.2.1 d0 hL.has hi rfl (fun ls2 h2 => kk p e R s m args below meth c H locs cells slots ls2 mc ms C hR hS (hL.set hi rfl h2) hd hk)
  · exact lv_astore C.1 C.2.1 d0 hL.has hi rfl (fun ls2 h2 => kk p e R s m args below meth c H locs cells slots ls2 mc ms C hR hS (hL.set hi rfl h2) hd hk)
theorem z_iinc12 {x0 x1 x2 x3 x4 x5 x6 x7 x8 x9 x10 x11 : Option Value} {t : List (Option Value)} {x : Int32} (d0 : decode Y.2.1 pc = .ok (.iinc 12 1, 3)) (kk : z_E G Y d Z (pc + 3) (x0 :: x1 :: x2 :: x3 :: x4 :: x5 :: x6 :: x7 :: x8 :: x9 :: x10 :: x11 :: some (.int (x + 1)) :: t) st w k n) : z_E G Y d Z pc (x0 :: x1 :: x2 :: x3 :: x4 :: x5 :: x6 :: x7 :: x8 :: x9 :: x10 :: x11 :: some (.int x) :: t) st w k n := by
  intro p e R s m args below meth c H locs cells slots ls mc ms C hR hS hL hd hk
  have hi : 12 < Y.2.2.1 := by rw [← hL.1]; simp only [List.length_cons]; omega
  obtain ⟨kq, hkq⟩ := List.getElem?_of_mem (z_en_mem (L := x0 :: x1 :: x2 :: x3 :: x4 :: x5 :: x6 :: x7 :: x8 :: x9 :: x10 :: x11 :: some (.int x) :: t) (i := 12) (v := .int x) |>.mpr rfl)
  exact lv_iinc (v := x + 1) C.1 C.2.1 d0 hL.has hkq rfl hi rfl (fun ls2 h2 => kk p e R s m args below meth c H locs cells slots ls2 mc ms C hR hS (hL.set hi rfl h2) hd hk)
theorem z_iinc12m {x0 x1 x2 x3 x4 x5 x6 x7 x8 x9 x10 x11 : Option Value} {t : List (Option Value)} {x : Int32} (d0 : decode Y.2.1 pc = .ok (.iinc 12 (-1), 3)) (kk : z_E G Y d Z (pc + 3) (x0 :: x1 :: x2 :: x3 :: x4 :: x5 :: x6 :: x7 :: x8 :: x9 :: x10 :: x11 :: some (.int (x + (-1))) :: t) st w k n) : z_E G Y d Z pc (x0 :: x1 :: x2 :: x3 :: x4 :: x5 :: x6 :: x7 :: x8 :: x9 :: x10 :: x11 :: some (.int x) :: t) st w k n := by
  intro p e R s m args below meth c H locs cells slots ls mc ms C hR hS hL hd hk
  have hi : 12 < Y.2.2.1 := by rw [← hL.1]; simp only [List.length_cons]; omega
  obtain ⟨kq, hkq⟩ := List.getElem?_of_mem (z_en_mem (L := x0 :: x1 :: x2 :: x3 :: x4 :: x5 :: x6 :: x7 :: x8 :: x9 :: x10 :: x11 :: some (.int x) :: t) (i := 12) (v := .int x) |>.mpr rfl)
  exact lv_iinc (v := x + (-1)) C.1 C.2.1 d0 hL.has hkq rfl hi rfl (fun ls2 h2 => kk p e R s m args below meth c H locs cells slots ls2 mc ms C hR hS (hL.set hi rfl h2) hd hk)
theorem z_iinc12f {x0 x1 x2 x3 x4 x5 x6 x7 x8 x9 x10 x11 : Option Value} {t : List (Option Value)} {x : Int32} (d0 : decode Y.2.1 pc = .ok (.iinc 12 4, 3)) (kk : z_E G Y d Z (pc + 3) (x0 :: x1 :: x2 :: x3 :: x4 :: x5 :: x6 :: x7 :: x8 :: x9 :: x10 :: x11 :: some (.int (x + 4)) :: t) st w k n) : z_E G Y d Z pc (x0 :: x1 :: x2 :: x3 :: x4 :: x5 :: x6 :: x7 :: x8 :: x9 :: x10 :: x11 :: some (.int x) :: t) st w k n := by
  intro p e R s m args below meth c H locs cells slots ls mc ms C hR hS hL hd hk
  have hi : 12 < Y.2.2.1 := by rw [← hL.1]; simp only [List.length_cons]; omega
  obtain ⟨kq, hkq⟩ := List.getElem?_of_mem (z_en_mem (L := x0 :: x1 :: x2 :: x3 :: x4 :: x5 :: x6 :: x7 :: x8 :: x9 :: x10 :: x11 :: some (.int x) :: t) (i := 12) (v := .int x) |>.mpr rfl)
  exact lv_iinc (v := x + 4) C.1 C.2.1 d0 hL.has hkq rfl hi rfl (fun ls2 h2 => kk p e R s m args below meth c H locs cells slots ls2 mc ms C hR hS (hL.set hi rfl h2) hd hk)
theorem z_istore13 {x0 x1 x2 x3 x4 x5 x6 x7 x8 x9 x10 x11 x12 y : Option Value} {t : List (Option Value)} {x : Int32} (d0 : decode Y.2.1 pc = .ok (.istore 13, 2)) (kk : z_E G Y d Z (pc + 2) (x0 :: x1 :: x2 :: x3 :: x4 :: x5 :: x6 :: x7 :: x8 :: x9 :: x10 :: x11 :: x12 :: some (.int x) :: t) st w k n) : z_E G Y d Z pc (x0 :: x1 :: x2 :: x3 :: x4 :: x5 :: x6 :: x7 :: x8 :: x9 :: x10 :: x11 :: x12 :: y :: t) (.int x :: st) w k n := by
  intro p e R s m args below meth c H locs cells slots ls mc ms C hR hS hL hd hk
  have hi : 13 < Y.2.2.1 := by rw [← hL.1]; simp only [List.length_cons]; omega
  exact lv_istore C.1 C.2.1 d0 hL.has hi rfl (fun ls2 h2 => kk p e R s m args below meth c H locs cells slots ls2 mc ms C hR hS (hL.set hi rfl h2) hd hk)
theorem z_astore13 {x0 x1 x2 x3 x4 x5 x6 x7 x8 x9 x10 x11 x12 y : Option Value} {t : List (Option Value)} {v : Value} (d0 : decode Y.2.1 pc = .ok (.astore 13, 2)) (hv : z_isr v = true) (kk : z_E G Y d Z (pc + 2) (x0 :: x1 :: x2 :: x3 :: x4 :: x5 :: x6 :: x7 :: x8 :: x9 :: x10 :: x11 :: x12 :: some v :: t) st w k n) : z_E G Y d Z pc (x0 :: x1 :: x2 :: x3 :: x4 :: x5 :: x6 :: x7 :: x8 :: x9 :: x10 :: x11 :: x12 :: y :: t) (v :: st) w k n := by
  intro p e R s m args below meth c H locs cells slots ls mc ms C hR hS hL hd hk
  have hi : 13 < Y.2.2.1 := by rw [← hL.1]; simp only [List.length_cons]; omega
  rcases z_isr_or hv with rfl | ⟨a, rfl⟩
  · exact lv_astoreN C.1 C.2.1 d0 hL.has hi rfl (fun ls2 h2 => kk p e R s m args below meth c H locs cells slots ls2 mc ms C hR hS (hL.set hi rfl h2) hd hk)
  · exact lv_astore C.1 C.2.1 d0 hL.has hi rfl (fun ls2 h2 => kk p e R s m args below meth c H locs cells slots ls2 mc ms C hR hS (hL.set hi rfl h2) hd hk)
theorem z_iinc13 {x0 x1 x2 x3 x4 x5 x6 x7 x8 x9 x10 x11 x12 : Option Value} {t : List (Option Value)} {x : Int32} (d0 : decode Y.2.1 pc = .ok (.iinc 13 1, 3)) (kk : z_E G Y d Z (pc + 3) (x0 :: x1 :: x2 :: x3 :: x4 :: x5 :: x6 :: x7 :: x8 :: x9 :: x10 :: x11 :: x12 :: some (.int (x + 1)) :: t) st w k n) : z_E G Y d Z pc (x0 :: x1 :: x2 :: x3 :: x4 :: x5 :: x6 :: x7 :: x8 :: x9 :: x10 :: x11 :: x12 :: some (.int x) :: t) st w k n := by
  intro p e R s m args below meth c H locs cells slots ls mc ms C hR hS hL hd hk
  have hi : 13 < Y.2.2.1 := by rw [← hL.1]; simp only [List.length_cons]; omega
  obtain ⟨kq, hkq⟩ := List.getElem?_of_mem (z_en_mem (L := x0 :: x1 :: x2 :: x3 :: x4 :: x5 :: x6 :: x7 :: x8 :: x9 :: x10 :: x11 :: x12 :: some (.int x) :: t) (i := 13) (v := .int x) |>.mpr rfl)
  exact lv_iinc (v := x + 1) C.1 C.2.1 d0 hL.has hkq rfl hi rfl (fun ls2 h2 => kk p e R s m args below meth c H locs cells slots ls2 mc ms C hR hS (hL.set hi rfl h2) hd hk)
theorem z_iinc13m {x0 x1 x2 x3 x4 x5 x6 x7 x8 x9 x10 x11 x12 : Option Value} {t : List (Option Value)} {x : Int32} (d0 : decode Y.2.1 pc = .ok (.iinc 13 (-1), 3)) (kk : z_E G Y d Z (pc + 3) (x0 :: x1 :: x2 :: x3 :: x4 :: x5 :: x6 :: x7 :: x8 :: x9 :: x10 :: x11 :: x12 :: some (.int (x + (-1))) :: t) st w k n) : z_E G Y d Z pc (x0 :: x1 :: x2 :: x3 :: x4 :: x5 :: x6 :: x7 :: x8 :: x9 :: x10 :: x11 :: x12 :: some (.int x) :: t) st w k n := by
  intro p e R s m args below meth c H locs cells slots ls mc ms C hR hS hL hd hk
  have hi : 13 < Y.2.2.1 := by rw [← hL.1]; simp only [List.length_cons]; omega
  obtain ⟨kq, hkq⟩ := List.getElem?_of_mem (z_en_mem (L := x0 :: x1 :: x2 :: x3 :: x4 :: x5 :: x6 :: x7 :: x8 :: x9 :: x10 :: x11 :: x12 :: some (.int x) :: t) (i := 13) (v := .int x) |>.mpr rfl)
  exact lv_iinc (v := x + (-1)) C.1 C.2.1 d0 hL.has hkq rfl hi rfl (fun ls2 h2 => kk p e R s m args below meth c H locs cells slots ls2 mc ms C hR hS (hL.set hi rfl h2) hd hk)
theorem z_iinc13f {x0 x1 x2 x3 x4 x5 x6 x7 x8 x9 x10 x11 x12 : Option Value} {t : List (Option Value)} {x : Int32} (d0 : decode Y.2.1 pc = .ok (.iinc 13 4, 3)) (kk : z_E G Y d Z (pc + 3) (x0 :: x1 :: x2 :: x3 :: x4 :: x5 :: x6 :: x7 :: x8 :: x9 :: x10 :: x11 :: x12 :: some (.int (x + 4)) :: t) st w k n) : z_E G Y d Z pc (x0 :: x1 :: x2 :: x3 :: x4 :: x5 :: x6 :: x7 :: x8 :: x9 :: x10 :: x11 :: x12 :: some (.int x) :: t) st w k n := by
  intro p e R s m args below meth c H locs cells slots ls mc ms C hR hS hL hd hk
  have hi : 13 < Y.2.2.1 := by rw [← hL.1]; simp only [List.length_cons]; omega
  obtain ⟨kq, hkq⟩ := List.getElem?_of_mem (z_en_mem (L := x0 :: x1 :: x2 :: x3 :: x4 :: x5 :: x6 :: x7 :: x8 :: x9 :: x10 :: x11 :: x12 :: some (.int x) :: t) (i := 13) (v := .int x) |>.mpr rfl)
  exact lv_iinc (v := x + 4) C.1 C.2.1 d0 hL.has hkq rfl hi rfl (fun ls2 h2 => kk p e R s m args below meth c H locs cells slots ls2 mc ms C hR hS (hL.set hi rfl h2) hd hk)
theorem z_if_eq {x : Int32} {off : Int} {tgt : Nat} (d0 : decode Y.2.1 pc = .ok (.ifCond .eq off, 3)) (ht : (pc : Int) + off = (tgt : Int)) (kt : x = 0 → z_E G Y d Z tgt L st w k n) (kf : ¬ x = 0 → z_E G Y d Z (pc + 3) L st w k n) : z_E G Y d Z pc L (.int x :: st) w k n := by
  intro p e R s m args below meth c H locs cells slots ls mc ms C hR hS hL hd hk
  exact lv_if_eq C.1 C.2.1 d0 ht (fun hq => kt hq p e R s m args below meth c H locs cells slots ls mc ms C hR hS hL hd hk) (fun hq => kf hq p e R s m args below meth c H locs cells slots ls mc ms C hR hS hL hd hk)
theorem z_if_ne {x : Int32} {off : Int} {tgt : Nat} (d0 : decode Y.2.1 pc = .ok (.ifCond .ne off, 3)) (ht : (pc : Int) + off = (tgt : Int)) (kt : ¬ x = 0 → z_E G Y d Z tgt L st w k n) (kf : x = 0 → z_E G Y d Z (pc + 3) L st w k n) : z_E G Y d Z pc L (.int x :: st) w k n := by
  intro p e R s m args below meth c H locs cells slots ls mc ms C hR hS hL hd hk
  exact lv_if_ne C.1 C.2.1 d0 ht (fun hq => kt hq p e R s m args below meth c H locs cells slots ls mc ms C hR hS hL hd hk) (fun hq => kf hq p e R s m args below meth c H locs cells slots ls mc ms C hR hS hL hd hk)
theorem z_if_lt {x : Int32} {off : Int} {tgt : Nat} (d0 : decode Y.2.1 pc = .ok (.ifCond .lt off, 3)) (ht : (pc : Int) + off = (tgt : Int)) (kt : x < 0 → z_E G Y d Z tgt L st w k n) (kf : ¬ x < 0 → z_E G Y d Z (pc + 3) L st w k n) : z_E G Y d Z pc L (.int x :: st) w k n := by
  intro p e R s m args below meth c H locs cells slots ls mc ms C hR hS hL hd hk
  exact lv_if_lt C.1 C.2.1 d0 ht (fun hq => kt hq p e R s m args below meth c H locs cells slots ls mc ms C hR hS hL hd hk) (fun hq => kf hq p e R s m args below meth c H locs cells slots ls mc ms C hR hS hL hd hk)
theorem z_if_ge {x : Int32} {off : Int} {tgt : Nat} (d0 : decode Y.2.1 pc = .ok (.ifCond .ge off, 3)) (ht : (pc : Int) + off = (tgt : Int)) (kt : 0 ≤ x → z_E G Y d Z tgt L st w k n) (kf : ¬ 0 ≤ x → z_E G Y d Z (pc + 3) L st w k n) : z_E G Y d Z pc L (.int x :: st) w k n := by
  intro p e R s m args below meth c H locs cells slots ls mc ms C hR hS hL hd hk
  exact lv_if_ge C.1 C.2.1 d0 ht (fun hq => kt hq p e R s m args below meth c H locs cells slots ls mc ms C hR hS hL hd hk) (fun hq => kf hq p e R s m args below meth c H locs cells slots ls mc ms C hR hS hL hd hk)
theorem z_if_gt {x : Int32} {off : Int} {tgt : Nat} (d0 : decode Y.2.1 pc = .ok (.ifCond .gt off, 3)) (ht : (pc : Int) + off = (tgt : Int)) (kt : 0 < x → z_E G Y d Z tgt L st w k n) (kf : ¬ 0 < x → z_E G Y d Z (pc + 3) L st w k n) : z_E G Y d Z pc L (.int x :: st) w k n := by
  intro p e R s m args below meth c H locs cells slots ls mc ms C hR hS hL hd hk
  exact lv_if_gt C.1 C.2.1 d0 ht (fun hq => kt hq p e R s m args below meth c H locs cells slots ls mc ms C hR hS hL hd hk) (fun hq => kf hq p e R s m args below meth c H locs cells slots ls mc ms C hR hS hL hd hk)
theorem z_if_le {x : Int32} {off : Int} {tgt : Nat} (d0 : decode Y.2.1 pc = .ok (.ifCond .le off, 3)) (ht : (pc : Int) + off = (tgt : Int)) (kt : x ≤ 0 → z_E G Y d Z tgt L st w k n) (kf : ¬ x ≤ 0 → z_E G Y d Z (pc + 3) L st w k n) : z_E G Y d Z pc L (.int x :: st) w k n := by
  intro p e R s m args below meth c H locs cells slots ls mc ms C hR hS hL hd hk
  exact lv_if_le C.1 C.2.1 d0 ht (fun hq => kt hq p e R s m args below meth c H locs cells slots ls mc ms C hR hS hL hd hk) (fun hq => kf hq p e R s m args below meth c H locs cells slots ls mc ms C hR hS hL hd hk)
theorem z_icmp_eq {x y : Int32} {off : Int} {tgt : Nat} (d0 : decode Y.2.1 pc = .ok (.if_icmp .eq off, 3)) (ht : (pc : Int) + off = (tgt : Int)) (kt : x = y → z_E G Y d Z tgt L st w k n) (kf : ¬ x = y → z_E G Y d Z (pc + 3) L st w k n) : z_E G Y d Z pc L (.int y :: .int x :: st) w k n := by
  intro p e R s m args below meth c H locs cells slots ls mc ms C hR hS hL hd hk
  exact lv_icmp_eq C.1 C.2.1 d0 ht (fun hq => kt hq p e R s m args below meth c H locs cells slots ls mc ms C hR hS hL hd hk) (fun hq => kf hq p e R s m args below meth c H locs cells slots ls mc ms C hR hS hL hd hk)
theorem z_icmp_ne {x y : Int32} {off : Int} {tgt : Nat} (d0 : decode Y.2.1 pc = .ok (.if_icmp .ne off, 3)) (ht : (pc : Int) + off = (tgt : Int)) (kt : ¬ x = y → z_E G Y d Z tgt L st w k n) (kf : x = y → z_E G Y d Z (pc + 3) L st w k n) : z_E G Y d Z pc L (.int y :: .int x :: st) w k n := by
  intro p e R s m args below meth c H locs cells slots ls mc ms C hR hS hL hd hk
  exact lv_icmp_ne C.1 C.2.1 d0 ht (fun hq => kt hq p e R s m args below meth c H locs cells slots ls mc ms C hR hS hL hd hk) (fun hq => kf hq p e R s m args below meth c H locs cells slots ls mc ms C hR hS hL hd hk)
theorem z_icmp_lt {x y : Int32} {off : Int} {tgt : Nat} (d0 : decode Y.2.1 pc = .ok (.if_icmp .lt off, 3)) (ht : (pc : Int) + off = (tgt : Int)) (kt : x < y → z_E G Y d Z tgt L st w k n) (kf : ¬ x < y → z_E G Y d Z (pc + 3) L st w k n) : z_E G Y d Z pc L (.int y :: .int x :: st) w k n := by
  intro p e R s m args below meth c H locs cells slots ls mc ms C hR hS hL hd hk
  exact lv_icmp_lt C.1 C.2.1 d0 ht (fun hq => kt hq p e R s m args below meth c H locs cells slots ls mc ms C hR hS hL hd hk) (fun hq => kf hq p e R s m args below meth c H locs cells slots ls mc ms C hR hS hL hd hk)
theorem z_icmp_ge {x y : Int32} {off : Int} {tgt : Nat} (d0 : decode Y.2.1 pc = .ok (.if_icmp .ge off, 3)) (ht : (pc : Int) + off = (tgt : Int)) (kt : y ≤ x → z_E G Y d Z tgt L st w k n) (kf : ¬ y ≤ x → z_E G Y d Z (pc + 3) L st w k n) : z_E G Y d Z pc L (.int y :: .int x :: st) w k n := by
  intro p e R s m args below meth c H locs cells slots ls mc ms C hR hS hL hd hk
  exact lv_icmp_ge C.1 C.2.1 d0 ht (fun hq => kt hq p e R s m args below meth c H locs cells slots ls mc ms C hR hS hL hd hk) (fun hq => kf hq p e R s m args below meth c H locs cells slots ls mc ms C hR hS hL hd hk)
theorem z_icmp_gt {x y : Int32} {off : Int} {tgt : Nat} (d0 : decode Y.2.1 pc = .ok (.if_icmp .gt off, 3)) (ht : (pc : Int) + off = (tgt : Int)) (kt : y < x → z_E G Y d Z tgt L st w k n) (kf : ¬ y < x → z_E G Y d Z (pc + 3) L st w k n) : z_E G Y d Z pc L (.int y :: .int x :: st) w k n := by
  intro p e R s m args below meth c H locs cells slots ls mc ms C hR hS hL hd hk
  exact lv_icmp_gt C.1 C.2.1 d0 ht (fun hq => kt hq p e R s m args below meth c H locs cells slots ls mc ms C hR hS hL hd hk) (fun hq => kf hq p e R s m args below meth c H locs cells slots ls mc ms C hR hS hL hd hk)
theorem z_icmp_le {x y : Int32} {off : Int} {tgt : Nat} (d0 : decode Y.2.1 pc = .ok (.if_icmp .le off, 3)) (ht : (pc : Int) + off = (tgt : Int)) (kt : x ≤ y → z_E G Y d Z tgt L st w k n) (kf : ¬ x ≤ y → z_E G Y d Z (pc + 3) L st w k n) : z_E G Y d Z pc L (.int y :: .int x :: st) w k n := by
  intro p e R s m args below meth c H locs cells slots ls mc ms C hR hS hL hd hk
  exact lv_icmp_le C.1 C.2.1 d0 ht (fun hq => kt hq p e R s m args below meth c H locs cells slots ls mc ms C hR hS hL hd hk) (fun hq => kf hq p e R s m args below meth c H locs cells slots ls mc ms C hR hS hL hd hk)
theorem z_goto {off : Int} {tgt : Nat} (d0 : decode Y.2.1 pc = .ok (.goto off, 3)) (ht : (pc : Int) + off = (tgt : Int)) (kk : z_E G Y d Z tgt L st w k n) : z_E G Y d Z pc L st w k n := by
  intro p e R s m args below meth c H locs cells slots ls mc ms C hR hS hL hd hk
  exact lv_goto C.1 C.2.1 d0 ht (kk p e R s m args below meth c H locs cells slots ls mc ms C hR hS hL hd hk)
theorem z_ifnull {v : Value} {off : Int} {tgt : Nat} (d0 : decode Y.2.1 pc = .ok (.ifnull off, 3)) (ht : (pc : Int) + off = (tgt : Int)) (hv : z_isr v = true) (kt : v = .null → z_E G Y d Z tgt L st w k n) (kf : ∀ a, v = .ref a → z_E G Y d Z (pc + 3) L st w k n) : z_E G Y d Z pc L (v :: st) w k n := by
  intro p e R s m args below meth c H locs cells slots ls mc ms C hR hS hL hd hk
  rcases z_isr_or hv with rfl | ⟨a, rfl⟩
  · exact lv_ifnullN C.1 C.2.1 d0 ht (kt rfl p e R s m args below meth c H locs cells slots ls mc ms C hR hS hL hd hk)
  · exact lv_ifnull C.1 C.2.1 d0 (kf a rfl p e R s m args below meth c H locs cells slots ls mc ms C hR hS hL hd hk)
theorem z_ifnonnull {v : Value} {off : Int} {tgt : Nat} (d0 : decode Y.2.1 pc = .ok (.ifnonnull off, 3)) (ht : (pc : Int) + off = (tgt : Int)) (hv : z_isr v = true) (kt : ∀ a, v = .ref a → z_E G Y d Z tgt L st w k n) (kf : v = .null → z_E G Y d Z (pc + 3) L st w k n) : z_E G Y d Z pc L (v :: st) w k n := by
  intro p e R s m args below meth c H locs cells slots ls mc ms C hR hS hL hd hk
  rcases z_isr_or hv with rfl | ⟨a, rfl⟩
  · exact lv_ifnonnullN C.1 C.2.1 d0 (kf rfl p e R s m args below meth c H locs cells slots ls mc ms C hR hS hL hd hk)
  · exact lv_ifnonnull C.1 C.2.1 d0 ht (kt a rfl p e R s m args below meth c H locs cells slots ls mc ms C hR hS hL hd hk)
def z_un : Value → Option Nat | .ref a => some a | _ => none
theorem z_rf_un {v : Value} (h : z_isr v = true) : va_rf (z_un v) = v := by cases v <;> first | rfl | cases h
theorem z_acmp_eq {u v : Value} {off : Int} {tgt : Nat} (d0 : decode Y.2.1 pc = .ok (.if_acmp .eq off, 3)) (ht : (pc : Int) + off = (tgt : Int)) (hu : z_isr u = true) (hv : z_isr v = true) (kt : u = v → z_E G Y d Z tgt L st w k n) (kf : ¬ u = v → z_E G Y d Z (pc + 3) L st w k n) : z_E G Y d Z pc L (v :: u :: st) w k n := by
  intro p e R s m args below meth c H locs cells slots ls mc ms C hR hS hL hd hk
  rw [← z_rf_un hu, ← z_rf_un hv]
  refine lv_acmp_eq C.1 C.2.1 d0 ht (fun hq => ?_) (fun hq => ?_)
  · exact kt (by rw [← z_rf_un hu, ← z_rf_un hv, hq]) p e R s m args below meth c H locs cells slots ls mc ms C hR hS hL hd hk
  · exact kf (fun hz => hq (by rw [hz])) p e R s m args below meth c H locs cells slots ls mc ms C hR hS hL hd hk
theorem z_tableIn {dflt lo hi : Int} {offs : Array Int} {len : Nat} {x : Int32} {off : Int} {tgt : Nat} (d0 : decode Y.2.1 pc = .ok (.tableswitch dflt lo hi offs, len)) (h1 : ¬ x.toInt < lo) (h2 : ¬ hi < x.toInt) (ho : offs[(x.toInt - lo).toNat]? = some off) (ht : (pc : Int) + off = (tgt : Int)) (kk : z_E G Y d Z tgt L st w k n) : z_E G Y d Z pc L (.int x :: st) w k n := by
  intro p e R s m args below meth c H locs cells slots ls mc ms C hR hS hL hd hk
  exact lv_tableIn C.1 C.2.1 d0 h1 h2 ho ht (kk p e R s m args below meth c H locs cells slots ls mc ms C hR hS hL hd hk)
theorem z_tableOut {dflt lo hi : Int} {offs : Array Int} {len : Nat} {x : Int32} {tgt : Nat} (d0 : decode Y.2.1 pc = .ok (.tableswitch dflt lo hi offs, len)) (h : x.toInt < lo ∨ hi < x.toInt) (ht : (pc : Int) + dflt = (tgt : Int)) (kk : z_E G Y d Z tgt L st w k n) : z_E G Y d Z pc L (.int x :: st) w k n := by
  intro p e R s m args below meth c H locs cells slots ls mc ms C hR hS hL hd hk
  exact lv_tableOut C.1 C.2.1 d0 h ht (kk p e R s m args below meth c H locs cells slots ls mc ms C hR hS hL hd hk)
theorem z_iald {a m0 : Nat} {f : Nat → Int32} {i : Int32} (d0 : decode Y.2.1 pc = .ok (.iaload, 1)) (hw : w a = some (.inl (G.2.1 0, m0, .inl f))) (hin : vp_in i m0) (kk : z_E G Y d Z (pc + 1) L (.int (f i.toNatClampNeg) :: st) w k n) : z_E G Y d Z pc L (.int i :: .ref a :: st) w k n := by
  intro p e R s m args below meth c H locs cells slots ls mc ms C hR hS hL hd hk
  obtain ⟨hP, -⟩ := hR.one hw
  exact va_iald C.1 C.2.1 C.2.2.2.2.2.2.2.2.2.1 hP 0 0 rfl rfl hin d0 (kk p e R s m args below meth c H locs cells slots ls mc ms C hR hS hL hd hk)
theorem z_zald {a m0 : Nat} {f : Nat → Int32} {i : Int32} (d0 : decode Y.2.1 pc = .ok (.baload, 1)) (hw : w a = some (.inl (G.2.1 1, m0, .inl f))) (hin : vp_in i m0) (kk : z_E G Y d Z (pc + 1) L (.int (f i.toNatClampNeg) :: st) w k n) : z_E G Y d Z pc L (.int i :: .ref a :: st) w k n := by
  intro p e R s m args below meth c H locs cells slots ls mc ms C hR hS hL hd hk
  obtain ⟨hP, -⟩ := hR.one hw
  exact va_zald C.1 C.2.1 C.2.2.2.2.2.2.2.2.2.1 hP 0 1 rfl rfl hin d0 (kk p e R s m args below meth c H locs cells slots ls mc ms C hR hS hL hd hk)
theorem z_lald {a m0 : Nat} {f : Nat → Int64} {i : Int32} (d0 : decode Y.2.1 pc = .ok (.laload, 1)) (hw : w a = some (.inl (G.2.1 2, m0, .inr (.inl f)))) (hin : vp_in i m0) (kk : z_E G Y d Z (pc + 1) L (.long (f i.toNatClampNeg) :: st) w k n) : z_E G Y d Z pc L (.int i :: .ref a :: st) w k n := by
  intro p e R s m args below meth c H locs cells slots ls mc ms C hR hS hL hd hk
  obtain ⟨hP, -⟩ := hR.one hw
  exact va_lald C.1 C.2.1 C.2.2.2.2.2.2.2.2.2.1 hP 0 2 rfl rfl hin d0 (kk p e R s m args below meth c H locs cells slots ls mc ms C hR hS hL hd hk)
theorem z_dald {a m0 : Nat} {f : Nat → UInt64} {i : Int32} (d0 : decode Y.2.1 pc = .ok (.daload, 1)) (hw : w a = some (.inl (G.2.1 3, m0, .inr (.inr (.inr (.inl f)))))) (hin : vp_in i m0) (kk : z_E G Y d Z (pc + 1) L (.double (f i.toNatClampNeg) :: st) w k n) : z_E G Y d Z pc L (.int i :: .ref a :: st) w k n := by
  intro p e R s m args below meth c H locs cells slots ls mc ms C hR hS hL hd hk
  obtain ⟨hP, -⟩ := hR.one hw
  exact va_dald C.1 C.2.1 C.2.2.2.2.2.2.2.2.2.1 hP 0 3 rfl rfl hin d0 (kk p e R s m args below meth c H locs cells slots ls mc ms C hR hS hL hd hk)
theorem z_aaldP {a m0 : Nat} {f : Nat → Option Nat} {i : Int32} (d0 : decode Y.2.1 pc = .ok (.aaload, 1)) (hw : w a = some (.inl (G.2.1 4, m0, .inr (.inr (.inr (.inr f)))))) (hin : vp_in i m0) (kk : z_E G Y d Z (pc + 1) L (va_rf (f i.toNatClampNeg) :: st) w k n) : z_E G Y d Z pc L (.int i :: .ref a :: st) w k n := by
  intro p e R s m args below meth c H locs cells slots ls mc ms C hR hS hL hd hk
  obtain ⟨hP, -⟩ := hR.one hw
  exact va_aldq C.1 C.2.1 C.2.2.2.2.2.2.2.2.2.1 hP 0 4 rfl rfl hin d0 (kk p e R s m args below meth c H locs cells slots ls mc ms C hR hS hL hd hk)
theorem z_aaldG {a m0 : Nat} {f : Nat → Option Nat} {i : Int32} (d0 : decode Y.2.1 pc = .ok (.aaload, 1)) (hw : w a = some (.inl (G.2.1 5, m0, .inr (.inr (.inr (.inr f)))))) (hin : vp_in i m0) (kk : z_E G Y d Z (pc + 1) L (va_rf (f i.toNatClampNeg) :: st) w k n) : z_E G Y d Z pc L (.int i :: .ref a :: st) w k n := by
  intro p e R s m args below meth c H locs cells slots ls mc ms C hR hS hL hd hk
  obtain ⟨hP, -⟩ := hR.one hw
  exact va_aldq C.1 C.2.1 C.2.2.2.2.2.2.2.2.2.1 hP 0 5 rfl rfl hin d0 (kk p e R s m args below meth c H locs cells slots ls mc ms C hR hS hL hd hk)
theorem z_aaldZ {a m0 : Nat} {f : Nat → Option Nat} {i : Int32} (d0 : decode Y.2.1 pc = .ok (.aaload, 1)) (hw : w a = some (.inl (G.2.1 6, m0, .inr (.inr (.inr (.inr f)))))) (hin : vp_in i m0) (kk : z_E G Y d Z (pc + 1) L (va_rf (f i.toNatClampNeg) :: st) w k n) : z_E G Y d Z pc L (.int i :: .ref a :: st) w k n := by
  intro p e R s m args below meth c H locs cells slots ls mc ms C hR hS hL hd hk
  obtain ⟨hP, -⟩ := hR.one hw
  exact va_aldq C.1 C.2.1 C.2.2.2.2.2.2.2.2.2.1 hP 0 6 rfl rfl hin d0 (kk p e R s m args below meth c H locs cells slots ls mc ms C hR hS hL hd hk)
theorem z_aaldN {a m0 : Nat} {f : Nat → Option Nat} {i : Int32} (d0 : decode Y.2.1 pc = .ok (.aaload, 1)) (hw : w a = some (.inl (G.2.1 7, m0, .inr (.inr (.inr (.inr f)))))) (hin : vp_in i m0) (kk : z_E G Y d Z (pc + 1) L (va_rf (f i.toNatClampNeg) :: st) w k n) : z_E G Y d Z pc L (.int i :: .ref a :: st) w k n := by
  intro p e R s m args below meth c H locs cells slots ls mc ms C hR hS hL hd hk
  obtain ⟨hP, -⟩ := hR.one hw
  exact va_aldq C.1 C.2.1 C.2.2.2.2.2.2.2.2.2.1 hP 0 7 rfl rfl hin d0 (kk p e R s m args below meth c H locs cells slots ls mc ms C hR hS hL hd hk)
theorem z_alen {a cy m0 : Nat} {ty : FieldType} {x} (d0 : decode Y.2.1 pc = .ok (.arraylength, 1)) (hw : w a = some (.inl (G.2.1 cy, m0, x))) (ht : (z_tys G)[cy]? = some (G.2.1 cy, ty)) {v : Int32} (hv : nI m0 = v) (kk : z_E G Y d Z (pc + 1) L (.int v :: st) w k n) : z_E G Y d Z pc L (.ref a :: st) w k n := by
  intro p e R s m args below meth c H locs cells slots ls mc ms C hR hS hL hd hk
  obtain ⟨hP, -⟩ := hR.one hw
  exact va_alen C.1 C.2.1 C.2.2.2.2.2.2.2.2.2.1 hP 0 cy rfl ht hv d0 (kk p e R s m args below meth c H locs cells slots ls mc ms C hR hS hL hd hk)
theorem z_iast {a m0 : Nat} {f : Nat → Int32} {i : Int32} {x : Int32} (d0 : decode Y.2.1 pc = .ok (.iastore, 1)) (hw : w a = some (.inl (G.2.1 0, m0, .inl f))) (hin : vp_in i m0) (kk : z_E G Y d Z (pc + 1) L st (z_up w a (.inl (G.2.1 0, m0, .inl (upd f i.toNatClampNeg x)))) k n) : z_E G Y d Z pc L (.int x :: .int i :: .ref a :: st) w k n := by
  intro p e R s m args below meth c H locs cells slots ls mc ms C hR hS hL hd hk
  obtain ⟨ws, hP, hD, hws⟩ := hR
  obtain ⟨q0, hq0⟩ := hws _ _ hw
  exact va_iast C.1 C.2.1 C.2.2.2.2.2.2.2.2.2.1 hP hD hS q0 0 hq0 rfl hin d0 (fun H1 locs1 hP1 hD1 hS1 => kk p e R s m args below meth c H1 locs1 cells slots ls mc ms C (z_R_set hD hq0 hws hP1 hD1) hS1 hL hd hk)
theorem z_zast {a m0 : Nat} {f : Nat → Int32} {i : Int32} {x : Int32} (d0 : decode Y.2.1 pc = .ok (.bastore, 1)) (hw : w a = some (.inl (G.2.1 1, m0, .inl f))) (hin : vp_in i m0) (kk : z_E G Y d Z (pc + 1) L st (z_up w a (.inl (G.2.1 1, m0, .inl (upd f i.toNatClampNeg (vp_nar .boolean x))))) k n) : z_E G Y d Z pc L (.int x :: .int i :: .ref a :: st) w k n := by
  intro p e R s m args below meth c H locs cells slots ls mc ms C hR hS hL hd hk
  obtain ⟨ws, hP, hD, hws⟩ := hR
  obtain ⟨q0, hq0⟩ := hws _ _ hw
  exact va_zast C.1 C.2.1 C.2.2.2.2.2.2.2.2.2.1 hP hD hS q0 1 hq0 rfl hin d0 (fun H1 locs1 hP1 hD1 hS1 => kk p e R s m args below meth c H1 locs1 cells slots ls mc ms C (z_R_set hD hq0 hws hP1 hD1) hS1 hL hd hk)
theorem z_last {a m0 : Nat} {f : Nat → Int64} {i : Int32} {x : Int64} (d0 : decode Y.2.1 pc = .ok (.lastore, 1)) (hw : w a = some (.inl (G.2.1 2, m0, .inr (.inl f)))) (hin : vp_in i m0) (kk : z_E G Y d Z (pc + 1) L st (z_up w a (.inl (G.2.1 2, m0, .inr (.inl (vp_updL f i.toNatClampNeg x))))) k n) : z_E G Y d Z pc L (.long x :: .int i :: .ref a :: st) w k n := by
  intro p e R s m args below meth c H locs cells slots ls mc ms C hR hS hL hd hk
  obtain ⟨ws, hP, hD, hws⟩ := hR
  obtain ⟨q0, hq0⟩ := hws _ _ hw
  exact va_last C.1 C.2.1 C.2.2.2.2.2.2.2.2.2.1 hP hD hS q0 2 hq0 rfl hin d0 (fun H1 locs1 hP1 hD1 hS1 => kk p e R s m args below meth c H1 locs1 cells slots ls mc ms C (z_R_set hD hq0 hws hP1 hD1) hS1 hL hd hk)
theorem z_dast {a m0 : Nat} {f : Nat → UInt64} {i : Int32} {x : UInt64} (d0 : decode Y.2.1 pc = .ok (.dastore, 1)) (hw : w a = some (.inl (G.2.1 3, m0, .inr (.inr (.inr (.inl f)))))) (hin : vp_in i m0) (kk : z_E G Y d Z (pc + 1) L st (z_up w a (.inl (G.2.1 3, m0, .inr (.inr (.inr (.inl (vf_upd f i.toNatClampNeg x))))))) k n) : z_E G Y d Z pc L (.double x :: .int i :: .ref a :: st) w k n := by
  intro p e R s m args below meth c H locs cells slots ls mc ms C hR hS hL hd hk
  obtain ⟨ws, hP, hD, hws⟩ := hR
  obtain ⟨q0, hq0⟩ := hws _ _ hw
  exact va_dast C.1 C.2.1 C.2.2.2.2.2.2.2.2.2.1 hP hD hS q0 3 hq0 rfl hin d0 (fun H1 locs1 hP1 hD1 hS1 => kk p e R s m args below meth c H1 locs1 cells slots ls mc ms C (z_R_set hD hq0 hws hP1 hD1) hS1 hL hd hk)
theorem z_aastP {a v m0 : Nat} {f : Nat → Option Nat} {vs : List Value} {i : Int32} (d0 : decode Y.2.1 pc = .ok (.aastore, 1)) (hw : w a = some (.inl (G.2.1 4, m0, .inr (.inr (.inr (.inr f)))))) (hv : w v = some (.inr (3, vs))) (hin : vp_in i m0) (kk : z_E G Y d Z (pc + 1) L st (z_up w a (.inl (G.2.1 4, m0, .inr (.inr (.inr (.inr (va_up f i.toNatClampNeg (some v)))))))) k n) : z_E G Y d Z pc L (.ref v :: .int i :: .ref a :: st) w k n := by
  intro p e R s m args below meth c H locs cells slots ls mc ms C hR hS hL hd hk
  obtain ⟨ws, hP, hD, hws⟩ := hR
  obtain ⟨q0, hq0⟩ := hws _ _ hw
  obtain ⟨qk, hqk⟩ := hws _ _ hv
  exact va_astq C.1 C.2.1 C.2.2.2.2.2.2.2.2.2.1 hP hD hS q0 4 qk 3 hq0 rfl hqk rfl hin d0 (fun H1 locs1 hP1 hD1 hS1 => kk p e R s m args below meth c H1 locs1 cells slots ls mc ms C (z_R_set hD hq0 hws hP1 hD1) hS1 hL hd hk)
theorem z_aastG {a v m0 : Nat} {f : Nat → Option Nat} {vs : List Value} {i : Int32} (d0 : decode Y.2.1 pc = .ok (.aastore, 1)) (hw : w a = some (.inl (G.2.1 5, m0, .inr (.inr (.inr (.inr f)))))) (hv : w v = some (.inr (1, vs))) (hin : vp_in i m0) (kk : z_E G Y d Z (pc + 1) L st (z_up w a (.inl (G.2.1 5, m0, .inr (.inr (.inr (.inr (va_up f i.toNatClampNeg (some v)))))))) k n) : z_E G Y d Z pc L (.ref v :: .int i :: .ref a :: st) w k n := by
  intro p e R s m args below meth c H locs cells slots ls mc ms C hR hS hL hd hk
  obtain ⟨ws, hP, hD, hws⟩ := hR
  obtain ⟨q0, hq0⟩ := hws _ _ hw
  obtain ⟨qk, hqk⟩ := hws _ _ hv
  exact va_astq C.1 C.2.1 C.2.2.2.2.2.2.2.2.2.1 hP hD hS q0 5 qk 1 hq0 rfl hqk rfl hin d0 (fun H1 locs1 hP1 hD1 hS1 => kk p e R s m args below meth c H1 locs1 cells slots ls mc ms C (z_R_set hD hq0 hws hP1 hD1) hS1 hL hd hk)
theorem z_aastZ {a v m0 : Nat} {f : Nat → Option Nat} {vs : List Value} {i : Int32} (d0 : decode Y.2.1 pc = .ok (.aastore, 1)) (hw : w a = some (.inl (G.2.1 6, m0, .inr (.inr (.inr (.inr f)))))) (hv : w v = some (.inr (4, vs))) (hin : vp_in i m0) (kk : z_E G Y d Z (pc + 1) L st (z_up w a (.inl (G.2.1 6, m0, .inr (.inr (.inr (.inr (va_up f i.toNatClampNeg (some v)))))))) k n) : z_E G Y d Z pc L (.ref v :: .int i :: .ref a :: st) w k n := by
  intro p e R s m args below meth c H locs cells slots ls mc ms C hR hS hL hd hk
  obtain ⟨ws, hP, hD, hws⟩ := hR
  obtain ⟨q0, hq0⟩ := hws _ _ hw
  obtain ⟨qk, hqk⟩ := hws _ _ hv
  exact va_astq C.1 C.2.1 C.2.2.2.2.2.2.2.2.2.1 hP hD hS q0 6 qk 4 hq0 rfl hqk rfl hin d0 (fun H1 locs1 hP1 hD1 hS1 => kk p e R s m args below meth c H1 locs1 cells slots ls mc ms C (z_R_set hD hq0 hws hP1 hD1) hS1 hL hd hk)
theorem z_aastN {a v m0 : Nat} {f : Nat → Option Nat} {vs : List Value} {i : Int32} (d0 : decode Y.2.1 pc = .ok (.aastore, 1)) (hw : w a = some (.inl (G.2.1 7, m0, .inr (.inr (.inr (.inr f)))))) (hv : w v = some (.inr (2, vs))) (hin : vp_in i m0) (kk : z_E G Y d Z (pc + 1) L st (z_up w a (.inl (G.2.1 7, m0, .inr (.inr (.inr (.inr (va_up f i.toNatClampNeg (some v)))))))) k n) : z_E G Y d Z pc L (.ref v :: .int i :: .ref a :: st) w k n := by
  intro p e R s m args below meth c H locs cells slots ls mc ms C hR hS hL hd hk
  obtain ⟨ws, hP, hD, hws⟩ := hR
  obtain ⟨q0, hq0⟩ := hws _ _ hw
  obtain ⟨qk, hqk⟩ := hws _ _ hv
  exact va_astq C.1 C.2.1 C.2.2.2.2.2.2.2.2.2.1 hP hD hS q0 7 qk 2 hq0 rfl hqk rfl hin d0 (fun H1 locs1 hP1 hD1 hS1 => kk p e R s m args below meth c H1 locs1 cells slots ls mc ms C (z_R_set hD hq0 hws hP1 hD1) hS1 hL hd hk)
theorem z_newaI {i : Int32} {m0 : Nat} (d0 : decode Y.2.1 pc = .ok (.newarray .int, 2)) (hT : Cond.arrayClass .int ∈ z_T) (hi : ¬ i < 0) (hN : i.toNatClampNeg = m0) (hb : m0 * 8 ≤ 536870912) (hk1 : 1 ≤ k) (hn1 : m0 ≤ n) (kk : ∀ q : Nat, w q = none → z_E G Y d Z (pc + 2) L (.ref q :: st) (z_up w q (.inl (G.2.1 0, m0, .inl (fun _ => 0)))) (k - 1) (n - m0)) : z_E G Y d Z pc L (.int i :: st) w k n := by
  intro p e R s m args below meth c H locs cells slots ls mc ms C hR hS hL hd hk
  obtain ⟨ws, hP, hD, hws⟩ := hR
  have hK := C.2.2.2.2.2.2.2.2.2.1
  refine va_newa (atype := .int) (ty := .int) (a0 := (m0, .inl (fun _ => 0))) C.1 C.2.1 (C.2.2.2.2.1 _ hT) rfl hK hP hD hS (fun q h => Nat.le_trans C.2.2.2.2.2.2.2.2.2.2.2.2.2.2.2.2.1 h) (fun _ => rfl) hi hN (by have := hb; show m0 * _ ≤ _; refine Nat.le_trans (Nat.mul_le_mul_left m0 (show componentBytes .int ≤ 8 by decide)) hb) (by omega) (by omega) d0 (fun q cA H1 hK1 hP1 hD1 hS1 => ?_)
  have hcA : cA = G.2.1 0 := by
    have h1 := (hK1.2 (z_tys G).length (cA, .int) (by rw [List.getElem?_append_right (Nat.le_refl _)]; simp)).2
    have h2 := (hK.2 0 (G.2.1 0, .int) rfl).2
    exact Option.some.inj (h1.symm.trans h2)
  subst hcA
  obtain ⟨hR1, hq⟩ := z_R_new hws hP1 hD1
  exact kk q hq p e R s m args below meth c H1 locs (cells + 1) (slots + m0) ls mc ms C hR1 hS1 hL hd ⟨by omega, by omega, hk.2.2⟩
theorem z_newaZ {i : Int32} {m0 : Nat} (d0 : decode Y.2.1 pc = .ok (.newarray .boolean, 2)) (hT : Cond.arrayClass .boolean ∈ z_T) (hi : ¬ i < 0) (hN : i.toNatClampNeg = m0) (hb : m0 * 8 ≤ 536870912) (hk1 : 1 ≤ k) (hn1 : m0 ≤ n) (kk : ∀ q : Nat, w q = none → z_E G Y d Z (pc + 2) L (.ref q :: st) (z_up w q (.inl (G.2.1 1, m0, .inl (fun _ => 0)))) (k - 1) (n - m0)) : z_E G Y d Z pc L (.int i :: st) w k n := by
  intro p e R s m args below meth c H locs cells slots ls mc ms C hR hS hL hd hk
  obtain ⟨ws, hP, hD, hws⟩ := hR
  have hK := C.2.2.2.2.2.2.2.2.2.1
  refine va_newa (atype := .boolean) (ty := .boolean) (a0 := (m0, .inl (fun _ => 0))) C.1 C.2.1 (C.2.2.2.2.1 _ hT) rfl hK hP hD hS (fun q h => Nat.le_trans C.2.2.2.2.2.2.2.2.2.2.2.2.2.2.2.2.1 h) (fun _ => rfl) hi hN (by have := hb; show m0 * _ ≤ _; refine Nat.le_trans (Nat.mul_le_mul_left m0 (show componentBytes .boolean ≤ 8 by decide)) hb) (by omega) (by omega) d0 (fun q cA H1 hK1 hP1 hD1 hS1 => ?_)
  have hcA : cA = G.2.1 1 := by
    have h1 := (hK1.2 (z_tys G).length (cA, .boolean) (by rw [List.getElem?_append_right (Nat.le_refl _)]; simp)).2
    have h2 := (hK.2 1 (G.2.1 1, .boolean) rfl).2
    exact Option.some.inj (h1.symm.trans h2)
  subst hcA
  obtain ⟨hR1, hq⟩ := z_R_new hws hP1 hD1
  exact kk q hq p e R s m args below meth c H1 locs (cells + 1) (slots + m0) ls mc ms C hR1 hS1 hL hd ⟨by omega, by omega, hk.2.2⟩
theorem z_newaJ {i : Int32} {m0 : Nat} (d0 : decode Y.2.1 pc = .ok (.newarray .long, 2)) (hT : Cond.arrayClass .long ∈ z_T) (hi : ¬ i < 0) (hN : i.toNatClampNeg = m0) (hb : m0 * 8 ≤ 536870912) (hk1 : 1 ≤ k) (hn1 : m0 ≤ n) (kk : ∀ q : Nat, w q = none → z_E G Y d Z (pc + 2) L (.ref q :: st) (z_up w q (.inl (G.2.1 2, m0, .inr (.inl (fun _ => 0))))) (k - 1) (n - m0)) : z_E G Y d Z pc L (.int i :: st) w k n := by
  intro p e R s m args below meth c H locs cells slots ls mc ms C hR hS hL hd hk
  obtain ⟨ws, hP, hD, hws⟩ := hR
  have hK := C.2.2.2.2.2.2.2.2.2.1
  refine va_newa (atype := .long) (ty := .long) (a0 := (m0, .inr (.inl (fun _ => 0)))) C.1 C.2.1 (C.2.2.2.2.1 _ hT) rfl hK hP hD hS (fun q h => Nat.le_trans C.2.2.2.2.2.2.2.2.2.2.2.2.2.2.2.2.1 h) (fun _ => rfl) hi hN (by have := hb; show m0 * _ ≤ _; refine Nat.le_trans (Nat.mul_le_mul_left m0 (show componentBytes .long ≤ 8 by decide)) hb) (by omega) (by omega) d0 (fun q cA H1 hK1 hP1 hD1 hS1 => ?_)
  have hcA : cA = G.2.1 2 := by
    have h1 := (hK1.2 (z_tys G).length (cA, .long) (by rw [List.getElem?_append_right (Nat.le_refl _)]; simp)).2
    have h2 := (hK.2 2 (G.2.1 2, .long) rfl).2
    exact Option.some.inj (h1.symm.trans h2)
  subst hcA
  obtain ⟨hR1, hq⟩ := z_R_new hws hP1 hD1
  exact kk q hq p e R s m args below meth c H1 locs (cells + 1) (slots + m0) ls mc ms C hR1 hS1 hL hd ⟨by omega, by omega, hk.2.2⟩
theorem z_newaD {i : Int32} {m0 : Nat} (d0 : decode Y.2.1 pc = .ok (.newarray .double, 2)) (hT : Cond.arrayClass .double ∈ z_T) (hi : ¬ i < 0) (hN : i.toNatClampNeg = m0) (hb : m0 * 8 ≤ 536870912) (hk1 : 1 ≤ k) (hn1 : m0 ≤ n) (kk : ∀ q : Nat, w q = none → z_E G Y d Z (pc + 2) L (.ref q :: st) (z_up w q (.inl (G.2.1 3, m0, .inr (.inr (.inr (.inl (fun _ => 0))))))) (k - 1) (n - m0)) : z_E G Y d Z pc L (.int i :: st) w k n := by
  intro p e R s m args below meth c H locs cells slots ls mc ms C hR hS hL hd hk
  obtain ⟨ws, hP, hD, hws⟩ := hR
  have hK := C.2.2.2.2.2.2.2.2.2.1
  refine va_newa (atype := .double) (ty := .double) (a0 := (m0, .inr (.inr (.inr (.inl (fun _ => 0)))))) C.1 C.2.1 (C.2.2.2.2.1 _ hT) rfl hK hP hD hS (fun q h => Nat.le_trans C.2.2.2.2.2.2.2.2.2.2.2.2.2.2.2.2.1 h) (fun _ => rfl) hi hN (by have := hb; show m0 * _ ≤ _; refine Nat.le_trans (Nat.mul_le_mul_left m0 (show componentBytes .double ≤ 8 by decide)) hb) (by omega) (by omega) d0 (fun q cA H1 hK1 hP1 hD1 hS1 => ?_)
  have hcA : cA = G.2.1 3 := by
    have h1 := (hK1.2 (z_tys G).length (cA, .double) (by rw [List.getElem?_append_right (Nat.le_refl _)]; simp)).2
    have h2 := (hK.2 3 (G.2.1 3, .double) rfl).2
    exact Option.some.inj (h1.symm.trans h2)
  subst hcA
  obtain ⟨hR1, hq⟩ := z_R_new hws hP1 hD1
  exact kk q hq p e R s m args below meth c H1 locs (cells + 1) (slots + m0) ls mc ms C hR1 hS1 hL hd ⟨by omega, by omega, hk.2.2⟩
theorem z_newqP {i : Int32} {m0 idx : Nat} (d0 : decode Y.2.1 pc = .ok (.anewarray idx, 3)) (hT : Cond.classLink Y.1.cls idx RX3 ∈ z_T) (hi : ¬ i < 0) (hN : i.toNatClampNeg = m0) (hb : m0 * 4 ≤ 536870912) (hk1 : 1 ≤ k) (hn1 : m0 ≤ n) (kk : ∀ q : Nat, w q = none → z_E G Y d Z (pc + 3) L (.ref q :: st) (z_up w q (.inl (G.2.1 4, m0, .inr (.inr (.inr (.inr (fun _ => none))))))) (k - 1) (n - m0)) : z_E G Y d Z pc L (.int i :: st) w k n := by
  intro p e R s m args below meth c H locs cells slots ls mc ms C hR hS hL hd hk
  obtain ⟨ws, hP, hD, hws⟩ := hR
  have hK := C.2.2.2.2.2.2.2.2.2.1
  refine va_newq (C := RX3) C.1 C.2.1 C.2.2.2.1 (C.2.2.2.2.1 _ hT) (C.2.2.2.2.2.2.2.2.2.2.2.2.2.1 RX3 (by decide)) hK hP hD hS (fun q h => Nat.le_trans C.2.2.2.2.2.2.2.2.2.2.2.2.2.2.2.2.1 h) hi hN hb (by omega) (by omega) d0 (fun q cA H1 hK1 hP1 hD1 hS1 => ?_)
  have hcA : cA = G.2.1 4 := by
    obtain ⟨kA, comp, f1, f2, f3, f4⟩ := (hK1.2 (z_tys G).length (cA, .object RX3) (by rw [List.getElem?_append_right (Nat.le_refl _)]; simp)).2
    obtain ⟨kA', comp', g1, g2, g3, g4⟩ := (hK.2 4 (G.2.1 4, .object RX3) rfl).2
    exact Option.some.inj (f4.symm.trans g4)
  subst hcA
  obtain ⟨hR1, hq⟩ := z_R_new hws hP1 hD1
  exact kk q hq p e R s m args below meth c H1 locs (cells + 1) (slots + m0) ls mc ms C hR1 hS1 hL hd ⟨by omega, by omega, hk.2.2⟩
theorem z_newqG {i : Int32} {m0 idx : Nat} (d0 : decode Y.2.1 pc = .ok (.anewarray idx, 3)) (hT : Cond.classLink Y.1.cls idx RX1 ∈ z_T) (hi : ¬ i < 0) (hN : i.toNatClampNeg = m0) (hb : m0 * 4 ≤ 536870912) (hk1 : 1 ≤ k) (hn1 : m0 ≤ n) (kk : ∀ q : Nat, w q = none → z_E G Y d Z (pc + 3) L (.ref q :: st) (z_up w q (.inl (G.2.1 5, m0, .inr (.inr (.inr (.inr (fun _ => none))))))) (k - 1) (n - m0)) : z_E G Y d Z pc L (.int i :: st) w k n := by
  intro p e R s m args below meth c H locs cells slots ls mc ms C hR hS hL hd hk
  obtain ⟨ws, hP, hD, hws⟩ := hR
  have hK := C.2.2.2.2.2.2.2.2.2.1
  refine va_newq (C := RX1) C.1 C.2.1 C.2.2.2.1 (C.2.2.2.2.1 _ hT) (C.2.2.2.2.2.2.2.2.2.2.2.2.2.1 RX1 (by decide)) hK hP hD hS (fun q h => Nat.le_trans C.2.2.2.2.2.2.2.2.2.2.2.2.2.2.2.2.1 h) hi hN hb (by omega) (by omega) d0 (fun q cA H1 hK1 hP1 hD1 hS1 => ?_)
  have hcA : cA = G.2.1 5 := by
    obtain ⟨kA, comp, f1, f2, f3, f4⟩ := (hK1.2 (z_tys G).length (cA, .object RX1) (by rw [List.getElem?_append_right (Nat.le_refl _)]; simp)).2
    obtain ⟨kA', comp', g1, g2, g3, g4⟩ := (hK.2 5 (G.2.1 5, .object RX1) rfl).2
    exact Option.some.inj (f4.symm.trans g4)
  subst hcA
  obtain ⟨hR1, hq⟩ := z_R_new hws hP1 hD1
  exact kk q hq p e R s m args below meth c H1 locs (cells + 1) (slots + m0) ls mc ms C hR1 hS1 hL hd ⟨by omega, by omega, hk.2.2⟩
theorem z_newqZ {i : Int32} {m0 idx : Nat} (d0 : decode Y.2.1 pc = .ok (.anewarray idx, 3)) (hT : Cond.classLink Y.1.cls idx RX4 ∈ z_T) (hi : ¬ i < 0) (hN : i.toNatClampNeg = m0) (hb : m0 * 4 ≤ 536870912) (hk1 : 1 ≤ k) (hn1 : m0 ≤ n) (kk : ∀ q : Nat, w q = none → z_E G Y d Z (pc + 3) L (.ref q :: st) (z_up w q (.inl (G.2.1 6, m0, .inr (.inr (.inr (.inr (fun _ => none))))))) (k - 1) (n - m0)) : z_E G Y d Z pc L (.int i :: st) w k n := by
  intro p e R s m args below meth c H locs cells slots ls mc ms C hR hS hL hd hk
  obtain ⟨ws, hP, hD, hws⟩ := hR
  have hK := C.2.2.2.2.2.2.2.2.2.1
  refine va_newq (C := RX4) C.1 C.2.1 C.2.2.2.1 (C.2.2.2.2.1 _ hT) (C.2.2.2.2.2.2.2.2.2.2.2.2.2.1 RX4 (by decide)) hK hP hD hS (fun q h => Nat.le_trans C.2.2.2.2.2.2.2.2.2.2.2.2.2.2.2.2.1 h) hi hN hb (by omega) (by omega) d0 (fun q cA H1 hK1 hP1 hD1 hS1 => ?_)
  have hcA : cA = G.2.1 6 := by
    obtain ⟨kA, comp, f1, f2, f3, f4⟩ := (hK1.2 (z_tys G).length (cA, .object RX4) (by rw [List.getElem?_append_right (Nat.le_refl _)]; simp)).2
    obtain ⟨kA', comp', g1, g2, g3, g4⟩ := (hK.2 6 (G.2.1 6, .object RX4) rfl).2
    exact Option.some.inj (f4.symm.trans g4)
  subst hcA
  obtain ⟨hR1, hq⟩ := z_R_new hws hP1 hD1
  exact kk q hq p e R s m args below meth c H1 locs (cells + 1) (slots + m0) ls mc ms C hR1 hS1 hL hd ⟨by omega, by omega, hk.2.2⟩
theorem z_newqN {i : Int32} {m0 idx : Nat} (d0 : decode Y.2.1 pc = .ok (.anewarray idx, 3)) (hT : Cond.classLink Y.1.cls idx RX2 ∈ z_T) (hi : ¬ i < 0) (hN : i.toNatClampNeg = m0) (hb : m0 * 4 ≤ 536870912) (hk1 : 1 ≤ k) (hn1 : m0 ≤ n) (kk : ∀ q : Nat, w q = none → z_E G Y d Z (pc + 3) L (.ref q :: st) (z_up w q (.inl (G.2.1 7, m0, .inr (.inr (.inr (.inr (fun _ => none))))))) (k - 1) (n - m0)) : z_E G Y d Z pc L (.int i :: st) w k n := by
  intro p e R s m args below meth c H locs cells slots ls mc ms C hR hS hL hd hk
  obtain ⟨ws, hP, hD, hws⟩ := hR
  have hK := C.2.2.2.2.2.2.2.2.2.1
  refine va_newq (C := RX2) C.1 C.2.1 C.2.2.2.1 (C.2.2.2.2.1 _ hT) (C.2.2.2.2.2.2.2.2.2.2.2.2.2.1 RX2 (by decide)) hK hP hD hS (fun q h => Nat.le_trans C.2.2.2.2.2.2.2.2.2.2.2.2.2.2.2.2.1 h) hi hN hb (by omega) (by omega) d0 (fun q cA H1 hK1 hP1 hD1 hS1 => ?_)
  have hcA : cA = G.2.1 7 := by
    obtain ⟨kA, comp, f1, f2, f3, f4⟩ := (hK1.2 (z_tys G).length (cA, .object RX2) (by rw [List.getElem?_append_right (Nat.le_refl _)]; simp)).2
    obtain ⟨kA', comp', g1, g2, g3, g4⟩ := (hK.2 7 (G.2.1 7, .object RX2) rfl).2
    exact Option.some.inj (f4.symm.trans g4)
  subst hcA
  obtain ⟨hR1, hq⟩ := z_R_new hws hP1 hD1
  exact kk q hq p e R s m args below meth c H1 locs (cells + 1) (slots + m0) ls mc ms C hR1 hS1 hL hd ⟨by omega, by omega, hk.2.2⟩
theorem z_new {ci N idx : Nat} {CN : String} {T : u_T} {fs : List Value} (d0 : decode Y.2.1 pc = .ok (.new idx, 3)) (hc : vwCl[ci]? = some (CN, T, N)) (hin : ∀ w ∈ u_ws CN T N, w ∈ z_T) (ty : Nat → FieldType) (hty : ∀ j, j < N → parseFieldDescriptor (T j).2.2.1 = some (ty j)) (hfs : ∀ j, j < N → defaultValue (ty j) = vp_V fs j) (h1 : Cond.classLink Y.1.cls idx CN ∈ z_T) (h2 : Cond.instantiable CN N ∈ z_T) (h3 : Cond.initialized CN ∈ z_T) (hk1 : 1 ≤ k) (hn1 : N ≤ n)
    (kk : ∀ q : Nat, w q = none → z_E G Y d Z (pc + 3) L (.ref q :: st) (z_up w q (.inr (ci, fs))) (k - 1) (n - N)) : z_E G Y d Z pc L st w k n := by
  intro p e R s m args below meth c H locs cells slots ls mc ms C hR hS hL hd hk
  obtain ⟨ws, hP, hD, hws⟩ := hR
  refine va_new C.1 C.2.1 C.2.2.2.2.1 hin ty hty C.2.2.2.1 (C.2.2.2.2.1 _ h1) (C.2.2.2.2.1 _ h2) (C.2.2.2.2.1 _ h3) C.2.2.2.2.2.2.2.2.2.1 hP hD hS (fun q h => Nat.le_trans C.2.2.2.2.2.2.2.2.2.2.2.2.2.2.2.2.1 h) hc hfs (by omega) (by omega) d0 (fun q H1 hP1 hD1 hS1 => ?_)
  obtain ⟨hR1, hq⟩ := z_R_new hws hP1 hD1
  exact kk q hq p e R s m args below meth c H1 locs (cells + 1) (slots + N) ls mc ms C hR1 hS1 hL hd ⟨by omega, by omega, hk.2.2⟩
theorem z_get {ci N idx j a : Nat} {CN : String} {T : u_T} {fs : List Value} {v : Value} (d0 : decode Y.2.1 pc = .ok (.getfield idx, 3)) (hc : vwCl[ci]? = some (CN, T, N)) (hin : ∀ w ∈ u_ws CN T N, w ∈ z_T) (hj : j < N) (hlink : Cond.fieldLink Y.1.cls idx (T j).1 (T j).2.1 (T j).2.2.1 ∈ z_T) (hw : w a = some (.inr (ci, fs))) (hv : fs[j]? = some v) (kk : z_E G Y d Z (pc + 3) L (v :: st) w k n) : z_E G Y d Z pc L (.ref a :: st) w k n := by
  intro p e R s m args below meth c H locs cells slots ls mc ms C hR hS hL hd hk
  obtain ⟨hP, -⟩ := hR.one hw
  exact va_get C.1 C.2.1 C.2.2.2.2.1 hin C.2.2.2.1 C.2.2.2.2.2.2.2.2.2.1 hP 0 rfl hc j hj (C.2.2.2.2.1 _ hlink) (fun _ h => h) hv d0 (kk p e R s m args below meth c H locs cells slots ls mc ms C hR hS hL hd hk)
theorem z_put {ci N idx j a : Nat} {CN : String} {T : u_T} {fs : List Value} {v : Value} (d0 : decode Y.2.1 pc = .ok (.putfield idx, 3)) (hc : vwCl[ci]? = some (CN, T, N)) (hin : ∀ w ∈ u_ws CN T N, w ∈ z_T) (ty : Nat → FieldType) (hty : ∀ j, j < N → parseFieldDescriptor (T j).2.2.1 = some (ty j)) (hnm : ∀ a, a < N → ∀ b, b < N → a ≠ b → (T a).2.1 ≠ (T b).2.1) (hj : j < N) (hlink : Cond.fieldLink Y.1.cls idx (T j).1 (T j).2.1 (T j).2.2.1 ∈ z_T) (hfin : (T j).2.2.2 = false) (hn : narrow (ty j) v = v) (hfit : fits (ty j) v = true) (hw : w a = some (.inr (ci, fs))) (hl : j < fs.length)
    (kk : z_E G Y d Z (pc + 3) L st (z_up w a (.inr (ci, fs.set j v))) k n) : z_E G Y d Z pc L (v :: .ref a :: st) w k n := by
  intro p e R s m args below meth c H locs cells slots ls mc ms C hR hS hL hd hk
  obtain ⟨ws, hP, hD, hws⟩ := hR
  obtain ⟨q0, hq0⟩ := hws _ _ hw
  exact va_put C.1 C.2.1 C.2.2.2.2.1 hin ty hty hnm C.2.2.2.1 C.2.2.2.2.2.2.2.2.2.1 hP hD hS q0 hq0 hc j hj (C.2.2.2.2.1 _ hlink) (fun _ h => h) hfin (hty j hj) hn hfit hl d0 (fun H1 locs1 hP1 hD1 hS1 => kk p e R s m args below meth c H1 locs1 cells slots ls mc ms C (z_R_set hD hq0 hws hP1 hD1) hS1 hL hd hk)
theorem z_putF {ci N idx j a : Nat} {CN : String} {T : u_T} {fs : List Value} {v : Value} (d0 : decode Y.2.1 pc = .ok (.putfield idx, 3)) (hc : vwCl[ci]? = some (CN, T, N)) (hin : ∀ w ∈ u_ws CN T N, w ∈ z_T) (ty : Nat → FieldType) (hty : ∀ j, j < N → parseFieldDescriptor (T j).2.2.1 = some (ty j)) (hnm : ∀ a, a < N → ∀ b, b < N → a ≠ b → (T a).2.1 ≠ (T b).2.1) (hj : j < N) (hlink : Cond.fieldLink Y.1.cls idx (T j).1 (T j).2.1 (T j).2.2.1 ∈ z_T) (hfin : (T j).2.2.2 = true) (hini : Y.1.name = "<init>") (hdecl : (T j).1 = Y.1.cls) (hn : narrow (ty j) v = v) (hfit : fits (ty j) v = true) (hw : w a = some (.inr (ci, fs))) (hl : j < fs.length)
    (kk : z_E G Y d Z (pc + 3) L st (z_up w a (.inr (ci, fs.set j v))) k n) : z_E G Y d Z pc L (v :: .ref a :: st) w k n := by
  intro p e R s m args below meth c H locs cells slots ls mc ms C hR hS hL hd hk
  obtain ⟨ws, hP, hD, hws⟩ := hR
  obtain ⟨q0, hq0⟩ := hws _ _ hw
  exact va_putF C.1 C.2.1 C.2.2.2.2.1 hin ty hty hnm C.2.2.2.1 C.2.2.2.2.2.2.2.2.2.1 hP hD hS q0 hq0 hc j hj (C.2.2.2.2.1 _ hlink) (fun _ h => h) hfin (C.2.2.2.2.2.2.2.1.trans hini) hdecl (hty j hj) hn hfit hl d0 (fun H1 locs1 hP1 hD1 hS1 => kk p e R s m args below meth c H1 locs1 cells slots ls mc ms C (z_R_set hD hq0 hws hP1 hD1) hS1 hL hd hk)
theorem z_E.mono {k2 n2 : Nat} (h1 : k ≤ k2) (h2 : n ≤ n2) (kk : z_E G Y d Z pc L st w k n) : z_E G Y d Z pc L st w k2 n2 := by
  intro p e R s m args below meth c H locs cells slots ls mc ms C hR hS hL hd hk
  exact kk p e R s m args below meth c H locs cells slots ls mc ms C hR hS hL hd ⟨by omega, by omega, hk.2.2⟩
theorem z_E.depth {d2 : Nat} (h1 : d ≤ d2) (kk : z_E G Y d Z pc L st w k n) : z_E G Y d2 Z pc L st w k n := by
  intro p e R s m args below meth c H locs cells slots ls mc ms C hR hS hL hd hk
  exact kk p e R s m args below meth c H locs cells slots ls mc ms C hR hS hL ⟨Nat.le_trans h1 hd.1, Nat.le_trans (Nat.mul_le_mul_left 33 h1) hd.2⟩ hk
theorem z_objInit {idx a : Nat} (d0 : decode Y.2.1 pc = .ok (.invokespecial idx, 3)) (h1 : Cond.methodLink Y.1.cls idx Lib.objectInit ∈ z_T) (h2 : Cond.instanceMethod Lib.objectInit ∈ z_T) (h3 : Cond.code Lib.objectInit ⟨#[0xb1]⟩ 1 none ∈ z_T) (hdd : 1 ≤ d) (hst : (st.map fun v => v.category).sum ≤ 8) (kk : z_E G Y d Z (pc + 3) L st w k n) : z_E G Y d Z pc L (.ref a :: st) w k n := by
  intro p e R s m args below meth c H locs cells slots ls mc ms C hR hS hL hd hk
  have hd2 : 33 * d ≤ R.locals := hd.2
  exact W.objInit C.1 C.2.1 C.2.2.2.1 (C.2.2.2.2.1 _ h1) (C.2.2.2.2.1 _ h2) (C.2.2.2.2.1 _ h3) rfl (hL.2.1.trans C.2.2.1.symm) rfl d0 (Nat.le_trans hdd hd.1) (by have := lv_room (m := m) (pc := pc) (ls := ls) (rest := .ref a :: st) hst; omega) (kk p e R s m args below meth c H locs cells slots ls mc ms C hR hS hL hd hk)
end ZROWS
end
section
/-! ===== BEGIN a constructor that throws (launches without stack traces) ===== -/
section VXIA
variable {p : Program} {l : Launch} {e : Env} {R : Room} {s : State} {m : MethodId} {args : Array Value} {below : List Frame} {meth : Method} {c : Code} {T : State} {locs : List Loc} {cells slots : Nat}
theorem vx_callI (X : Stand p l e R s m args below meth c T locs cells slots) (hexec : p.tables.exec = Jvm.exec) {own : String} {index : Nat} {y : MethodName} {bytes : ByteArray} {maxL : Nat}
    (hown : s.vm.findClass own = some m.cls) (hy1 : y.name = "<init>") (hlink : (Cond.methodLink own index y).before args s = true) (hinst : (Cond.instanceMethod y).before args s = true)
    (hcode : (Cond.code y bytes maxL none).before args s = true) (hy : y.cls ≠ "java/lang/invoke/MethodHandle" ∧ y.cls ≠ "java/lang/invoke/VarHandle")
    {W9 : Nat} {Pre : Pt → Array Value → Prop} {Post : Pt → Array Value → Option Value → Pt → Prop} {PostX : Pt → Array Value → Addr → Pt → Prop} (hK : vx_Back l R p e below s args y 3 W9 Pre Post PostX)
    {g : JFrame} (hg : g.method = m) (hsize : g.locals.size = c.maxLocals) {a : Addr} {argsL rest : List Value} (hlen : ∀ sig, parseMethodDescriptor y.desc = some sig → argsL.length = sig.parameters.length)
    (hstack : g.stack = argsL.reverse ++ .ref a :: rest) (hW : 2 * g.monitorRoom + (rest.map fun v => v.category).sum ≤ W9) (hdg : decode c.code g.pc = .ok (.invokespecial index, 3))
    (hpre : ∀ vm₁, s.WarmedH vm₁ → Pre ⟨T.setVm vm₁, locs, cells, slots⟩ (Value.ref a :: argsL).toArray) :
    (∃ (v : Option Value) (vm₁ : Vm) (B : Pt), s.WarmedH vm₁ ∧ Stand p l e R s m args below meth c B.U B.locs B.cells B.slots ∧ Post ⟨T.setVm vm₁, locs, cells, slots⟩ (Value.ref a :: argsL).toArray v B ∧
      ∀ target, Steps p.tables e below (B.U.setTop { g with pc := g.pc + 3, stack := v.toList ++ rest }) target → Steps p.tables e below (T.setTop g) target) ∨
    (∃ (q : Addr) (vm₁ : Vm) (B : Pt), s.WarmedH vm₁ ∧ Stand p l e R s m args below meth c B.U B.locs B.cells B.slots ∧ PostX ⟨T.setVm vm₁, locs, cells, slots⟩ (Value.ref a :: argsL).toArray q B ∧
      Steps p.tables e below (T.setTop g) ((B.U.setTop { g with stack := rest }).pushFrame (.throwing q))) := by
  subst hg
  have hpl : e.platform.magicAccessors = ({} : Platform).magicAccessors := by rw [X.admits.platform]
  obtain ⟨mk, methM, cM, kP, vm₁, hnamed, hmethM, hcodeM, -, hlocalsM, -, hkP, -, hW₁, hstep₁⟩ := Steps.initColdArgs (e := e) X.here hexec X.warmed hpl hown hy1 hy hlink hinst hcode (f := g) rfl hlen hstack hdg
  have X₁ := X.noted hW₁
  rcases hK g.method meth c ⟨T.setVm vm₁, locs, cells, slots⟩ { g with stack := rest } (.invokespecial index) mk (Value.ref a :: argsL).toArray X₁ rfl hsize hdg hW (X₁.named hnamed) (hpre vm₁ X₁.warmed) with ⟨v, B, X', hpost, hsteps⟩ | ⟨q, B, X', hpost, hsteps⟩
  · exact Or.inl ⟨v, vm₁, B, X₁.warmed, X', hpost, fun target h => hstep₁ _ fun acts => by rw [doInvoke_state]; exact hsteps.trans h⟩
  · exact Or.inr ⟨q, vm₁, B, X₁.warmed, X', hpost, hstep₁ _ fun acts => by rw [doInvoke_state]; exact hsteps⟩
end VXIA
section VXIB
variable {p : Program} {l : Launch} {e : Env} {R : Room} {s : State} {m : MethodId} {args : Array Value} {below : List Frame} {meth : Method} {c : Code} {H : Heap} {locs : List Loc} {cells slots : Nat}
variable {y : MethodName} {bytes cc : ByteArray} {maxL nL mc ms n index : Nat} {ret : Option FieldType} {ws : List Cond} {rm : Room} {Pc : Array Value → State → Prop} {Qc : Array Value → State → Outcome → State → Prop} {XC : String → State → State → Prop} {free : Addr → Prop} {Ts : List Cond} {own C : String} {b : Addr} {As rest : List Value} {g : JFrame}
theorem vx_runI (S : CallFix p m c cc nL s args Ts own) (hM : vx_Met l y ws rm Pc Qc XC mc ms free) (cw : CallB R s args own index y bytes maxL none ws rm mc ms n ∧ y.name = "<init>" ∧ (Cond.instanceMethod y).before args s = true) (hp : PreS s H Pc (.ref b :: As))
    (hg : g.method = m) (hn : As.length = n) (hsize : g.locals.size = nL) (hstack : g.stack = As.reverse ++ .ref b :: rest) (hW : 2 * g.monitorRoom + (rest.map fun v => v.category).sum ≤ 8) (hdg : decode cc g.pc = .ok (.invokespecial index, 3)) (hf : cells + mc ≤ R.cells ∧ slots + ms ≤ R.slots) :
    vx_Run p l e R s m args below meth c H locs cells slots mc ms g rest (Qc (Value.ref b :: As).toArray) XC free := by
  have hK : vx_Back l R p e below s args y 3 8 (PreOf R mc ms Pc) (PostOf Qc mc ms free) (vx_Post XC mc ms free) := vx_callBack cw.1 hM hp.1
  obtain ⟨⟨-, -, -, -, -, -, hcode, -, hy, hlen, hl⟩, hy1, hin⟩ := cw
  obtain ⟨hx, hb, hml, ho, -⟩ := S
  have hPc := hp.2
  intro T hT X
  rcases vx_callI X hx (bytes := bytes) (maxL := maxL) ho hy1 hl hin hcode hy hK hg (hsize.trans hml.symm) (a := b) (argsL := As) (rest := rest) (fun sig h => hn.trans (hlen sig h)) hstack hW (by rw [hb]; exact hdg)
    (fun vm₁ hW₁ => ⟨hf.1, hf.2, hPc (T.setVm vm₁) hT hW₁⟩) with ⟨v, vm₁, ⟨U', l2, c2, s2⟩, hW₁, X', ⟨g', mk, t, L, e1, e2, hq, h1, hL, h2, h3⟩, st⟩ | ⟨q, vm₁, ⟨U', l2, c2, s2⟩, hW₁, X', ⟨g', mk, t, L, E, ce, e1, e2, hq, hce, hcv, hcl, h1, hL, h2, h3⟩, st⟩
  · dsimp only [Pt.U, Pt.locs, Pt.cells, Pt.slots] at X' e1 e2 h1 h2 h3 st
    subst h1; subst h2; subst h3
    exact Or.inl ⟨v, (T.setVm vm₁).calling g' mk (Value.ref b :: As).toArray, t, U', L, hT, X', hL, e1, e2, hq, st⟩
  · dsimp only [Pt.U, Pt.locs, Pt.cells, Pt.slots] at X' e1 e2 h1 h2 h3 st hcl
    subst h1; subst h2; subst h3
    exact Or.inr ⟨q, (T.setVm vm₁).calling g' mk (Value.ref b :: As).toArray, t, U', L, E, ce, hT, X', hL, e1, e2, hq, hce, hcv, vx_cls hW₁ hcl, st⟩
end VXIB
/-! ===== END ===== -/
/-! ===== BEGIN a private constructor of a nest mate that throws ===== -/
section VXIC
variable {p : Program} {l : Launch} {e : Env} {R : Room} {s : State} {m : MethodId} {args : Array Value} {below : List Frame} {meth : Method} {c : Code} {T : State} {locs : List Loc} {cells slots : Nat}
theorem vx_callIN (X : Stand p l e R s m args below meth c T locs cells slots) (hexec : p.tables.exec = Jvm.exec) {own : String} {index : Nat} {host : String} {y : MethodName} {bytes : ByteArray} {maxL : Nat}
    (hown : s.vm.findClass own = some m.cls) (hy1 : y.name = "<init>") (hlink : (Cond.methodLinkNest own index y host).before args s = true) (hinst : (Cond.instanceMethod y).before args s = true)
    (hcode : (Cond.code y bytes maxL none).before args s = true) (hy : y.cls ≠ "java/lang/invoke/MethodHandle" ∧ y.cls ≠ "java/lang/invoke/VarHandle")
    {W9 : Nat} {Pre : Pt → Array Value → Prop} {Post : Pt → Array Value → Option Value → Pt → Prop} {PostX : Pt → Array Value → Addr → Pt → Prop} (hK : vx_Back l R p e below s args y 3 W9 Pre Post PostX)
    {g : JFrame} (hg : g.method = m) (hsize : g.locals.size = c.maxLocals) {a : Addr} {argsL rest : List Value} (hlen : ∀ sig, parseMethodDescriptor y.desc = some sig → argsL.length = sig.parameters.length)
    (hstack : g.stack = argsL.reverse ++ .ref a :: rest) (hW : 2 * g.monitorRoom + (rest.map fun v => v.category).sum ≤ W9) (hdg : decode c.code g.pc = .ok (.invokespecial index, 3))
    (hpre : ∀ vm₁, s.WarmedH vm₁ → Pre ⟨T.setVm vm₁, locs, cells, slots⟩ (Value.ref a :: argsL).toArray) :
    (∃ (v : Option Value) (vm₁ : Vm) (B : Pt), s.WarmedH vm₁ ∧ Stand p l e R s m args below meth c B.U B.locs B.cells B.slots ∧ Post ⟨T.setVm vm₁, locs, cells, slots⟩ (Value.ref a :: argsL).toArray v B ∧
      ∀ target, Steps p.tables e below (B.U.setTop { g with pc := g.pc + 3, stack := v.toList ++ rest }) target → Steps p.tables e below (T.setTop g) target) ∨
    (∃ (q : Addr) (vm₁ : Vm) (B : Pt), s.WarmedH vm₁ ∧ Stand p l e R s m args below meth c B.U B.locs B.cells B.slots ∧ PostX ⟨T.setVm vm₁, locs, cells, slots⟩ (Value.ref a :: argsL).toArray q B ∧
      Steps p.tables e below (T.setTop g) ((B.U.setTop { g with stack := rest }).pushFrame (.throwing q))) := by
  subst hg
  have hpl : e.platform.magicAccessors = ({} : Platform).magicAccessors := by rw [X.admits.platform]
  obtain ⟨mk, methM, cM, kP, vm₁, hnamed, hmethM, hcodeM, -, hlocalsM, -, hkP, -, hW₁, hstep₁⟩ := Steps.initColdArgsNest (e := e) X.here hexec X.warmed hpl hown hy1 hy hlink hinst hcode (f := g) rfl hlen hstack hdg
  have X₁ := X.noted hW₁
  rcases hK g.method meth c ⟨T.setVm vm₁, locs, cells, slots⟩ { g with stack := rest } (.invokespecial index) mk (Value.ref a :: argsL).toArray X₁ rfl hsize hdg hW (X₁.named hnamed) (hpre vm₁ X₁.warmed) with ⟨v, B, X', hpost, hsteps⟩ | ⟨q, B, X', hpost, hsteps⟩
  · exact Or.inl ⟨v, vm₁, B, X₁.warmed, X', hpost, fun target h => hstep₁ _ fun acts => by rw [doInvoke_state]; exact hsteps.trans h⟩
  · exact Or.inr ⟨q, vm₁, B, X₁.warmed, X', hpost, hstep₁ _ fun acts => by rw [doInvoke_state]; exact hsteps⟩
end VXIC
section VXID
variable {p : Program} {l : Launch} {e : Env} {R : Room} {s : State} {m : MethodId} {args : Array Value} {below : List Frame} {meth : Method} {c : Code} {H : Heap} {locs : List Loc} {cells slots : Nat}
theorem vx_runIN {y : MethodName} {bytes cc : ByteArray} {maxL nL mc ms n index : Nat} {ws : List Cond} {rm : Room} {Pc : Array Value → State → Prop} {Qc : Array Value → State → Outcome → State → Prop} {XC : String → State → State → Prop} {free : Addr → Prop} {Ts : List Cond} {own host : String} {b : Addr} {As rest : List Value} {g : JFrame}
    (S : CallFix p m c cc nL s args Ts own) (hM : vx_Met l y ws rm Pc Qc XC mc ms free) (cw : va_CN R s args own index y host bytes maxL none ws rm mc ms n ∧ y.name = "<init>" ∧ (Cond.instanceMethod y).before args s = true) (hp : PreS s H Pc (.ref b :: As))
    (hg : g.method = m) (hn : As.length = n) (hsize : g.locals.size = nL) (hstack : g.stack = As.reverse ++ .ref b :: rest) (hW : 2 * g.monitorRoom + (rest.map fun v => v.category).sum ≤ 8) (hdg : decode cc g.pc = .ok (.invokespecial index, 3)) (hf : cells + mc ≤ R.cells ∧ slots + ms ≤ R.slots) :
    vx_Run p l e R s m args below meth c H locs cells slots mc ms g rest (Qc (Value.ref b :: As).toArray) XC free := by
  obtain ⟨⟨⟨hrc, hrs, hfr, hlo, hws, hcw⟩, hcode, hini, hy, hlen, hl⟩, hx1, hx2⟩ := cw
  have hK : vx_Back l R p e below s args y 3 8 (PreOf R mc ms Pc) (PostOf Qc mc ms free) (vx_Post XC mc ms free) := vx_back (bytes := bytes) (maxL := maxL) (ret := none) hM hp.1 hrc hrs hfr hlo hws hcw (fun a' U hW => word_at hW (Or.inl (by first | rfl | simp [Cond.onTables, Cond.keeps, Cond.steady])) hini)
  obtain ⟨hx, hb, hml, ho, -⟩ := S
  have hPc := hp.2
  intro T hT X
  rcases vx_callIN X hx (bytes := bytes) (maxL := maxL) ho hx1 hl hx2 hcode hy hK hg (hsize.trans hml.symm) (a := b) (argsL := As) (rest := rest) (fun sig h => hn.trans (hlen sig h)) hstack hW (by rw [hb]; exact hdg)
    (fun vm₁ hW₁ => ⟨hf.1, hf.2, hPc (T.setVm vm₁) hT hW₁⟩) with ⟨v, vm₁, ⟨U', l2, c2, s2⟩, hW₁, X', ⟨g', mk, t, L, e1, e2, hq, h1, hL, h2, h3⟩, st⟩ | ⟨q, vm₁, ⟨U', l2, c2, s2⟩, hW₁, X', ⟨g', mk, t, L, E, ce, e1, e2, hq, hce, hcv, hcl, h1, hL, h2, h3⟩, st⟩
  · dsimp only [Pt.U, Pt.locs, Pt.cells, Pt.slots] at X' e1 e2 h1 h2 h3 st
    subst h1; subst h2; subst h3
    exact Or.inl ⟨v, (T.setVm vm₁).calling g' mk (Value.ref b :: As).toArray, t, U', L, hT, X', hL, e1, e2, hq, st⟩
  · dsimp only [Pt.U, Pt.locs, Pt.cells, Pt.slots] at X' e1 e2 h1 h2 h3 st hcl
    subst h1; subst h2; subst h3
    exact Or.inr ⟨q, (T.setVm vm₁).calling g' mk (Value.ref b :: As).toArray, t, U', L, E, ce, hT, X', hL, e1, e2, hq, hce, hcv, vx_cls hW₁ hcl, st⟩
end VXID
/-! ===== END ===== -/
/-! ===== BEGIN a private method of a nest mate that may throw (follows va_callVN, va_callSN, va_runVN, va_runSN) ===== -/
section
variable {p : Program} {l : Launch} {e : Env} {R : Room} {s : State} {m : MethodId} {args : Array Value} {below : List Frame} {meth : Method} {c : Code} {H : Heap} {locs : List Loc} {cells slots : Nat}
variable {T : State}
theorem vx_callVN (X : Stand p l e R s m args below meth c T locs cells slots) (hexec : p.tables.exec = Jvm.exec) {own C : String} {index : Nat} {host : String} {y : MethodName} {bytes : ByteArray} {maxL : Nat} {ret : Option FieldType}
    (hown : s.vm.findClass own = some m.cls) (hlink : (Cond.methodLinkNest own index y host).before args s = true) (hinst : (Cond.instanceMethod y).before args s = true) (hsel : (Cond.selects C y y).before args s = true)
    (hcode : (Cond.code y bytes maxL ret).before args s = true) (hy : y.cls ≠ "java/lang/invoke/MethodHandle" ∧ y.cls ≠ "java/lang/invoke/VarHandle")
    {W : Nat} {Pre : Pt → Array Value → Prop} {Post : Pt → Array Value → Option Value → Pt → Prop} {PostX : Pt → Array Value → Addr → Pt → Prop} (hK : vx_Back l R p e below s args y 3 W Pre Post PostX)
    {b : Addr} {cellB : Cell} (hcell : T.heap[b]? = some cellB) (hobj : cellB.vm.isStatics = false) (hcls : s.vm.findClass C = some cellB.cls)
    {g : JFrame} (hg : g.method = m) (hsize : g.locals.size = c.maxLocals) {argsL rest : List Value} (hlen : ∀ sig, parseMethodDescriptor y.desc = some sig → argsL.length = sig.parameters.length)
    (hstack : g.stack = argsL.reverse ++ .ref b :: rest) (hW : 2 * g.monitorRoom + (rest.map fun v => v.category).sum ≤ W) (hdg : decode c.code g.pc = .ok (.invokevirtual index, 3))
    (hpre : ∀ vm₁, s.WarmedH vm₁ → Pre ⟨T.setVm vm₁, locs, cells, slots⟩ (Value.ref b :: argsL).toArray) :
    (∃ (v : Option Value) (vm₁ : Vm) (B : Pt), s.WarmedH vm₁ ∧ Stand p l e R s m args below meth c B.U B.locs B.cells B.slots ∧ Post ⟨T.setVm vm₁, locs, cells, slots⟩ (Value.ref b :: argsL).toArray v B ∧
      ∀ target, Steps p.tables e below (B.U.setTop { g with pc := g.pc + 3, stack := v.toList ++ rest }) target → Steps p.tables e below (T.setTop g) target) ∨
    (∃ (q : Addr) (vm₁ : Vm) (B : Pt), s.WarmedH vm₁ ∧ Stand p l e R s m args below meth c B.U B.locs B.cells B.slots ∧ PostX ⟨T.setVm vm₁, locs, cells, slots⟩ (Value.ref b :: argsL).toArray q B ∧
      Steps p.tables e below (T.setTop g) ((B.U.setTop { g with stack := rest }).pushFrame (.throwing q))) := by
  obtain ⟨mk, methM, hnamed, hmethM, hstM, habM⟩ := Cond.instanceMethod_spec hinst
  obtain ⟨methM', cM, hmethM', -, -, -, -, -, -, hsigM⟩ := Cond.code_spec hnamed hcode
  cases hmethM.symm.trans hmethM'
  obtain ⟨c2, r2, m2, q1, q2, q3, q4, kP, hkP, hkPi⟩ := Cond.selects_spec hsel
  cases hcls.symm.trans q1
  cases (State.methodFound?_of_named hnamed hy).symm.trans q2
  cases hnamed.symm.trans q3
  have hselP : selectMethod e.platform s.vm cellB.cls mk = .method mk := by rw [Launch.admits_selectMethod X.admits]; exact q4
  obtain ⟨vm₁, X₁, hstep₁⟩ := X.invokevirtualNest hexec hown hlink hnamed hmethM hstM hkP hkPi hy (a := b) (cell := cellB) hcell
    (fun z h => by rw [h] at hobj; cases hobj) hselP hmethM habM hkP hkPi (g := g) hg (argsL := argsL) (rest := rest) (hlen _ hsigM) hstack hdg
  rcases hK m meth c ⟨T.setVm vm₁, locs, cells, slots⟩ { g with stack := rest } (.invokevirtual index) mk (Value.ref b :: argsL).toArray X₁ hg hsize hdg hW (X₁.named hnamed) (hpre vm₁ X₁.warmed) with ⟨v, B, X', hpost, hsteps⟩ | ⟨q, B, X', hpost, hsteps⟩
  · exact Or.inl ⟨v, vm₁, B, X₁.warmed, X', hpost, fun target h => hstep₁ _ fun acts => by rw [doInvoke_state]; exact hsteps.trans h⟩
  · exact Or.inr ⟨q, vm₁, B, X₁.warmed, X', hpost, hstep₁ _ fun acts => by rw [doInvoke_state]; exact hsteps⟩
theorem vx_callSN (X : Stand p l e R s m args below meth c T locs cells slots) (hexec : p.tables.exec = Jvm.exec) {own : String} {index : Nat} {host : String} {y : MethodName} {bytes : ByteArray} {maxL : Nat} {ret : Option FieldType}
    (hown : s.vm.findClass own = some m.cls) (hlink : (Cond.methodLinkNest own index y host).before args s = true) (hstat : (Cond.static y).before args s = true) (hinit : (Cond.initialized y.cls).before args s = true)
    (hcode : (Cond.code y bytes maxL ret).before args s = true) (hy : y.cls ≠ "java/lang/invoke/MethodHandle" ∧ y.cls ≠ "java/lang/invoke/VarHandle")
    {W : Nat} {Pre : Pt → Array Value → Prop} {Post : Pt → Array Value → Option Value → Pt → Prop} {PostX : Pt → Array Value → Addr → Pt → Prop} (hK : vx_Back l R p e below s args y 3 W Pre Post PostX)
    {g : JFrame} (hg : g.method = m) (hsize : g.locals.size = c.maxLocals) {argsL rest : List Value} (hlen : ∀ sig, parseMethodDescriptor y.desc = some sig → argsL.length = sig.parameters.length)
    (hstack : g.stack = argsL.reverse ++ rest) (hW : 2 * g.monitorRoom + (rest.map fun v => v.category).sum ≤ W) (hdg : decode c.code g.pc = .ok (.invokestatic index, 3))
    (hpre : ∀ vm₁, s.WarmedH vm₁ → Pre ⟨T.setVm vm₁, locs, cells, slots⟩ argsL.toArray) :
    (∃ (v : Option Value) (vm₁ : Vm) (B : Pt), s.WarmedH vm₁ ∧ Stand p l e R s m args below meth c B.U B.locs B.cells B.slots ∧ Post ⟨T.setVm vm₁, locs, cells, slots⟩ argsL.toArray v B ∧
      ∀ target, Steps p.tables e below (B.U.setTop { g with pc := g.pc + 3, stack := v.toList ++ rest }) target → Steps p.tables e below (T.setTop g) target) ∨
    (∃ (q : Addr) (vm₁ : Vm) (B : Pt), s.WarmedH vm₁ ∧ Stand p l e R s m args below meth c B.U B.locs B.cells B.slots ∧ PostX ⟨T.setVm vm₁, locs, cells, slots⟩ argsL.toArray q B ∧
      Steps p.tables e below (T.setTop g) ((B.U.setTop { g with stack := rest }).pushFrame (.throwing q))) := by
  obtain ⟨mk, hnamed⟩ := Cond.code_named hcode
  obtain ⟨methM, cM, hmethM, -, -, -, -, -, -, hsigM⟩ := Cond.code_spec hnamed hcode
  have hstatic : methM.isStatic = true := Cond.static_spec hnamed hmethM hstat
  obtain ⟨kP, hkP, -⟩ := className_of_methodNamed hnamed
  have hinitP : kP.init = .initialized := Cond.initialized_spec (findClass_of_methodNamed hnamed) hkP hinit
  obtain ⟨vm₁, X₁, hstep₁⟩ := X.invokestaticNest hexec hown hlink hnamed hmethM hstatic hkP hinitP hy (g := g) hg (argsL := argsL) (rest := rest) (hlen _ hsigM) hstack hdg
  rcases hK m meth c ⟨T.setVm vm₁, locs, cells, slots⟩ { g with stack := rest } (.invokestatic index) mk argsL.toArray X₁ hg hsize hdg hW (X₁.named hnamed) (hpre vm₁ X₁.warmed) with ⟨v, B, X', hpost, hsteps⟩ | ⟨q, B, X', hpost, hsteps⟩
  · exact Or.inl ⟨v, vm₁, B, X₁.warmed, X', hpost, fun target h => hstep₁ _ fun acts => by rw [doInvoke_state]; exact hsteps.trans h⟩
  · exact Or.inr ⟨q, vm₁, B, X₁.warmed, X', hpost, hstep₁ _ fun acts => by rw [doInvoke_state]; exact hsteps⟩
theorem vx_runVN {y : MethodName} {bytes cc : ByteArray} {maxL nL mc ms n index : Nat} {ret : Option FieldType} {ws : List Cond} {rm : Room} {Pc : Array Value → State → Prop} {Qc : Array Value → State → Outcome → State → Prop} {XC : String → State → State → Prop} {free : Addr → Prop} {Ts : List Cond} {own C host : String} {b : Addr} {As rest : List Value} {g : JFrame}
    (S : CallFix p m c cc nL s args Ts own) (hM : vx_Met l y ws rm Pc Qc XC mc ms free) (cw : va_CN R s args own index y host bytes maxL ret ws rm mc ms n ∧ (Cond.instanceMethod y).before args s = true ∧ (Cond.selects C y y).before args s = true) (hp : PreV s H C b Pc As)
    (hg : g.method = m) (hn : As.length = n) (hsize : g.locals.size = nL) (hstack : g.stack = As.reverse ++ .ref b :: rest) (hW : 2 * g.monitorRoom + (rest.map fun v => v.category).sum ≤ 8) (hdg : decode cc g.pc = .ok (.invokevirtual index, 3)) (hf : cells + mc ≤ R.cells ∧ slots + ms ≤ R.slots) :
    vx_Run p l e R s m args below meth c H locs cells slots mc ms g rest (Qc (Value.ref b :: As).toArray) XC free := by
  obtain ⟨⟨⟨hrc, hrs, hfr, hlo, hws, hcw⟩, hcode, hini, hy, hlen, hl⟩, hx1, hx2⟩ := cw
  have hK : vx_Back l R p e below s args y 3 8 (PreOf R mc ms Pc) (PostOf Qc mc ms free) (vx_Post XC mc ms free) := vx_back (bytes := bytes) (maxL := maxL) (ret := ret) hM hp.1 hrc hrs hfr hlo hws hcw (fun a' U hW => word_at hW (Or.inl (by first | rfl | simp [Cond.onTables, Cond.keeps, Cond.steady])) hini)
  obtain ⟨hx, hb, hml, ho, -⟩ := S
  obtain ⟨-, ⟨cellB, hcB, hoB, hclB⟩, hPc⟩ := hp
  intro T hT X
  rcases vx_callVN X hx (C := C) (bytes := bytes) (maxL := maxL) (ret := ret) ho hl hx1 hx2 hcode hy hK (by rw [hT]; exact hcB) hoB hclB hg (hsize.trans hml.symm) (argsL := As) (rest := rest) (fun sig h => hn.trans (hlen sig h)) hstack hW (by rw [hb]; exact hdg)
    (fun vm₁ hW₁ => ⟨hf.1, hf.2, hPc (T.setVm vm₁) hT hW₁⟩) with ⟨v, vm₁, ⟨U', l2, c2, s2⟩, hW₁, X', ⟨g', mk, t, L, e1, e2, hq, h1, hL, h2, h3⟩, st⟩ | ⟨q, vm₁, ⟨U', l2, c2, s2⟩, hW₁, X', ⟨g', mk, t, L, E, ce, e1, e2, hq, hce, hcv, hcl, h1, hL, h2, h3⟩, st⟩
  · dsimp only [Pt.U, Pt.locs, Pt.cells, Pt.slots] at X' e1 e2 h1 h2 h3 st
    subst h1; subst h2; subst h3
    exact Or.inl ⟨v, (T.setVm vm₁).calling g' mk (Value.ref b :: As).toArray, t, U', L, hT, X', hL, e1, e2, hq, st⟩
  · dsimp only [Pt.U, Pt.locs, Pt.cells, Pt.slots] at X' e1 e2 h1 h2 h3 st hcl
    subst h1; subst h2; subst h3
    exact Or.inr ⟨q, (T.setVm vm₁).calling g' mk (Value.ref b :: As).toArray, t, U', L, E, ce, hT, X', hL, e1, e2, hq, hce, hcv, vx_cls hW₁ hcl, st⟩
theorem vx_runSN {y : MethodName} {bytes cc : ByteArray} {maxL nL mc ms n index : Nat} {ret : Option FieldType} {ws : List Cond} {rm : Room} {Pc : Array Value → State → Prop} {Qc : Array Value → State → Outcome → State → Prop} {XC : String → State → State → Prop} {free : Addr → Prop} {Ts : List Cond} {own host : String} {As rest : List Value} {g : JFrame}
    (S : CallFix p m c cc nL s args Ts own) (hM : vx_Met l y ws rm Pc Qc XC mc ms free) (cw : va_CN R s args own index y host bytes maxL ret ws rm mc ms n ∧ (Cond.static y).before args s = true ∧ True) (hp : PreS s H Pc As)
    (hg : g.method = m) (hn : As.length = n) (hsize : g.locals.size = nL) (hstack : g.stack = As.reverse ++ rest) (hW : 2 * g.monitorRoom + (rest.map fun v => v.category).sum ≤ 8) (hdg : decode cc g.pc = .ok (.invokestatic index, 3)) (hf : cells + mc ≤ R.cells ∧ slots + ms ≤ R.slots) :
    vx_Run p l e R s m args below meth c H locs cells slots mc ms g rest (Qc As.toArray) XC free := by
  obtain ⟨⟨⟨hrc, hrs, hfr, hlo, hws, hcw⟩, hcode, hini, hy, hlen, hl⟩, hx1, hx2⟩ := cw
  have hK : vx_Back l R p e below s args y 3 8 (PreOf R mc ms Pc) (PostOf Qc mc ms free) (vx_Post XC mc ms free) := vx_back (bytes := bytes) (maxL := maxL) (ret := ret) hM hp.1 hrc hrs hfr hlo hws hcw (fun a' U hW => word_at hW (Or.inl (by first | rfl | simp [Cond.onTables, Cond.keeps, Cond.steady])) hini)
  obtain ⟨hx, hb, hml, ho, -⟩ := S
  have hPc := hp.2
  intro T hT X
  rcases vx_callSN X hx (bytes := bytes) (maxL := maxL) (ret := ret) ho hl hx1 hini hcode hy hK hg (hsize.trans hml.symm) (argsL := As) (rest := rest) (fun sig h => hn.trans (hlen sig h)) hstack hW (by rw [hb]; exact hdg)
    (fun vm₁ hW₁ => ⟨hf.1, hf.2, hPc (T.setVm vm₁) hT hW₁⟩) with ⟨v, vm₁, ⟨U', l2, c2, s2⟩, hW₁, X', ⟨g', mk, t, L, e1, e2, hq, h1, hL, h2, h3⟩, st⟩ | ⟨q, vm₁, ⟨U', l2, c2, s2⟩, hW₁, X', ⟨g', mk, t, L, E, ce, e1, e2, hq, hce, hcv, hcl, h1, hL, h2, h3⟩, st⟩
  · dsimp only [Pt.U, Pt.locs, Pt.cells, Pt.slots] at X' e1 e2 h1 h2 h3 st
    subst h1; subst h2; subst h3
    exact Or.inl ⟨v, (T.setVm vm₁).calling g' mk As.toArray, t, U', L, hT, X', hL, e1, e2, hq, st⟩
  · dsimp only [Pt.U, Pt.locs, Pt.cells, Pt.slots] at X' e1 e2 h1 h2 h3 st hcl
    subst h1; subst h2; subst h3
    exact Or.inr ⟨q, (T.setVm vm₁).calling g' mk As.toArray, t, U', L, E, ce, hT, X', hL, e1, e2, hq, hce, hcv, vx_cls hW₁ hcl, st⟩
end
/-! ===== END ===== -/
end
section
/-! calls, returns, throws -/
section ZCALLS
variable {G : z_G} {Y : z_Mi} {d : Nat} {Z : z_Gq} {pc : Nat} {L : List (Option Value)} {st : List Value} {w : z_W} {k n : Nat}
variable {QR : Option Value → z_W → Prop} {QX : String → z_W → Prop}
theorem z_iret {v : Int32} (d0 : decode Y.2.1 pc = .ok (.ireturn, 1)) (hr : Y.2.2.2.1 = some .int) (hq : QR (some (.int v)) w) : z_E G Y d (z_mq G QR QX) pc L [.int v] w k n := by
  intro p e R s m args below meth c H locs cells slots ls mc ms C hR hS hL hd hk
  exact vx_ret (W.widen (k := mc) (n := ms) (by omega) (by omega) (W.iret C.1 C.2.1 (C.2.2.2.2.2.1.trans hr) (fun t ht hW => ⟨⟨_, w, rfl, hq, by rw [ht]; exact hR⟩, hS.F ht⟩) hS.2.2 d0 C.2.2.2.2.2.2.1))
theorem z_zret {v : Int32} (d0 : decode Y.2.1 pc = .ok (.ireturn, 1)) (hr : Y.2.2.2.1 = some .boolean) (hv : v = 0 ∨ v = 1) (hq : QR (some (.int v)) w) : z_E G Y d (z_mq G QR QX) pc L [.int v] w k n := by
  intro p e R s m args below meth c H locs cells slots ls mc ms C hR hS hL hd hk
  exact vx_ret (W.widen (k := mc) (n := ms) (by omega) (by omega) (W.zret C.1 C.2.1 (C.2.2.2.2.2.1.trans hr) (by rcases hv with rfl | rfl <;> rfl) (fun t ht hW => ⟨⟨_, w, rfl, hq, by rw [ht]; exact hR⟩, hS.F ht⟩) hS.2.2 d0 C.2.2.2.2.2.2.1))
theorem z_fret {v : UInt32} (d0 : decode Y.2.1 pc = .ok (.freturn, 1)) (hr : Y.2.2.2.1 = some .float) (hq : QR (some (.float v)) w) : z_E G Y d (z_mq G QR QX) pc L [.float v] w k n := by
  intro p e R s m args below meth c H locs cells slots ls mc ms C hR hS hL hd hk
  exact vx_ret (W.widen (k := mc) (n := ms) (by omega) (by omega) (W.fret C.1 C.2.1 (C.2.2.2.2.2.1.trans hr) (fun t ht hW => ⟨⟨_, w, rfl, hq, by rw [ht]; exact hR⟩, hS.F ht⟩) hS.2.2 d0 C.2.2.2.2.2.2.1))
theorem z_aret {v : Value} {cn : String} (d0 : decode Y.2.1 pc = .ok (.areturn, 1)) (hr : Y.2.2.2.1 = some (.object cn)) (hv : z_isr v = true) (hq : QR (some v) w) : z_E G Y d (z_mq G QR QX) pc L [v] w k n := by
  intro p e R s m args below meth c H locs cells slots ls mc ms C hR hS hL hd hk
  exact vx_ret (W.widen (k := mc) (n := ms) (by omega) (by omega) (W.aret C.1 C.2.1 (C.2.2.2.2.2.1.trans hr) (Or.inl ⟨_, rfl⟩) (z_isr_or hv) (fun t ht hW => ⟨⟨_, w, rfl, hq, by rw [ht]; exact hR⟩, hS.F ht⟩) hS.2.2 d0 C.2.2.2.2.2.2.1))
theorem z_vret (d0 : decode Y.2.1 pc = .ok (.return_, 1)) (hr : Y.2.2.2.1 = none) (hq : QR none w) : z_E G Y d (z_mq G QR QX) pc L [] w k n := by
  intro p e R s m args below meth c H locs cells slots ls mc ms C hR hS hL hd hk
  exact vx_ret (W.widen (k := mc) (n := ms) (by omega) (by omega) (W.vret C.1 C.2.1 (C.2.2.2.2.2.1.trans hr) (fun t ht hW => ⟨⟨_, w, rfl, hq, by rw [ht]; exact hR⟩, hS.F ht⟩) hS.2.2 d0 C.2.2.2.2.2.2.1))
/-- a call's run, to the caller's next step or to the exception over it -/
theorem z_run {p : Program} {e : Env} {R : Room} {s : State} {m : MethodId} {args a : Array Value} {below : List Frame} {meth : Method} {c : Code} {H : Heap} {locs : List Loc} {cells slots k' n' : Nat} {ls : Array Slot} {st0 rest : List Value} {Q : State → Prop}
    (hr : vx_Run p G.2.2.2.1 e R s m args below meth c H locs cells slots k' n' (F0 m pc ls st0) rest (z_Qc G QR a) (z_XC G QX) (z_A G)) (hS : va_S (z_A G) s.heap H locs)
    (kx : ∀ (E : String) (w' : z_W) (q : Addr) (ce : Cell) (H1 : Heap) (locs1 : List Loc), QX E w' → z_R G w' H1 → va_S (z_A G) s.heap H1 locs1 → H1[q]? = some ce → ce.vm = .none → s.vm.findClass E = some ce.cls → vx_W p G.2.2.2.1 e R s m args below meth c H1 locs1 (cells + k') (slots + n') Q (F0 m pc ls rest) q)
    (kk : ∀ (v : Option Value) (w' : z_W) (H1 : Heap) (locs1 : List Loc), QR v w' → z_R G w' H1 → va_S (z_A G) s.heap H1 locs1 → W p G.2.2.2.1 e R s m args below meth c H1 locs1 (cells + k') (slots + n') Q (F0 m (pc + 3) ls (v.toList ++ rest))) : W p G.2.2.2.1 e R s m args below meth c H locs cells slots Q (F0 m pc ls st0) := by
  intro T hT X
  rcases hr T hT X with ⟨v, st₀, t, T', L, h0, X', hL, e1, e2, ⟨⟨v', w', hv, hp, hb⟩, hF⟩, st⟩ | ⟨q, st₀, t, T', L, E, ce, h0, X', hL, e1, e2, ⟨⟨w', hp, hb⟩, hF⟩, hce, hcv, hcl, st⟩
  · cases hv
    obtain ⟨k1, k2, k3⟩ := vx_keep h0 e1 hS (fun _ _ h => h) (fun _ h => h) hL hF
    obtain ⟨t2, a1, b1⟩ := kk v w' T'.heap (locs ++ L) hp (by rw [e1]; exact hb) k3 T' rfl X'
    exact ⟨t2, st t2 a1, b1⟩
  · obtain ⟨k1, k2, k3⟩ := vx_keep h0 e1 hS (fun _ _ h => h) (fun _ h => h) hL hF
    obtain ⟨t2, a1, b1⟩ := kx E w' q ce T'.heap (locs ++ L) hp (by rw [e1]; exact hb) k3 (by rw [e1]; exact hce) hcv hcl T' rfl X'
    exact ⟨t2, st.trans a1, b1⟩
theorem z_blind {av : List Value} {w : z_W} : FrameBlind (va_Pc av (z_U G w)) := fun a U g mk h => ⟨h.1, h.2.1, z_F.same (s := U) rfl rfl h.2.2⟩
/-- what a method's name tells: n arguments, its locals -/
def z_ok (Y' : z_Mi) (j : Nat) : Prop := Y'.1.cls ≠ "java/lang/invoke/MethodHandle" ∧ Y'.1.cls ≠ "java/lang/invoke/VarHandle" ∧ (parseMethodDescriptor Y'.1.desc).map (fun d => d.parameters.length) = some j ∧ Y'.2.2.1 ≤ 14
/-- the words of a call -/
def z_cV (own : String) (idx : Nat) (Y' : z_Mi) : Prop := Cond.methodLink own idx Y'.1 ∈ z_T ∧ Cond.instanceMethod Y'.1 ∈ z_T ∧ Cond.selects Y'.1.cls Y'.1 Y'.1 ∈ z_T ∧ Cond.initialized Y'.1.cls ∈ z_T ∧ Cond.code Y'.1 Y'.2.1 Y'.2.2.1 Y'.2.2.2.1 ∈ z_T
def z_cS (own : String) (idx : Nat) (Y' : z_Mi) : Prop := Cond.methodLink own idx Y'.1 ∈ z_T ∧ Cond.static Y'.1 ∈ z_T ∧ Cond.initialized Y'.1.cls ∈ z_T ∧ Cond.code Y'.1 Y'.2.1 Y'.2.2.1 Y'.2.2.2.1 ∈ z_T
def z_cI (own : String) (idx : Nat) (Y' : z_Mi) : Prop := Cond.methodLink own idx Y'.1 ∈ z_T ∧ Cond.instanceMethod Y'.1 ∈ z_T ∧ Cond.initialized Y'.1.cls ∈ z_T ∧ Cond.code Y'.1 Y'.2.1 Y'.2.2.1 none ∈ z_T ∧ Y'.1.name = "<init>" ∧ Y'.2.2.2.1 = none
def z_cSN (own : String) (idx : Nat) (Y' : z_Mi) : Prop := (∃ host, (own, idx, Y'.1, host) ∈ z_nestN) ∧ Cond.static Y'.1 ∈ z_T ∧ Cond.initialized Y'.1.cls ∈ z_T ∧ Cond.code Y'.1 Y'.2.1 Y'.2.2.1 Y'.2.2.2.1 ∈ z_T
def z_cIN (own : String) (idx : Nat) (Y' : z_Mi) : Prop := (∃ host, (own, idx, Y'.1, host) ∈ z_nestN) ∧ Cond.instanceMethod Y'.1 ∈ z_T ∧ Cond.initialized Y'.1.cls ∈ z_T ∧ Cond.code Y'.1 Y'.2.1 Y'.2.2.1 none ∈ z_T ∧ Y'.1.name = "<init>" ∧ Y'.2.2.2.1 = none
theorem z_goodws {Y' : z_Mi} (h : Cond.code Y'.1 Y'.2.1 Y'.2.2.1 Y'.2.2.2.1 ∈ z_T) : GoodIn z_T (z_ws Y') := by
  intro w hw
  rcases List.mem_cons.mp hw with rfl | hw
  · exact ⟨h, z_Tgood h⟩
  · exact ⟨hw, z_Tgood hw⟩
theorem z_room {Y' : z_Mi} {d' d : Nat} {R : Room} (hd : d ≤ R.frames ∧ z_lb d ≤ R.locals) (h1 : d' + 1 ≤ d) (h2 : Y'.2.2.1 ≤ 14) {k' n' : Nat} : (z_rm d' k' n').frames + 1 ≤ R.frames ∧ 8 + (Y'.2.2.1 + 11) + (z_rm d' k' n').locals ≤ R.locals := by
  have a : 33 * d ≤ R.locals := hd.2
  refine ⟨Nat.le_trans h1 hd.1, ?_⟩
  show 8 + (Y'.2.2.1 + 11) + 33 * d' ≤ R.locals
  omega
theorem z_preS {p : Program} {s : State} {m : MethodId} {args : Array Value} {meth : Method} {c : Code} {H : Heap} {locs : List Loc} {As : List Value} (C : z_Cx G Y p s m args meth c) (hR : z_R G w H) (hS : va_S (z_A G) s.heap H locs) : PreS s H (va_Pc As (z_U G w)) As :=
  ⟨z_blind, fun U hU hW => ⟨rfl, by rw [hU]; exact hR, z_F.next C.2.2.2.2.2.2.2.2.2 hW hU hS⟩⟩
section
variable {Y' : z_Mi} {d' k' n' idx j : Nat} {As rest : List Value} {QR' : Option Value → z_W → Prop} {QX' : String → z_W → Prop}
theorem z_callV {b ci : Nat} {q : vw_C} {fs : List Value} (hM : z_M G Y' d' (.ref b :: As) w k' n' QR' QX') (d0 : decode Y.2.1 pc = .ok (.invokevirtual idx, 3)) (hw : z_cV Y.1.cls idx Y') (ho : z_ok Y' j) (hn : As.length = j) (hb : w b = some (.inr (ci, fs))) (hc : vwCl[ci]? = some q) (hq : q.1 = Y'.1.cls) (hdd : d' + 1 ≤ d) (hst : st = As.reverse ++ .ref b :: rest) (hre : (rest.map fun v => v.category).sum ≤ 8) (hk1 : k' ≤ k) (hn1 : n' ≤ n)
    (kx : ∀ E w', QX' E w' → z_X G Y d Z E pc L w' (k - k') (n - n')) (kk : ∀ v w', QR' v w' → z_E G Y d Z (pc + 3) L (v.toList ++ rest) w' (k - k') (n - n')) : z_E G Y d Z pc L st w k n := by
  intro p e R s m args below meth c H locs cells slots ls mc ms C hR hS hL hd hk
  obtain ⟨hP1, -⟩ := hR.one hb
  have hrc := va_recv C.2.2.2.2.2.2.2.2.2.1 hP1 hc (q0 := 0) rfl
  rw [hq] at hrc
  refine z_run (vx_runV (As := As) (rest := rest) ⟨C.1, C.2.1, C.2.2.1, C.2.2.2.1, C.2.2.2.2.1⟩ hM (cwV (C := Y'.1.cls) j C.2.2.2.2.1 (fun w hw2 => ?_) rfl rfl rfl ⟨rfl, ho.1, ho.2.1, ho.2.2.1⟩ (z_room hd hdd ho.2.2.2)) ⟨z_blind, hrc, fun U hU hW => ⟨rfl, by rw [hU]; exact hR, z_F.next C.2.2.2.2.2.2.2.2.2 hW hU hS⟩⟩ rfl hn hL.2.1 hst (lv_room hre) d0 ⟨by omega, by omega⟩) hS (fun E w' q ce H1 locs1 hX hR1 hS1 h1 h2 h3 => ?_) (fun v w' H1 locs1 hQ hR1 hS1 => ?_)
  · rcases List.mem_append.mp hw2 with h | h
    · have h4 : w = .methodLink Y.1.cls idx Y'.1 ∨ w = .instanceMethod Y'.1 ∨ w = .selects Y'.1.cls Y'.1 Y'.1 ∨ w = .initialized Y'.1.cls := by simpa using h
      rcases h4 with rfl | rfl | rfl | rfl
      · exact ⟨hw.1, z_Tgood hw.1⟩
      · exact ⟨hw.2.1, z_Tgood hw.2.1⟩
      · exact ⟨hw.2.2.1, z_Tgood hw.2.2.1⟩
      · exact ⟨hw.2.2.2.1, z_Tgood hw.2.2.2.1⟩
    · exact z_goodws hw.2.2.2.2 w h
  · exact kx E w' hX p e R s m args below meth c H1 locs1 (cells + k') (slots + n') ls mc ms rest q ce C hR1 hS1 hL hd ⟨by omega, by omega, hk.2.2⟩ h1 h2 h3
  · exact kk v w' hQ p e R s m args below meth c H1 locs1 (cells + k') (slots + n') ls mc ms C hR1 hS1 hL hd ⟨by omega, by omega, hk.2.2⟩
theorem z_callS (hM : z_M G Y' d' As w k' n' QR' QX') (d0 : decode Y.2.1 pc = .ok (.invokestatic idx, 3)) (hw : z_cS Y.1.cls idx Y') (ho : z_ok Y' j) (hn : As.length = j) (hdd : d' + 1 ≤ d) (hst : st = As.reverse ++ rest) (hre : (rest.map fun v => v.category).sum ≤ 8) (hk1 : k' ≤ k) (hn1 : n' ≤ n)
    (kx : ∀ E w', QX' E w' → z_X G Y d Z E pc L w' (k - k') (n - n')) (kk : ∀ v w', QR' v w' → z_E G Y d Z (pc + 3) L (v.toList ++ rest) w' (k - k') (n - n')) : z_E G Y d Z pc L st w k n := by
  intro p e R s m args below meth c H locs cells slots ls mc ms C hR hS hL hd hk
  refine z_run (vx_runS (As := As) (rest := rest) ⟨C.1, C.2.1, C.2.2.1, C.2.2.2.1, C.2.2.2.2.1⟩ hM (va_cwS j C.2.2.2.2.1 (fun w hw2 => ?_) rfl rfl rfl ⟨ho.1, ho.2.1, ho.2.2.1⟩ (z_room hd hdd ho.2.2.2)) (z_preS C hR hS) rfl hn hL.2.1 hst (lv_room hre) d0 ⟨by omega, by omega⟩) hS (fun E w' q ce H1 locs1 hX hR1 hS1 h1 h2 h3 => ?_) (fun v w' H1 locs1 hQ hR1 hS1 => ?_)
  · rcases List.mem_append.mp hw2 with h | h
    · have h4 : w = .methodLink Y.1.cls idx Y'.1 ∨ w = .static Y'.1 ∨ w = .initialized Y'.1.cls := by simpa using h
      rcases h4 with rfl | rfl | rfl
      · exact ⟨hw.1, z_Tgood hw.1⟩
      · exact ⟨hw.2.1, z_Tgood hw.2.1⟩
      · exact ⟨hw.2.2.1, z_Tgood hw.2.2.1⟩
    · exact z_goodws hw.2.2.2 w h
  · exact kx E w' hX p e R s m args below meth c H1 locs1 (cells + k') (slots + n') ls mc ms rest q ce C hR1 hS1 hL hd ⟨by omega, by omega, hk.2.2⟩ h1 h2 h3
  · exact kk v w' hQ p e R s m args below meth c H1 locs1 (cells + k') (slots + n') ls mc ms C hR1 hS1 hL hd ⟨by omega, by omega, hk.2.2⟩
theorem z_callI {b : Nat} (hM : z_M G Y' d' (.ref b :: As) w k' n' QR' QX') (d0 : decode Y.2.1 pc = .ok (.invokespecial idx, 3)) (hw : z_cI Y.1.cls idx Y') (ho : z_ok Y' j) (hn : As.length = j) (hdd : d' + 1 ≤ d) (hst : st = As.reverse ++ .ref b :: rest) (hre : (rest.map fun v => v.category).sum ≤ 8) (hk1 : k' ≤ k) (hn1 : n' ≤ n)
    (kx : ∀ E w', QX' E w' → z_X G Y d Z E pc L w' (k - k') (n - n')) (kk : ∀ v w', QR' v w' → z_E G Y d Z (pc + 3) L (v.toList ++ rest) w' (k - k') (n - n')) : z_E G Y d Z pc L st w k n := by
  intro p e R s m args below meth c H locs cells slots ls mc ms C hR hS hL hd hk
  have hgw : GoodIn z_T (z_ws Y') := z_goodws (by rw [hw.2.2.2.2.2]; exact hw.2.2.2.1)
  refine z_run (vx_runI (As := As) (rest := rest) ⟨C.1, C.2.1, C.2.2.1, C.2.2.2.1, C.2.2.2.2.1⟩ hM (cwI (ws' := z_T) j C.2.2.2.2.1 hgw (by rw [← hw.2.2.2.2.2]; rfl) rfl rfl (C.2.2.2.2.1 _ hw.2.2.1) (C.2.2.2.2.1 _ hw.1) (C.2.2.2.2.1 _ hw.2.1) hw.2.2.2.2.1 ⟨ho.1, ho.2.1, ho.2.2.1⟩ (z_room hd hdd ho.2.2.2)) (z_preS C hR hS) rfl hn hL.2.1 hst (lv_room hre) d0 ⟨by omega, by omega⟩) hS (fun E w' q ce H1 locs1 hX hR1 hS1 h1 h2 h3 => ?_) (fun v w' H1 locs1 hQ hR1 hS1 => ?_)
  · exact kx E w' hX p e R s m args below meth c H1 locs1 (cells + k') (slots + n') ls mc ms rest q ce C hR1 hS1 hL hd ⟨by omega, by omega, hk.2.2⟩ h1 h2 h3
  · exact kk v w' hQ p e R s m args below meth c H1 locs1 (cells + k') (slots + n') ls mc ms C hR1 hS1 hL hd ⟨by omega, by omega, hk.2.2⟩
theorem z_callSN (hM : z_M G Y' d' As w k' n' QR' QX') (d0 : decode Y.2.1 pc = .ok (.invokestatic idx, 3)) (hw : z_cSN Y.1.cls idx Y') (ho : z_ok Y' j) (hn : As.length = j) (hdd : d' + 1 ≤ d) (hst : st = As.reverse ++ rest) (hre : (rest.map fun v => v.category).sum ≤ 8) (hk1 : k' ≤ k) (hn1 : n' ≤ n)
    (kx : ∀ E w', QX' E w' → z_X G Y d Z E pc L w' (k - k') (n - n')) (kk : ∀ v w', QR' v w' → z_E G Y d Z (pc + 3) L (v.toList ++ rest) w' (k - k') (n - n')) : z_E G Y d Z pc L st w k n := by
  intro p e R s m args below meth c H locs cells slots ls mc ms C hR hS hL hd hk
  obtain ⟨⟨host, hh⟩, h2, h3, h4⟩ := hw
  refine z_run (vx_runSN (host := host) (As := As) (rest := rest) ⟨C.1, C.2.1, C.2.2.1, C.2.2.2.1, C.2.2.2.2.1⟩ hM ⟨va_cnB j C.2.2.2.2.1 (z_goodws h4) rfl rfl rfl (C.2.2.2.2.2.2.2.2.2.2.1 _ hh) (C.2.2.2.2.1 _ h3) ⟨ho.1, ho.2.1, ho.2.2.1⟩ (z_room hd hdd ho.2.2.2), C.2.2.2.2.1 _ h2, trivial⟩ (z_preS C hR hS) rfl hn hL.2.1 hst (lv_room hre) d0 ⟨by omega, by omega⟩) hS (fun E w' q ce H1 locs1 hX hR1 hS1 h1 h2 h3 => ?_) (fun v w' H1 locs1 hQ hR1 hS1 => ?_)
  · exact kx E w' hX p e R s m args below meth c H1 locs1 (cells + k') (slots + n') ls mc ms rest q ce C hR1 hS1 hL hd ⟨by omega, by omega, hk.2.2⟩ h1 h2 h3
  · exact kk v w' hQ p e R s m args below meth c H1 locs1 (cells + k') (slots + n') ls mc ms C hR1 hS1 hL hd ⟨by omega, by omega, hk.2.2⟩
theorem z_callIN {b : Nat} (hM : z_M G Y' d' (.ref b :: As) w k' n' QR' QX') (d0 : decode Y.2.1 pc = .ok (.invokespecial idx, 3)) (hw : z_cIN Y.1.cls idx Y') (ho : z_ok Y' j) (hn : As.length = j) (hdd : d' + 1 ≤ d) (hst : st = As.reverse ++ .ref b :: rest) (hre : (rest.map fun v => v.category).sum ≤ 8) (hk1 : k' ≤ k) (hn1 : n' ≤ n)
    (kx : ∀ E w', QX' E w' → z_X G Y d Z E pc L w' (k - k') (n - n')) (kk : ∀ v w', QR' v w' → z_E G Y d Z (pc + 3) L (v.toList ++ rest) w' (k - k') (n - n')) : z_E G Y d Z pc L st w k n := by
  intro p e R s m args below meth c H locs cells slots ls mc ms C hR hS hL hd hk
  obtain ⟨⟨host, hh⟩, h2, h3, h4, h5, h6⟩ := hw
  have hgw : GoodIn z_T (z_ws Y') := z_goodws (by rw [h6]; exact h4)
  refine z_run (vx_runIN (host := host) (As := As) (rest := rest) ⟨C.1, C.2.1, C.2.2.1, C.2.2.2.1, C.2.2.2.2.1⟩ hM ⟨va_cnB (ws' := z_T) j C.2.2.2.2.1 hgw (by rw [← h6]; rfl) rfl rfl (C.2.2.2.2.2.2.2.2.2.2.1 _ hh) (C.2.2.2.2.1 _ h3) ⟨ho.1, ho.2.1, ho.2.2.1⟩ (z_room hd hdd ho.2.2.2), h5, C.2.2.2.2.1 _ h2⟩ (z_preS C hR hS) rfl hn hL.2.1 hst (lv_room hre) d0 ⟨by omega, by omega⟩) hS (fun E w' q ce H1 locs1 hX hR1 hS1 h1 h2 h3 => ?_) (fun v w' H1 locs1 hQ hR1 hS1 => ?_)
  · exact kx E w' hX p e R s m args below meth c H1 locs1 (cells + k') (slots + n') ls mc ms rest q ce C hR1 hS1 hL hd ⟨by omega, by omega, hk.2.2⟩ h1 h2 h3
  · exact kk v w' hQ p e R s m args below meth c H1 locs1 (cells + k') (slots + n') ls mc ms C hR1 hS1 hL hd ⟨by omega, by omega, hk.2.2⟩
end
/-- not caught here: it goes on to the caller -/
theorem z_Xout {E : String} (hh : Y.2.2.2.2 = []) (hq : QX E w) : z_X G Y d (z_mq G QR QX) E pc L w k n := by
  intro p e R s m args below meth c H locs cells slots ls mc ms rest q ce C hR hS hL hd hk h1 h2 h3
  have hT : c.exceptionTable.toList = [] := by rw [C.2.2.2.2.2.2.2.2.1, hh]; rfl
  exact vx_out (fun x hx => by rw [hT] at hx; cases hx) C.2.2.2.2.2.2.1 h1 h2 h3 (fun t ht _ => ⟨⟨w, hq, by rw [ht]; exact hR⟩, hS.F ht⟩) hS.2.2 (by omega) (by omega)
theorem z_R.kept {H H1 : Heap} (h : z_R G w H) (h2 : H.size ≤ H1.size) (h3 : ∀ q : Nat, q < H.size → H1[q]? = H[q]?) : z_R G w H1 := by
  obtain ⟨ws, hP, hD, hw⟩ := h
  exact ⟨ws, hP.kept (fun k q hk => h3 q.1 (vx_lt hP hk)), hD, hw⟩
/-- the words of 'throw new cls(text)' in the class RX5 -/
def z_thr (ik ic : Nat) (cls : String) : Prop := Bundle.fit cls = true ∧ Cond.classLink RX5 ik cls ∈ z_T ∧ Cond.initialized cls ∈ z_T ∧ cls ∈ z_castN ∧ (∀ w ∈ (vx_atS RX5 ic cls ["java/lang/RuntimeException", "java/lang/Exception"]).filter goodWord, w ∈ z_T) ∧ (∀ w ∈ (vx_atS RX5 ic cls ["java/lang/RuntimeException", "java/lang/Exception"]).filter (fun w => !goodWord w), w ∈ Cond.castable cls cls :: z_declN.map Cond.declares) ∧ (∀ w ∈ Cond.classLink RX5 ik cls :: Cond.initialized cls :: vx_atS RX5 ic cls ["java/lang/RuntimeException", "java/lang/Exception"], vx_ot w = true)
theorem z_throw {ik ic is : Nat} {cls text : String} (hY : Y.1.cls = RX5) (hh : Y.2.2.2.2 = []) (ht : z_thr ik ic cls) (hs : (RX5, is, text) ∈ z_strs) (hdd : 6 ≤ d) (hst : (st.map fun v => v.category).sum ≤ 8) (hk1 : 1 ≤ k) (hn1 : 6 ≤ n)
    (d0 : decode Y.2.1 pc = .ok (.new ik, 3)) (d3 : decode Y.2.1 (pc + 3) = .ok (.dup, 1)) (d4 : decode Y.2.1 (pc + 4) = .ok (.ldc is, 2)) (d6 : decode Y.2.1 (pc + 6) = .ok (.invokespecial ic, 3)) (d9 : decode Y.2.1 (pc + 9) = .ok (.athrow, 1)) (hq : QX cls w) : z_E G Y d (z_mq G QR QX) pc L st w k n := by
  intro p e R s m args below meth c H locs cells slots ls mc ms C hR hS hL hd hk
  obtain ⟨t1, t2, t3, t4, t5, t6, t7⟩ := ht
  obtain ⟨F1, F2, F3, F4, F5, F6, F7, F8, F9, F10, -⟩ := C.2.2.2.2.2.2.2.2.2
  have hT : c.exceptionTable.toList = [] := by rw [C.2.2.2.2.2.2.2.2.1, hh]; rfl
  obtain ⟨sa, hsa⟩ := F4 _ hs
  have hown : s.vm.findClass RX5 = some m.cls := hY ▸ C.2.2.2.1
  have hd2 : 33 * d ≤ R.locals := hd.2
  have hd1 : d ≤ R.frames := hd.1
  refine vx_throwS (names := ["java/lang/RuntimeException", "java/lang/Exception"]) (A := z_A G) C.1 C.2.1 F9 hown t1 (by decide +kernel) (C.2.2.2.2.1 _ t2) (C.2.2.2.2.1 _ t3) hsa (vx_hat (B := Cond.castable cls cls :: z_declN.map Cond.declares) (fun w hw => C.2.2.2.2.1 _ (t5 w hw)) t6 (fun w hw => ?_)) t7 F6 F7 hS (hL.2.1.trans C.2.2.1.symm) d0 d3 d4 d6 d9 (fun x hx => by rw [hT] at hx; cases hx) ?_ ?_ (by omega) (by omega) C.2.2.2.2.2.2.1 (fun t _ hz hkp => ⟨⟨w, hq, hR.kept hz hkp⟩, ?_⟩) hS.2.2 (by omega) (by omega)
  · rcases List.mem_cons.mp hw with rfl | hw
    · exact va_Nw.use rfl (F3 cls t4)
    · obtain ⟨y, hy, rfl⟩ := List.mem_map.mp hw
      exact va_Nw.use rfl (F10 y hy)
  · show 2 + 3 < R.frames
    omega
  · show _ + (13 * (2 + 1) + 43) ≤ R.locals
    omega
  · exact ⟨Nat.le_trans hS.1 hz, fun q h1 h2 => by rw [hkp q (Nat.lt_of_lt_of_le h1 hS.1)]; exact hS.2.1 q h1 h2⟩
end ZCALLS
end
section
/-! the program as data: methods, words of calls, fields, objects, throws (laid by a program) -/
abbrev zX5_init : z_Mi := (yX5_init, cX5_init, 1, none, [])
abbrev zX0_init : z_Mi := (yX0_init, cX0_init, 1, none, [])
abbrev zX2_init : z_Mi := (yX2_init, cX2_init, 1, none, [])
abbrev zX5_position : z_Mi := (yX5_position, cX5_position, 2, (some .int), [])
abbrev zX5_games : z_Mi := (yX5_games, cX5_games, 1, (some .int), [])
abbrev zX5_puzzles : z_Mi := (yX5_puzzles, cX5_puzzles, 1, (some .int), [])
abbrev zL_after : z_Mi := (yL_after, cL_after, 5, (some .int), [(0, 10, 13, 13)])
abbrev zX5_after : z_Mi := (yX5_after, cX5_after, 3, (some .int), [])
abbrev zX5_checkPosition : z_Mi := (yX5_checkPosition, cX5_checkPosition, 1, none, [])
abbrev zX5_checkMove : z_Mi := (yX5_checkMove, cX5_checkMove, 1, none, [])
abbrev zX5_positionAfter : z_Mi := (yX5_positionAfter, cX5_positionAfter, 2, (some .int), [])
abbrev zL_worth : z_Mi := (yL_worth, cL_worth, 4, (some .int), [(0, 9, 12, 13)])
abbrev zX5_worth : z_Mi := (yX5_worth, cX5_worth, 2, (some .int), [])
abbrev zX5_worthOf : z_Mi := (yX5_worthOf, cX5_worthOf, 1, (some .int), [])
abbrev zL_best : z_Mi := (yL_best, cL_best, 4, (some .int), [(0, 9, 12, 13)])
abbrev zX5_best : z_Mi := (yX5_best, cX5_best, 2, (some .int), [])
abbrev zX5_bestMove : z_Mi := (yX5_bestMove, cX5_bestMove, 3, (some .int), [])
abbrev zX5_worthAfter : z_Mi := (yX5_worthAfter, cX5_worthAfter, 2, (some .int), [])
abbrev zL_enter : z_Mi := (yL_enter, cL_enter, 3, (some .int), [(0, 8, 11, 26)])
abbrev zX5_enter : z_Mi := (yX5_enter, cX5_enter, 2, (some .int), [])
abbrev zX3_init : z_Mi := (yX3_init, cX3_init, 3, none, [])
abbrev zL_begin : z_Mi := (yL_begin, cL_begin, 5, (some .int), [(0, 10, 13, 31), (0, 10, 17, 13), (0, 10, 21, 26)])
abbrev zX5_begin : z_Mi := (yX5_begin, cX5_begin, 6, (some .int), [])
abbrev zX5_knownPlayer : z_Mi := (yX5_knownPlayer, cX5_knownPlayer, 3, (some (.object "ClubAcademy$Player")), [])
abbrev zX1_init : z_Mi := (yX1_init, cX1_init, 3, none, [])
abbrev zL_move : z_Mi := (yL_move, cL_move, 4, (some .int), [(0, 16, 19, 13), (0, 16, 22, 26)])
abbrev zX5_move : z_Mi := (yX5_move, cX5_move, 4, (some .boolean), [])
abbrev zX1_isFull : z_Mi := (yX1_isFull, cX1_isFull, 1, (some .boolean), [])
abbrev zX5_isBlunder : z_Mi := (yX5_isBlunder, cX5_isBlunder, 2, (some .boolean), [])
abbrev zX1_addMove : z_Mi := (yX1_addMove, cX1_addMove, 2, none, [])
abbrev zL_end : z_Mi := (yL_end, cL_end, 4, (some .int), [(0, 9, 12, 13), (0, 9, 15, 26)])
abbrev zX5_end : z_Mi := (yX5_end, cX5_end, 3, (some .int), [])
abbrev zX3_endGameAsWhite : z_Mi := (yX3_endGameAsWhite, cX3_endGameAsWhite, 3, none, [])
abbrev zX3_endGame : z_Mi := (yX3_endGame, cX3_endGame, 3, none, [])
abbrev zX3_endGameAsBlack : z_Mi := (yX3_endGameAsBlack, cX3_endGameAsBlack, 3, none, [])
abbrev zX0_keepResult : z_Mi := (yX0_keepResult, cX0_keepResult, 3, none, [])
abbrev zX0_addResult : z_Mi := (yX0_addResult, cX0_addResult, 5, none, [])
abbrev zX1_moveAt : z_Mi := (yX1_moveAt, cX1_moveAt, 2, (some .int), [])
abbrev zX2_madeWith : z_Mi := (yX2_madeWith, cX2_madeWith, 3, (some (.object "ClubAcademy$Line")), [])
abbrev zX0_dropBadLine : z_Mi := (yX0_dropBadLine, cX0_dropBadLine, 5, none, [])
abbrev zX2_goingOnWith : z_Mi := (yX2_goingOnWith, cX2_goingOnWith, 2, (some (.object "ClubAcademy$Line")), [])
abbrev zX2_doesBadly : z_Mi := (yX2_doesBadly, cX2_doesBadly, 3, (some .boolean), [])
abbrev zX5_makePuzzles : z_Mi := (yX5_makePuzzles, cX5_makePuzzles, 7, (some .int), [])
abbrev zX5_addPuzzle : z_Mi := (yX5_addPuzzle, cX5_addPuzzle, 4, (some .boolean), [])
abbrev zX5_hasPuzzleFor : z_Mi := (yX5_hasPuzzleFor, cX5_hasPuzzleFor, 6, (some .boolean), [])
abbrev zX4_init : z_Mi := (yX4_init, cX4_init, 3, none, [])
abbrev zL_score : z_Mi := (yL_score, cL_score, 4, (some .int), [(0, 9, 12, 31)])
abbrev zX5_score : z_Mi := (yX5_score, cX5_score, 2, (some .int), [])
abbrev zL_puzzle : z_Mi := (yL_puzzle, cL_puzzle, 4, (some .int), [(0, 9, 12, 31)])
abbrev zX5_puzzle : z_Mi := (yX5_puzzle, cX5_puzzle, 2, (some .int), [])
abbrev zX5_knownPuzzle : z_Mi := (yX5_knownPuzzle, cX5_knownPuzzle, 3, (some (.object "ClubAcademy$Puzzle")), [])
abbrev zL_source : z_Mi := (yL_source, cL_source, 4, (some .int), [(0, 9, 12, 31)])
abbrev zX5_source : z_Mi := (yX5_source, cX5_source, 2, (some .int), [])
abbrev zL_solve : z_Mi := (yL_solve, cL_solve, 6, (some .int), [(0, 19, 22, 31), (0, 19, 26, 13), (0, 19, 30, 26)])
abbrev zX5_solve : z_Mi := (yX5_solve, cX5_solve, 7, (some .boolean), [])
abbrev zX3_hasTried : z_Mi := (yX3_hasTried, cX3_hasTried, 2, (some .boolean), [])
abbrev zX3_markTried : z_Mi := (yX3_markTried, cX3_markTried, 2, none, [])
abbrev zX3_changeRating : z_Mi := (yX3_changeRating, cX3_changeRating, 3, none, [])
abbrev zX3_ratingBehindTry : z_Mi := (yX3_ratingBehindTry, cX3_ratingBehindTry, 4, (some .int), [])
abbrev zL_offered : z_Mi := (yL_offered, cL_offered, 4, (some .int), [(0, 9, 12, 31)])
abbrev zX5_offered : z_Mi := (yX5_offered, cX5_offered, 7, (some .int), [])
abbrev zX3_needsMore : z_Mi := (yX3_needsMore, cX3_needsMore, 5, (some .boolean), [])
abbrev zX3_ratingIn : z_Mi := (yX3_ratingIn, cX3_ratingIn, 2, (some .int), [])
abbrev zL_rating : z_Mi := (yL_rating, cL_rating, 5, (some .int), [(0, 10, 13, 31), (0, 10, 17, 13)])
abbrev zX5_rating : z_Mi := (yX5_rating, cX5_rating, 4, (some .int), [])
abbrev zL_results : z_Mi := (yL_results, cL_results, 5, (some .int), [(0, 10, 13, 13)])
abbrev zX5_results : z_Mi := (yX5_results, cX5_results, 4, (some .int), [])
abbrev zX5_checkLine : z_Mi := (yX5_checkLine, cX5_checkLine, 2, none, [])
abbrev zX0_find : z_Mi := (yX0_find, cX0_find, 5, (some (.object "ClubAcademy$Line")), [])
abbrev zX5_moveOfLine : z_Mi := (yX5_moveOfLine, cX5_moveOfLine, 2, (some .int), [])
abbrev zL_points : z_Mi := (yL_points, cL_points, 5, (some .int), [(0, 10, 13, 13)])
abbrev zX5_points : z_Mi := (yX5_points, cX5_points, 4, (some .int), [])
abbrev zL_isDropped : z_Mi := (yL_isDropped, cL_isDropped, 5, (some .int), [(0, 17, 20, 13)])
abbrev zX5_isDropped : z_Mi := (yX5_isDropped, cX5_isDropped, 3, (some .boolean), [])
abbrev zX0_holdsDropped : z_Mi := (yX0_holdsDropped, cX0_holdsDropped, 5, (some .boolean), [])
abbrev zL_pointsOfGames : z_Mi := (yL_pointsOfGames, cL_pointsOfGames, 5, (some .int), [(0, 10, 13, 13)])
abbrev zX5_pointsOfGames : z_Mi := (yX5_pointsOfGames, cX5_pointsOfGames, 8, (some .int), [])
abbrev zX1_beginsWith : z_Mi := (yX1_beginsWith, cX1_beginsWith, 4, (some .boolean), [])
abbrev zL_mean : z_Mi := (yL_mean, cL_mean, 5, (some .int), [(0, 10, 13, 13)])
abbrev zX5_mean : z_Mi := (yX5_mean, cX5_mean, 4, (some .float), [])
abbrev zL_opponent : z_Mi := (yL_opponent, cL_opponent, 4, (some .int), [(0, 9, 12, 31)])
abbrev zX5_opponent : z_Mi := (yX5_opponent, cX5_opponent, 4, (some .int), [])
abbrev zX5_pairPlayers : z_Mi := (yX5_pairPlayers, cX5_pairPlayers, 5, none, [])
abbrev zX5_firstUnpaired : z_Mi := (yX5_firstUnpaired, cX5_firstUnpaired, 6, (some (.object "ClubAcademy$Player")), [])
abbrev zX3_standsAheadOf : z_Mi := (yX3_standsAheadOf, cX3_standsAheadOf, 2, (some .boolean), [])
abbrev zX5_partnerFor : z_Mi := (yX5_partnerFor, cX5_partnerFor, 8, (some (.object "ClubAcademy$Player")), [])
abbrev zX3_hasMet : z_Mi := (yX3_hasMet, cX3_hasMet, 2, (some .boolean), [])
abbrev zL_hasWhite : z_Mi := (yL_hasWhite, cL_hasWhite, 4, (some .int), [(0, 16, 19, 31), (0, 16, 22, 26)])
abbrev zX5_hasWhite : z_Mi := (yX5_hasWhite, cX5_hasWhite, 4, (some .boolean), [])
abbrev zX3_colourBalance : z_Mi := (yX3_colourBalance, cX3_colourBalance, 1, (some .int), [])
abbrev zX6_init : z_Mi := (yX6_init, cX6_init, 1, none, [])
abbrev zX6_thrown : z_Mi := (yX6_thrown, cX6_thrown, 1, (some .int), [])
abbrev zX6_after : z_Mi := (yX6_after, cX6_after, 3, (some .int), [])
abbrev zX6_isPosition : z_Mi := (yX6_isPosition, cX6_isPosition, 1, (some .boolean), [])
abbrev zX6_in : z_Mi := (yX6_in, cX6_in, 3, (some .boolean), [])
abbrev zX6_isMove : z_Mi := (yX6_isMove, cX6_isMove, 1, (some .boolean), [])
abbrev zX6_goes : z_Mi := (yX6_goes, cX6_goes, 4, (some .boolean), [])
abbrev zX6_next : z_Mi := (yX6_next, cX6_next, 2, (some .int), [])
abbrev zX6_worth : z_Mi := (yX6_worth, cX6_worth, 2, (some .int), [])
abbrev zX6_worthOf : z_Mi := (yX6_worthOf, cX6_worthOf, 1, (some .int), [])
abbrev zX6_best : z_Mi := (yX6_best, cX6_best, 2, (some .int), [])
abbrev zX6_bestIn : z_Mi := (yX6_bestIn, cX6_bestIn, 3, (some .int), [])
abbrev zX6_enter : z_Mi := (yX6_enter, cX6_enter, 2, (some .int), [])
abbrev zX6_begin : z_Mi := (yX6_begin, cX6_begin, 3, (some .int), [])
abbrev zX6_isPlayer : z_Mi := (yX6_isPlayer, cX6_isPlayer, 2, (some .boolean), [])
abbrev zX6_move : z_Mi := (yX6_move, cX6_move, 4, (some .boolean), [])
abbrev zX6_isBlunder : z_Mi := (yX6_isBlunder, cX6_isBlunder, 2, (some .boolean), [])
abbrev zX6_end : z_Mi := (yX6_end, cX6_end, 3, (some .int), [])
abbrev zX6_notes : z_Mi := (yX6_notes, cX6_notes, 7, none, [])
abbrev zX6_lineOf : z_Mi := (yX6_lineOf, cX6_lineOf, 5, (some .int), [])
abbrev zX6_isGone : z_Mi := (yX6_isGone, cX6_isGone, 5, (some .boolean), [])
abbrev zX6_shorter : z_Mi := (yX6_shorter, cX6_shorter, 1, (some .int), [])
abbrev zX6_makes : z_Mi := (yX6_makes, cX6_makes, 6, (some .int), [])
abbrev zX6_hasPuzzle : z_Mi := (yX6_hasPuzzle, cX6_hasPuzzle, 4, (some .boolean), [])
abbrev zX6_position : z_Mi := (yX6_position, cX6_position, 1, (some .int), [])
abbrev zX6_told : z_Mi := (yX6_told, cX6_told, 2, (some .int), [])
abbrev zX6_games : z_Mi := (yX6_games, cX6_games, 1, (some .int), [])
abbrev zX6_ended : z_Mi := (yX6_ended, cX6_ended, 1, (some .int), [])
abbrev zX6_score : z_Mi := (yX6_score, cX6_score, 2, (some .int), [])
abbrev zX6_puzzles : z_Mi := (yX6_puzzles, cX6_puzzles, 1, (some .int), [])
abbrev zX6_puzzle : z_Mi := (yX6_puzzle, cX6_puzzle, 2, (some .int), [])
abbrev zX6_isPuzzle : z_Mi := (yX6_isPuzzle, cX6_isPuzzle, 2, (some .boolean), [])
abbrev zX6_source : z_Mi := (yX6_source, cX6_source, 2, (some .int), [])
abbrev zX6_solve : z_Mi := (yX6_solve, cX6_solve, 10, (some .boolean), [])
abbrev zX6_offered : z_Mi := (yX6_offered, cX6_offered, 8, (some .int), [])
abbrev zX6_rating : z_Mi := (yX6_rating, cX6_rating, 3, (some .int), [])
abbrev zX6_results : z_Mi := (yX6_results, cX6_results, 3, (some .int), [])
abbrev zX6_asks : z_Mi := (yX6_asks, cX6_asks, 3, (some .boolean), [])
abbrev zX6_points : z_Mi := (yX6_points, cX6_points, 3, (some .int), [])
abbrev zX6_isDropped : z_Mi := (yX6_isDropped, cX6_isDropped, 3, (some .boolean), [])
abbrev zX6_pointsOfGames : z_Mi := (yX6_pointsOfGames, cX6_pointsOfGames, 6, (some .int), [])
abbrev zX6_mean : z_Mi := (yX6_mean, cX6_mean, 4, (some .float), [])
abbrev zX6_opponent : z_Mi := (yX6_opponent, cX6_opponent, 2, (some .int), [])
abbrev zX6_pairs : z_Mi := (yX6_pairs, cX6_pairs, 7, none, [])
abbrev zX6_sorts : z_Mi := (yX6_sorts, cX6_sorts, 4, none, [])
abbrev zX6_havePlayed : z_Mi := (yX6_havePlayed, cX6_havePlayed, 5, (some .boolean), [])
abbrev zX6_hasWhite : z_Mi := (yX6_hasWhite, cX6_hasWhite, 4, (some .boolean), [])

theorem okX0_init : z_ok zX0_init 0 := ⟨by decide +kernel, by decide +kernel, by decide +kernel, by decide +kernel⟩
theorem okX0_keepResult : z_ok zX0_keepResult 1 := ⟨by decide +kernel, by decide +kernel, by decide +kernel, by decide +kernel⟩
theorem okX0_addResult : z_ok zX0_addResult 2 := ⟨by decide +kernel, by decide +kernel, by decide +kernel, by decide +kernel⟩
theorem okX0_dropBadLine : z_ok zX0_dropBadLine 2 := ⟨by decide +kernel, by decide +kernel, by decide +kernel, by decide +kernel⟩
theorem okX0_find : z_ok zX0_find 2 := ⟨by decide +kernel, by decide +kernel, by decide +kernel, by decide +kernel⟩
theorem okX0_holdsDropped : z_ok zX0_holdsDropped 2 := ⟨by decide +kernel, by decide +kernel, by decide +kernel, by decide +kernel⟩
theorem okX1_init : z_ok zX1_init 2 := ⟨by decide +kernel, by decide +kernel, by decide +kernel, by decide +kernel⟩
theorem okX1_isFull : z_ok zX1_isFull 0 := ⟨by decide +kernel, by decide +kernel, by decide +kernel, by decide +kernel⟩
theorem okX1_addMove : z_ok zX1_addMove 1 := ⟨by decide +kernel, by decide +kernel, by decide +kernel, by decide +kernel⟩
theorem okX1_moveAt : z_ok zX1_moveAt 1 := ⟨by decide +kernel, by decide +kernel, by decide +kernel, by decide +kernel⟩
theorem okX1_beginsWith : z_ok zX1_beginsWith 2 := ⟨by decide +kernel, by decide +kernel, by decide +kernel, by decide +kernel⟩
theorem okX2_init : z_ok zX2_init 0 := ⟨by decide +kernel, by decide +kernel, by decide +kernel, by decide +kernel⟩
theorem okX2_goingOnWith : z_ok zX2_goingOnWith 1 := ⟨by decide +kernel, by decide +kernel, by decide +kernel, by decide +kernel⟩
theorem okX2_madeWith : z_ok zX2_madeWith 1 := ⟨by decide +kernel, by decide +kernel, by decide +kernel, by decide +kernel⟩
theorem okX2_doesBadly : z_ok zX2_doesBadly 1 := ⟨by decide +kernel, by decide +kernel, by decide +kernel, by decide +kernel⟩
theorem okX3_init : z_ok zX3_init 1 := ⟨by decide +kernel, by decide +kernel, by decide +kernel, by decide +kernel⟩
theorem okX3_endGameAsWhite : z_ok zX3_endGameAsWhite 2 := ⟨by decide +kernel, by decide +kernel, by decide +kernel, by decide +kernel⟩
theorem okX3_endGameAsBlack : z_ok zX3_endGameAsBlack 2 := ⟨by decide +kernel, by decide +kernel, by decide +kernel, by decide +kernel⟩
theorem okX3_endGame : z_ok zX3_endGame 2 := ⟨by decide +kernel, by decide +kernel, by decide +kernel, by decide +kernel⟩
theorem okX3_hasMet : z_ok zX3_hasMet 1 := ⟨by decide +kernel, by decide +kernel, by decide +kernel, by decide +kernel⟩
theorem okX3_colourBalance : z_ok zX3_colourBalance 0 := ⟨by decide +kernel, by decide +kernel, by decide +kernel, by decide +kernel⟩
theorem okX3_standsAheadOf : z_ok zX3_standsAheadOf 1 := ⟨by decide +kernel, by decide +kernel, by decide +kernel, by decide +kernel⟩
theorem okX3_hasTried : z_ok zX3_hasTried 1 := ⟨by decide +kernel, by decide +kernel, by decide +kernel, by decide +kernel⟩
theorem okX3_markTried : z_ok zX3_markTried 1 := ⟨by decide +kernel, by decide +kernel, by decide +kernel, by decide +kernel⟩
theorem okX3_ratingIn : z_ok zX3_ratingIn 1 := ⟨by decide +kernel, by decide +kernel, by decide +kernel, by decide +kernel⟩
theorem okX3_needsMore : z_ok zX3_needsMore 2 := ⟨by decide +kernel, by decide +kernel, by decide +kernel, by decide +kernel⟩
theorem okX3_changeRating : z_ok zX3_changeRating 2 := ⟨by decide +kernel, by decide +kernel, by decide +kernel, by decide +kernel⟩
theorem okX3_ratingBehindTry : z_ok zX3_ratingBehindTry 2 := ⟨by decide +kernel, by decide +kernel, by decide +kernel, by decide +kernel⟩
theorem okX4_init : z_ok zX4_init 2 := ⟨by decide +kernel, by decide +kernel, by decide +kernel, by decide +kernel⟩
theorem okX5_init : z_ok zX5_init 0 := ⟨by decide +kernel, by decide +kernel, by decide +kernel, by decide +kernel⟩
theorem okX5_after : z_ok zX5_after 2 := ⟨by decide +kernel, by decide +kernel, by decide +kernel, by decide +kernel⟩
theorem okX5_worth : z_ok zX5_worth 1 := ⟨by decide +kernel, by decide +kernel, by decide +kernel, by decide +kernel⟩
theorem okX5_best : z_ok zX5_best 1 := ⟨by decide +kernel, by decide +kernel, by decide +kernel, by decide +kernel⟩
theorem okX5_enter : z_ok zX5_enter 0 := ⟨by decide +kernel, by decide +kernel, by decide +kernel, by decide +kernel⟩
theorem okX5_begin : z_ok zX5_begin 2 := ⟨by decide +kernel, by decide +kernel, by decide +kernel, by decide +kernel⟩
theorem okX5_move : z_ok zX5_move 1 := ⟨by decide +kernel, by decide +kernel, by decide +kernel, by decide +kernel⟩
theorem okX5_end : z_ok zX5_end 1 := ⟨by decide +kernel, by decide +kernel, by decide +kernel, by decide +kernel⟩
theorem okX5_position : z_ok zX5_position 0 := ⟨by decide +kernel, by decide +kernel, by decide +kernel, by decide +kernel⟩
theorem okX5_games : z_ok zX5_games 0 := ⟨by decide +kernel, by decide +kernel, by decide +kernel, by decide +kernel⟩
theorem okX5_score : z_ok zX5_score 1 := ⟨by decide +kernel, by decide +kernel, by decide +kernel, by decide +kernel⟩
theorem okX5_puzzles : z_ok zX5_puzzles 0 := ⟨by decide +kernel, by decide +kernel, by decide +kernel, by decide +kernel⟩
theorem okX5_puzzle : z_ok zX5_puzzle 1 := ⟨by decide +kernel, by decide +kernel, by decide +kernel, by decide +kernel⟩
theorem okX5_source : z_ok zX5_source 1 := ⟨by decide +kernel, by decide +kernel, by decide +kernel, by decide +kernel⟩
theorem okX5_solve : z_ok zX5_solve 3 := ⟨by decide +kernel, by decide +kernel, by decide +kernel, by decide +kernel⟩
theorem okX5_offered : z_ok zX5_offered 1 := ⟨by decide +kernel, by decide +kernel, by decide +kernel, by decide +kernel⟩
theorem okX5_rating : z_ok zX5_rating 2 := ⟨by decide +kernel, by decide +kernel, by decide +kernel, by decide +kernel⟩
theorem okX5_results : z_ok zX5_results 2 := ⟨by decide +kernel, by decide +kernel, by decide +kernel, by decide +kernel⟩
theorem okX5_points : z_ok zX5_points 2 := ⟨by decide +kernel, by decide +kernel, by decide +kernel, by decide +kernel⟩
theorem okX5_isDropped : z_ok zX5_isDropped 2 := ⟨by decide +kernel, by decide +kernel, by decide +kernel, by decide +kernel⟩
theorem okX5_pointsOfGames : z_ok zX5_pointsOfGames 2 := ⟨by decide +kernel, by decide +kernel, by decide +kernel, by decide +kernel⟩
theorem okX5_mean : z_ok zX5_mean 2 := ⟨by decide +kernel, by decide +kernel, by decide +kernel, by decide +kernel⟩
theorem okX5_opponent : z_ok zX5_opponent 1 := ⟨by decide +kernel, by decide +kernel, by decide +kernel, by decide +kernel⟩
theorem okX5_hasWhite : z_ok zX5_hasWhite 1 := ⟨by decide +kernel, by decide +kernel, by decide +kernel, by decide +kernel⟩
theorem okX5_checkPosition : z_ok zX5_checkPosition 1 := ⟨by decide +kernel, by decide +kernel, by decide +kernel, by decide +kernel⟩
theorem okX5_checkMove : z_ok zX5_checkMove 1 := ⟨by decide +kernel, by decide +kernel, by decide +kernel, by decide +kernel⟩
theorem okX5_checkLine : z_ok zX5_checkLine 2 := ⟨by decide +kernel, by decide +kernel, by decide +kernel, by decide +kernel⟩
theorem okX5_knownPlayer : z_ok zX5_knownPlayer 1 := ⟨by decide +kernel, by decide +kernel, by decide +kernel, by decide +kernel⟩
theorem okX5_knownPuzzle : z_ok zX5_knownPuzzle 1 := ⟨by decide +kernel, by decide +kernel, by decide +kernel, by decide +kernel⟩
theorem okX5_positionAfter : z_ok zX5_positionAfter 2 := ⟨by decide +kernel, by decide +kernel, by decide +kernel, by decide +kernel⟩
theorem okX5_worthOf : z_ok zX5_worthOf 1 := ⟨by decide +kernel, by decide +kernel, by decide +kernel, by decide +kernel⟩
theorem okX5_worthAfter : z_ok zX5_worthAfter 2 := ⟨by decide +kernel, by decide +kernel, by decide +kernel, by decide +kernel⟩
theorem okX5_bestMove : z_ok zX5_bestMove 1 := ⟨by decide +kernel, by decide +kernel, by decide +kernel, by decide +kernel⟩
theorem okX5_isBlunder : z_ok zX5_isBlunder 2 := ⟨by decide +kernel, by decide +kernel, by decide +kernel, by decide +kernel⟩
theorem okX5_moveOfLine : z_ok zX5_moveOfLine 2 := ⟨by decide +kernel, by decide +kernel, by decide +kernel, by decide +kernel⟩
theorem okX5_makePuzzles : z_ok zX5_makePuzzles 2 := ⟨by decide +kernel, by decide +kernel, by decide +kernel, by decide +kernel⟩
theorem okX5_addPuzzle : z_ok zX5_addPuzzle 2 := ⟨by decide +kernel, by decide +kernel, by decide +kernel, by decide +kernel⟩
theorem okX5_hasPuzzleFor : z_ok zX5_hasPuzzleFor 1 := ⟨by decide +kernel, by decide +kernel, by decide +kernel, by decide +kernel⟩
theorem okX5_pairPlayers : z_ok zX5_pairPlayers 0 := ⟨by decide +kernel, by decide +kernel, by decide +kernel, by decide +kernel⟩
theorem okX5_firstUnpaired : z_ok zX5_firstUnpaired 0 := ⟨by decide +kernel, by decide +kernel, by decide +kernel, by decide +kernel⟩
theorem okX5_partnerFor : z_ok zX5_partnerFor 1 := ⟨by decide +kernel, by decide +kernel, by decide +kernel, by decide +kernel⟩
theorem okX6_init : z_ok zX6_init 0 := ⟨by decide +kernel, by decide +kernel, by decide +kernel, by decide +kernel⟩
theorem okX6_thrown : z_ok zX6_thrown 0 := ⟨by decide +kernel, by decide +kernel, by decide +kernel, by decide +kernel⟩
theorem okX6_in : z_ok zX6_in 3 := ⟨by decide +kernel, by decide +kernel, by decide +kernel, by decide +kernel⟩
theorem okX6_goes : z_ok zX6_goes 3 := ⟨by decide +kernel, by decide +kernel, by decide +kernel, by decide +kernel⟩
theorem okX6_told : z_ok zX6_told 1 := ⟨by decide +kernel, by decide +kernel, by decide +kernel, by decide +kernel⟩
theorem okX6_isPosition : z_ok zX6_isPosition 1 := ⟨by decide +kernel, by decide +kernel, by decide +kernel, by decide +kernel⟩
theorem okX6_isMove : z_ok zX6_isMove 1 := ⟨by decide +kernel, by decide +kernel, by decide +kernel, by decide +kernel⟩
theorem okX6_isPlayer : z_ok zX6_isPlayer 1 := ⟨by decide +kernel, by decide +kernel, by decide +kernel, by decide +kernel⟩
theorem okX6_isPuzzle : z_ok zX6_isPuzzle 1 := ⟨by decide +kernel, by decide +kernel, by decide +kernel, by decide +kernel⟩
theorem okX6_next : z_ok zX6_next 2 := ⟨by decide +kernel, by decide +kernel, by decide +kernel, by decide +kernel⟩
theorem okX6_worthOf : z_ok zX6_worthOf 1 := ⟨by decide +kernel, by decide +kernel, by decide +kernel, by decide +kernel⟩
theorem okX6_bestIn : z_ok zX6_bestIn 1 := ⟨by decide +kernel, by decide +kernel, by decide +kernel, by decide +kernel⟩
theorem okX6_isBlunder : z_ok zX6_isBlunder 2 := ⟨by decide +kernel, by decide +kernel, by decide +kernel, by decide +kernel⟩
theorem okX6_after : z_ok zX6_after 2 := ⟨by decide +kernel, by decide +kernel, by decide +kernel, by decide +kernel⟩
theorem okX6_worth : z_ok zX6_worth 1 := ⟨by decide +kernel, by decide +kernel, by decide +kernel, by decide +kernel⟩
theorem okX6_best : z_ok zX6_best 1 := ⟨by decide +kernel, by decide +kernel, by decide +kernel, by decide +kernel⟩
theorem okX6_enter : z_ok zX6_enter 0 := ⟨by decide +kernel, by decide +kernel, by decide +kernel, by decide +kernel⟩
theorem okX6_ended : z_ok zX6_ended 0 := ⟨by decide +kernel, by decide +kernel, by decide +kernel, by decide +kernel⟩
theorem okX6_begin : z_ok zX6_begin 2 := ⟨by decide +kernel, by decide +kernel, by decide +kernel, by decide +kernel⟩
theorem okX6_move : z_ok zX6_move 1 := ⟨by decide +kernel, by decide +kernel, by decide +kernel, by decide +kernel⟩
theorem okX6_hasPuzzle : z_ok zX6_hasPuzzle 1 := ⟨by decide +kernel, by decide +kernel, by decide +kernel, by decide +kernel⟩
theorem okX6_makes : z_ok zX6_makes 1 := ⟨by decide +kernel, by decide +kernel, by decide +kernel, by decide +kernel⟩
theorem okX6_shorter : z_ok zX6_shorter 1 := ⟨by decide +kernel, by decide +kernel, by decide +kernel, by decide +kernel⟩
theorem okX6_isGone : z_ok zX6_isGone 2 := ⟨by decide +kernel, by decide +kernel, by decide +kernel, by decide +kernel⟩
theorem okX6_lineOf : z_ok zX6_lineOf 2 := ⟨by decide +kernel, by decide +kernel, by decide +kernel, by decide +kernel⟩
theorem okX6_notes : z_ok zX6_notes 1 := ⟨by decide +kernel, by decide +kernel, by decide +kernel, by decide +kernel⟩
theorem okX6_end : z_ok zX6_end 1 := ⟨by decide +kernel, by decide +kernel, by decide +kernel, by decide +kernel⟩
theorem okX6_position : z_ok zX6_position 0 := ⟨by decide +kernel, by decide +kernel, by decide +kernel, by decide +kernel⟩
theorem okX6_games : z_ok zX6_games 0 := ⟨by decide +kernel, by decide +kernel, by decide +kernel, by decide +kernel⟩
theorem okX6_score : z_ok zX6_score 1 := ⟨by decide +kernel, by decide +kernel, by decide +kernel, by decide +kernel⟩
theorem okX6_puzzles : z_ok zX6_puzzles 0 := ⟨by decide +kernel, by decide +kernel, by decide +kernel, by decide +kernel⟩
theorem okX6_puzzle : z_ok zX6_puzzle 1 := ⟨by decide +kernel, by decide +kernel, by decide +kernel, by decide +kernel⟩
theorem okX6_source : z_ok zX6_source 1 := ⟨by decide +kernel, by decide +kernel, by decide +kernel, by decide +kernel⟩
theorem okX6_solve : z_ok zX6_solve 3 := ⟨by decide +kernel, by decide +kernel, by decide +kernel, by decide +kernel⟩
theorem okX6_offered : z_ok zX6_offered 1 := ⟨by decide +kernel, by decide +kernel, by decide +kernel, by decide +kernel⟩
theorem okX6_rating : z_ok zX6_rating 2 := ⟨by decide +kernel, by decide +kernel, by decide +kernel, by decide +kernel⟩
theorem okX6_asks : z_ok zX6_asks 2 := ⟨by decide +kernel, by decide +kernel, by decide +kernel, by decide +kernel⟩
theorem okX6_results : z_ok zX6_results 2 := ⟨by decide +kernel, by decide +kernel, by decide +kernel, by decide +kernel⟩
theorem okX6_points : z_ok zX6_points 2 := ⟨by decide +kernel, by decide +kernel, by decide +kernel, by decide +kernel⟩
theorem okX6_isDropped : z_ok zX6_isDropped 2 := ⟨by decide +kernel, by decide +kernel, by decide +kernel, by decide +kernel⟩
theorem okX6_pointsOfGames : z_ok zX6_pointsOfGames 2 := ⟨by decide +kernel, by decide +kernel, by decide +kernel, by decide +kernel⟩
theorem okX6_mean : z_ok zX6_mean 2 := ⟨by decide +kernel, by decide +kernel, by decide +kernel, by decide +kernel⟩
theorem okX6_havePlayed : z_ok zX6_havePlayed 2 := ⟨by decide +kernel, by decide +kernel, by decide +kernel, by decide +kernel⟩
theorem okX6_sorts : z_ok zX6_sorts 0 := ⟨by decide +kernel, by decide +kernel, by decide +kernel, by decide +kernel⟩
theorem okX6_pairs : z_ok zX6_pairs 0 := ⟨by decide +kernel, by decide +kernel, by decide +kernel, by decide +kernel⟩
theorem okX6_opponent : z_ok zX6_opponent 1 := ⟨by decide +kernel, by decide +kernel, by decide +kernel, by decide +kernel⟩
theorem okX6_hasWhite : z_ok zX6_hasWhite 1 := ⟨by decide +kernel, by decide +kernel, by decide +kernel, by decide +kernel⟩
theorem okL_after : z_ok zL_after 4 := ⟨by decide +kernel, by decide +kernel, by decide +kernel, by decide +kernel⟩
theorem okL_worth : z_ok zL_worth 3 := ⟨by decide +kernel, by decide +kernel, by decide +kernel, by decide +kernel⟩
theorem okL_best : z_ok zL_best 3 := ⟨by decide +kernel, by decide +kernel, by decide +kernel, by decide +kernel⟩
theorem okL_enter : z_ok zL_enter 2 := ⟨by decide +kernel, by decide +kernel, by decide +kernel, by decide +kernel⟩
theorem okL_begin : z_ok zL_begin 4 := ⟨by decide +kernel, by decide +kernel, by decide +kernel, by decide +kernel⟩
theorem okL_move : z_ok zL_move 3 := ⟨by decide +kernel, by decide +kernel, by decide +kernel, by decide +kernel⟩
theorem okL_end : z_ok zL_end 3 := ⟨by decide +kernel, by decide +kernel, by decide +kernel, by decide +kernel⟩
theorem okL_score : z_ok zL_score 3 := ⟨by decide +kernel, by decide +kernel, by decide +kernel, by decide +kernel⟩
theorem okL_puzzle : z_ok zL_puzzle 3 := ⟨by decide +kernel, by decide +kernel, by decide +kernel, by decide +kernel⟩
theorem okL_source : z_ok zL_source 3 := ⟨by decide +kernel, by decide +kernel, by decide +kernel, by decide +kernel⟩
theorem okL_solve : z_ok zL_solve 5 := ⟨by decide +kernel, by decide +kernel, by decide +kernel, by decide +kernel⟩
theorem okL_offered : z_ok zL_offered 3 := ⟨by decide +kernel, by decide +kernel, by decide +kernel, by decide +kernel⟩
theorem okL_rating : z_ok zL_rating 4 := ⟨by decide +kernel, by decide +kernel, by decide +kernel, by decide +kernel⟩
theorem okL_results : z_ok zL_results 4 := ⟨by decide +kernel, by decide +kernel, by decide +kernel, by decide +kernel⟩
theorem okL_points : z_ok zL_points 4 := ⟨by decide +kernel, by decide +kernel, by decide +kernel, by decide +kernel⟩
theorem okL_isDropped : z_ok zL_isDropped 4 := ⟨by decide +kernel, by decide +kernel, by decide +kernel, by decide +kernel⟩
theorem okL_pointsOfGames : z_ok zL_pointsOfGames 4 := ⟨by decide +kernel, by decide +kernel, by decide +kernel, by decide +kernel⟩
theorem okL_mean : z_ok zL_mean 4 := ⟨by decide +kernel, by decide +kernel, by decide +kernel, by decide +kernel⟩
theorem okL_opponent : z_ok zL_opponent 3 := ⟨by decide +kernel, by decide +kernel, by decide +kernel, by decide +kernel⟩
theorem okL_hasWhite : z_ok zL_hasWhite 3 := ⟨by decide +kernel, by decide +kernel, by decide +kernel, by decide +kernel⟩
theorem inX0 : ∀ w ∈ u_ws RX0 TX0 1, w ∈ z_T := by
  intro w hw
  obtain ⟨k, hk, rfl⟩ := List.mem_map.mp hw
  have hk := List.mem_range.mp hk
  have h : k = 0 := by omega
  subst h
  · exact (z_Tof (List.mem_of_getElem? (i := 87) (by decide +kernel)) (by decide +kernel))
theorem inX1 : ∀ w ∈ u_ws RX1 TX1 6, w ∈ z_T := by
  intro w hw
  obtain ⟨k, hk, rfl⟩ := List.mem_map.mp hw
  have hk := List.mem_range.mp hk
  have h : k = 0 ∨ k = 1 ∨ k = 2 ∨ k = 3 ∨ k = 4 ∨ k = 5 := by omega
  rcases h with rfl | rfl | rfl | rfl | rfl | rfl
  · exact (z_Tof (List.mem_of_getElem? (i := 342) (by decide +kernel)) (by decide +kernel))
  · exact (z_Tof (List.mem_of_getElem? (i := 344) (by decide +kernel)) (by decide +kernel))
  · exact (z_Tof (List.mem_of_getElem? (i := 346) (by decide +kernel)) (by decide +kernel))
  · exact (z_Tof (List.mem_of_getElem? (i := 348) (by decide +kernel)) (by decide +kernel))
  · exact (z_Tof (List.mem_of_getElem? (i := 350) (by decide +kernel)) (by decide +kernel))
  · exact (z_Tof (List.mem_of_getElem? (i := 352) (by decide +kernel)) (by decide +kernel))
theorem inX2 : ∀ w ∈ u_ws RX2 TX2 4, w ∈ z_T := by
  intro w hw
  obtain ⟨k, hk, rfl⟩ := List.mem_map.mp hw
  have hk := List.mem_range.mp hk
  have h : k = 0 ∨ k = 1 ∨ k = 2 ∨ k = 3 := by omega
  rcases h with rfl | rfl | rfl | rfl
  · exact (z_Tof (List.mem_of_getElem? (i := 77) (by decide +kernel)) (by decide +kernel))
  · exact (z_Tof (List.mem_of_getElem? (i := 79) (by decide +kernel)) (by decide +kernel))
  · exact (z_Tof (List.mem_of_getElem? (i := 81) (by decide +kernel)) (by decide +kernel))
  · exact (z_Tof (List.mem_of_getElem? (i := 83) (by decide +kernel)) (by decide +kernel))
theorem inX3 : ∀ w ∈ u_ws RX3 TX3 8, w ∈ z_T := by
  intro w hw
  obtain ⟨k, hk, rfl⟩ := List.mem_map.mp hw
  have hk := List.mem_range.mp hk
  have h : k = 0 ∨ k = 1 ∨ k = 2 ∨ k = 3 ∨ k = 4 ∨ k = 5 ∨ k = 6 ∨ k = 7 := by omega
  rcases h with rfl | rfl | rfl | rfl | rfl | rfl | rfl | rfl
  · exact (z_Tof (List.mem_of_getElem? (i := 275) (by decide +kernel)) (by decide +kernel))
  · exact (z_Tof (List.mem_of_getElem? (i := 277) (by decide +kernel)) (by decide +kernel))
  · exact (z_Tof (List.mem_of_getElem? (i := 279) (by decide +kernel)) (by decide +kernel))
  · exact (z_Tof (List.mem_of_getElem? (i := 281) (by decide +kernel)) (by decide +kernel))
  · exact (z_Tof (List.mem_of_getElem? (i := 283) (by decide +kernel)) (by decide +kernel))
  · exact (z_Tof (List.mem_of_getElem? (i := 285) (by decide +kernel)) (by decide +kernel))
  · exact (z_Tof (List.mem_of_getElem? (i := 287) (by decide +kernel)) (by decide +kernel))
  · exact (z_Tof (List.mem_of_getElem? (i := 289) (by decide +kernel)) (by decide +kernel))
theorem inX4 : ∀ w ∈ u_ws RX4 TX4 3, w ∈ z_T := by
  intro w hw
  obtain ⟨k, hk, rfl⟩ := List.mem_map.mp hw
  have hk := List.mem_range.mp hk
  have h : k = 0 ∨ k = 1 ∨ k = 2 := by omega
  rcases h with rfl | rfl | rfl
  · exact (z_Tof (List.mem_of_getElem? (i := 452) (by decide +kernel)) (by decide +kernel))
  · exact (z_Tof (List.mem_of_getElem? (i := 454) (by decide +kernel)) (by decide +kernel))
  · exact (z_Tof (List.mem_of_getElem? (i := 456) (by decide +kernel)) (by decide +kernel))
theorem inX5 : ∀ w ∈ u_ws RX5 TX5 8, w ∈ z_T := by
  intro w hw
  obtain ⟨k, hk, rfl⟩ := List.mem_map.mp hw
  have hk := List.mem_range.mp hk
  have h : k = 0 ∨ k = 1 ∨ k = 2 ∨ k = 3 ∨ k = 4 ∨ k = 5 ∨ k = 6 ∨ k = 7 := by omega
  rcases h with rfl | rfl | rfl | rfl | rfl | rfl | rfl | rfl
  · exact (z_Tof (List.mem_of_getElem? (i := 98) (by decide +kernel)) (by decide +kernel))
  · exact (z_Tof (List.mem_of_getElem? (i := 100) (by decide +kernel)) (by decide +kernel))
  · exact (z_Tof (List.mem_of_getElem? (i := 102) (by decide +kernel)) (by decide +kernel))
  · exact (z_Tof (List.mem_of_getElem? (i := 104) (by decide +kernel)) (by decide +kernel))
  · exact (z_Tof (List.mem_of_getElem? (i := 106) (by decide +kernel)) (by decide +kernel))
  · exact (z_Tof (List.mem_of_getElem? (i := 108) (by decide +kernel)) (by decide +kernel))
  · exact (z_Tof (List.mem_of_getElem? (i := 110) (by decide +kernel)) (by decide +kernel))
  · exact (z_Tof (List.mem_of_getElem? (i := 112) (by decide +kernel)) (by decide +kernel))
theorem inX6 : ∀ w ∈ u_ws RX6 TX6 22, w ∈ z_T := by
  intro w hw
  obtain ⟨k, hk, rfl⟩ := List.mem_map.mp hw
  have hk := List.mem_range.mp hk
  have h : k = 0 ∨ k = 1 ∨ k = 2 ∨ k = 3 ∨ k = 4 ∨ k = 5 ∨ k = 6 ∨ k = 7 ∨ k = 8 ∨ k = 9 ∨ k = 10 ∨ k = 11 ∨ k = 12 ∨ k = 13 ∨ k = 14 ∨ k = 15 ∨ k = 16 ∨ k = 17 ∨ k = 18 ∨ k = 19 ∨ k = 20 ∨ k = 21 := by omega
  rcases h with rfl | rfl | rfl | rfl | rfl | rfl | rfl | rfl | rfl | rfl | rfl | rfl | rfl | rfl | rfl | rfl | rfl | rfl | rfl | rfl | rfl | rfl
  · exact (z_Tof (List.mem_of_getElem? (i := 660) (by decide +kernel)) (by decide +kernel))
  · exact (z_Tof (List.mem_of_getElem? (i := 662) (by decide +kernel)) (by decide +kernel))
  · exact (z_Tof (List.mem_of_getElem? (i := 664) (by decide +kernel)) (by decide +kernel))
  · exact (z_Tof (List.mem_of_getElem? (i := 666) (by decide +kernel)) (by decide +kernel))
  · exact (z_Tof (List.mem_of_getElem? (i := 668) (by decide +kernel)) (by decide +kernel))
  · exact (z_Tof (List.mem_of_getElem? (i := 670) (by decide +kernel)) (by decide +kernel))
  · exact (z_Tof (List.mem_of_getElem? (i := 672) (by decide +kernel)) (by decide +kernel))
  · exact (z_Tof (List.mem_of_getElem? (i := 674) (by decide +kernel)) (by decide +kernel))
  · exact (z_Tof (List.mem_of_getElem? (i := 676) (by decide +kernel)) (by decide +kernel))
  · exact (z_Tof (List.mem_of_getElem? (i := 678) (by decide +kernel)) (by decide +kernel))
  · exact (z_Tof (List.mem_of_getElem? (i := 680) (by decide +kernel)) (by decide +kernel))
  · exact (z_Tof (List.mem_of_getElem? (i := 682) (by decide +kernel)) (by decide +kernel))
  · exact (z_Tof (List.mem_of_getElem? (i := 684) (by decide +kernel)) (by decide +kernel))
  · exact (z_Tof (List.mem_of_getElem? (i := 686) (by decide +kernel)) (by decide +kernel))
  · exact (z_Tof (List.mem_of_getElem? (i := 688) (by decide +kernel)) (by decide +kernel))
  · exact (z_Tof (List.mem_of_getElem? (i := 690) (by decide +kernel)) (by decide +kernel))
  · exact (z_Tof (List.mem_of_getElem? (i := 692) (by decide +kernel)) (by decide +kernel))
  · exact (z_Tof (List.mem_of_getElem? (i := 694) (by decide +kernel)) (by decide +kernel))
  · exact (z_Tof (List.mem_of_getElem? (i := 696) (by decide +kernel)) (by decide +kernel))
  · exact (z_Tof (List.mem_of_getElem? (i := 698) (by decide +kernel)) (by decide +kernel))
  · exact (z_Tof (List.mem_of_getElem? (i := 700) (by decide +kernel)) (by decide +kernel))
  · exact (z_Tof (List.mem_of_getElem? (i := 702) (by decide +kernel)) (by decide +kernel))
section ZPROG
variable {G : z_G} {Y : z_Mi} {d : Nat} {Z : z_Gq} {pc : Nat} {L : List (Option Value)} {st : List Value} {w : z_W} {k n : Nat}
theorem oiX0_3 (hY : Y.1.cls = RX0) {a : Nat} (d0 : decode Y.2.1 pc = .ok (.invokespecial 3, 3)) (hdd : 1 ≤ d) (hst : (st.map fun v => v.category).sum ≤ 8) (kk : z_E G Y d Z (pc + 3) L st w k n) : z_E G Y d Z pc L (.ref a :: st) w k n :=
  z_objInit d0 (by rw [hY]; exact (z_Tof (List.mem_of_getElem? (i := 60) (by decide +kernel)) (by decide +kernel))) (z_Tof (List.mem_of_getElem? (i := 47) (by decide +kernel)) (by decide +kernel)) (z_Tof (List.mem_of_getElem? (i := 48) (by decide +kernel)) (by decide +kernel)) hdd hst kk
theorem nwX0_9 (hY : Y.1.cls = RX0) (d0 : decode Y.2.1 pc = .ok (.new 9, 3)) (hk1 : 1 ≤ k) (hn1 : 4 ≤ n) (kk : ∀ q : Nat, w q = none → z_E G Y d Z (pc + 3) L (.ref q :: st) (z_up w q (.inr (2, [.null, .int 0, .int 0, .int 0]))) (k - 1) (n - 4)) : z_E G Y d Z pc L st w k n :=
  z_new (ci := 2) (fs := [.null, .int 0, .int 0, .int 0]) d0 rfl inX2 tyX2 tyX2_ok (fun j hj => by
    have h : j = 0 ∨ j = 1 ∨ j = 2 ∨ j = 3 := by omega
    rcases h with rfl | rfl | rfl | rfl <;> rfl) (by rw [hY]; exact (z_Tof (List.mem_of_getElem? (i := 61) (by decide +kernel)) (by decide +kernel))) (z_Tof (List.mem_of_getElem? (i := 62) (by decide +kernel)) (by decide +kernel)) (z_Tof (List.mem_of_getElem? (i := 29) (by decide +kernel)) (by decide +kernel)) hk1 hn1 kk
theorem cwX0_11 : z_cIN RX0 11 zX2_init := ⟨⟨"ClubAcademy", by decide +kernel⟩, (z_Tof (List.mem_of_getElem? (i := 64) (by decide +kernel)) (by decide +kernel)), (z_Tof (List.mem_of_getElem? (i := 29) (by decide +kernel)) (by decide +kernel)), (z_Tof (List.mem_of_getElem? (i := 65) (by decide +kernel)) (by decide +kernel)), rfl, rfl⟩
theorem pfX0_12 (hY : Y.1.cls = RX0) (hI : Y.1.name = "<init>") {a : Nat} {fs : List Value} {v : Value} (d0 : decode Y.2.1 pc = .ok (.putfield 12, 3)) (hv : z_isr v = true) (hw : w a = some (.inr (0, fs))) (hl : 0 < fs.length) (kk : z_E G Y d Z (pc + 3) L st (z_up w a (.inr (0, fs.set 0 (v)))) k n) : z_E G Y d Z pc L (v :: .ref a :: st) w k n :=
  z_putF (ci := 0) (j := 0) d0 rfl inX0 tyX0 tyX0_ok nmX0 (by decide) (by rw [hY]; exact (z_Tof (List.mem_of_getElem? (i := 86) (by decide +kernel)) (by decide +kernel))) rfl (hI) (hY.symm ▸ rfl) (by rcases z_isr_or hv with rfl | ⟨_, rfl⟩ <;> rfl) (by rcases z_isr_or hv with rfl | ⟨_, rfl⟩ <;> rfl) hw hl kk
theorem gfX0_18 (hY : Y.1.cls = RX0) {a : Nat} {fs : List Value} {v : Value} (d0 : decode Y.2.1 pc = .ok (.getfield 18, 3)) (hw : w a = some (.inr (1, fs))) (hv : fs[3]? = some v) (kk : z_E G Y d Z (pc + 3) L (v :: st) w k n) : z_E G Y d Z pc L (.ref a :: st) w k n :=
  z_get (ci := 1) (j := 3) d0 rfl inX1 (by decide) (by rw [hY]; exact (z_Tof (List.mem_of_getElem? (i := 336) (by decide +kernel)) (by decide +kernel))) hw hv kk
theorem cwX0_30 : z_cV RX0 30 zX0_addResult := ⟨(z_Tof (List.mem_of_getElem? (i := 403) (by decide +kernel)) (by decide +kernel)), (z_Tof (List.mem_of_getElem? (i := 405) (by decide +kernel)) (by decide +kernel)), (z_Tof (List.mem_of_getElem? (i := 3) (by decide +kernel)) (by decide +kernel)), (z_Tof (List.mem_of_getElem? (i := 28) (by decide +kernel)) (by decide +kernel)), (z_Tof (List.mem_of_getElem? (i := 406) (by decide +kernel)) (by decide +kernel))⟩
theorem cwX0_34 : z_cV RX0 34 zX0_dropBadLine := ⟨(z_Tof (List.mem_of_getElem? (i := 416) (by decide +kernel)) (by decide +kernel)), (z_Tof (List.mem_of_getElem? (i := 418) (by decide +kernel)) (by decide +kernel)), (z_Tof (List.mem_of_getElem? (i := 4) (by decide +kernel)) (by decide +kernel)), (z_Tof (List.mem_of_getElem? (i := 28) (by decide +kernel)) (by decide +kernel)), (z_Tof (List.mem_of_getElem? (i := 419) (by decide +kernel)) (by decide +kernel))⟩
theorem gfX0_12 (hY : Y.1.cls = RX0) {a : Nat} {fs : List Value} {v : Value} (d0 : decode Y.2.1 pc = .ok (.getfield 12, 3)) (hw : w a = some (.inr (0, fs))) (hv : fs[0]? = some v) (kk : z_E G Y d Z (pc + 3) L (v :: st) w k n) : z_E G Y d Z pc L (.ref a :: st) w k n :=
  z_get (ci := 0) (j := 0) d0 rfl inX0 (by decide) (by rw [hY]; exact (z_Tof (List.mem_of_getElem? (i := 86) (by decide +kernel)) (by decide +kernel))) hw hv kk
theorem cwX0_37 : z_cV RX0 37 zX1_moveAt := ⟨(z_Tof (List.mem_of_getElem? (i := 407) (by decide +kernel)) (by decide +kernel)), (z_Tof (List.mem_of_getElem? (i := 408) (by decide +kernel)) (by decide +kernel)), (z_Tof (List.mem_of_getElem? (i := 409) (by decide +kernel)) (by decide +kernel)), (z_Tof (List.mem_of_getElem? (i := 38) (by decide +kernel)) (by decide +kernel)), (z_Tof (List.mem_of_getElem? (i := 410) (by decide +kernel)) (by decide +kernel))⟩
theorem cwX0_41 : z_cV RX0 41 zX2_madeWith := ⟨(z_Tof (List.mem_of_getElem? (i := 411) (by decide +kernel)) (by decide +kernel)), (z_Tof (List.mem_of_getElem? (i := 412) (by decide +kernel)) (by decide +kernel)), (z_Tof (List.mem_of_getElem? (i := 413) (by decide +kernel)) (by decide +kernel)), (z_Tof (List.mem_of_getElem? (i := 29) (by decide +kernel)) (by decide +kernel)), (z_Tof (List.mem_of_getElem? (i := 414) (by decide +kernel)) (by decide +kernel))⟩
theorem gfX0_45 (hY : Y.1.cls = RX0) {a : Nat} {fs : List Value} {v : Value} (d0 : decode Y.2.1 pc = .ok (.getfield 45, 3)) (hw : w a = some (.inr (2, fs))) (hv : fs[3]? = some v) (kk : z_E G Y d Z (pc + 3) L (v :: st) w k n) : z_E G Y d Z pc L (.ref a :: st) w k n :=
  z_get (ci := 2) (j := 3) d0 rfl inX2 (by decide) (by rw [hY]; exact (z_Tof (List.mem_of_getElem? (i := 76) (by decide +kernel)) (by decide +kernel))) hw hv kk
theorem gfX0_49 (hY : Y.1.cls = RX0) {a : Nat} {fs : List Value} {v : Value} (d0 : decode Y.2.1 pc = .ok (.getfield 49, 3)) (hw : w a = some (.inr (2, fs))) (hv : fs[1]? = some v) (kk : z_E G Y d Z (pc + 3) L (v :: st) w k n) : z_E G Y d Z pc L (.ref a :: st) w k n :=
  z_get (ci := 2) (j := 1) d0 rfl inX2 (by decide) (by rw [hY]; exact (z_Tof (List.mem_of_getElem? (i := 70) (by decide +kernel)) (by decide +kernel))) hw hv kk
theorem pfX0_49 (hY : Y.1.cls = RX0) {a : Nat} {fs : List Value} {x : Int32} (d0 : decode Y.2.1 pc = .ok (.putfield 49, 3)) (hw : w a = some (.inr (2, fs))) (hl : 1 < fs.length) (kk : z_E G Y d Z (pc + 3) L st (z_up w a (.inr (2, fs.set 1 (.int x)))) k n) : z_E G Y d Z pc L (.int x :: .ref a :: st) w k n :=
  z_put (ci := 2) (j := 1) d0 rfl inX2 tyX2 tyX2_ok nmX2 (by decide) (by rw [hY]; exact (z_Tof (List.mem_of_getElem? (i := 70) (by decide +kernel)) (by decide +kernel))) rfl rfl rfl hw hl kk
theorem gfX0_52 (hY : Y.1.cls = RX0) {a : Nat} {fs : List Value} {v : Value} (d0 : decode Y.2.1 pc = .ok (.getfield 52, 3)) (hw : w a = some (.inr (2, fs))) (hv : fs[2]? = some v) (kk : z_E G Y d Z (pc + 3) L (v :: st) w k n) : z_E G Y d Z pc L (.ref a :: st) w k n :=
  z_get (ci := 2) (j := 2) d0 rfl inX2 (by decide) (by rw [hY]; exact (z_Tof (List.mem_of_getElem? (i := 73) (by decide +kernel)) (by decide +kernel))) hw hv kk
theorem gfX0_55 (hY : Y.1.cls = RX0) {a : Nat} {fs : List Value} {v : Value} (d0 : decode Y.2.1 pc = .ok (.getfield 55, 3)) (hw : w a = some (.inr (1, fs))) (hv : fs[5]? = some v) (kk : z_E G Y d Z (pc + 3) L (v :: st) w k n) : z_E G Y d Z pc L (.ref a :: st) w k n :=
  z_get (ci := 1) (j := 5) d0 rfl inX1 (by decide) (by rw [hY]; exact (z_Tof (List.mem_of_getElem? (i := 340) (by decide +kernel)) (by decide +kernel))) hw hv kk
theorem pfX0_52 (hY : Y.1.cls = RX0) {a : Nat} {fs : List Value} {x : Int32} (d0 : decode Y.2.1 pc = .ok (.putfield 52, 3)) (hw : w a = some (.inr (2, fs))) (hl : 2 < fs.length) (kk : z_E G Y d Z (pc + 3) L st (z_up w a (.inr (2, fs.set 2 (.int x)))) k n) : z_E G Y d Z pc L (.int x :: .ref a :: st) w k n :=
  z_put (ci := 2) (j := 2) d0 rfl inX2 tyX2 tyX2_ok nmX2 (by decide) (by rw [hY]; exact (z_Tof (List.mem_of_getElem? (i := 73) (by decide +kernel)) (by decide +kernel))) rfl rfl rfl hw hl kk
theorem cwX0_58 : z_cV RX0 58 zX2_goingOnWith := ⟨(z_Tof (List.mem_of_getElem? (i := 420) (by decide +kernel)) (by decide +kernel)), (z_Tof (List.mem_of_getElem? (i := 421) (by decide +kernel)) (by decide +kernel)), (z_Tof (List.mem_of_getElem? (i := 422) (by decide +kernel)) (by decide +kernel)), (z_Tof (List.mem_of_getElem? (i := 29) (by decide +kernel)) (by decide +kernel)), (z_Tof (List.mem_of_getElem? (i := 423) (by decide +kernel)) (by decide +kernel))⟩
theorem cwX0_61 : z_cV RX0 61 zX2_doesBadly := ⟨(z_Tof (List.mem_of_getElem? (i := 424) (by decide +kernel)) (by decide +kernel)), (z_Tof (List.mem_of_getElem? (i := 425) (by decide +kernel)) (by decide +kernel)), (z_Tof (List.mem_of_getElem? (i := 426) (by decide +kernel)) (by decide +kernel)), (z_Tof (List.mem_of_getElem? (i := 29) (by decide +kernel)) (by decide +kernel)), (z_Tof (List.mem_of_getElem? (i := 427) (by decide +kernel)) (by decide +kernel))⟩
theorem pfX0_45 (hY : Y.1.cls = RX0) {a : Nat} {fs : List Value} {x : Int32} (d0 : decode Y.2.1 pc = .ok (.putfield 45, 3)) (hx : x = 0 ∨ x = 1) (hw : w a = some (.inr (2, fs))) (hl : 3 < fs.length) (kk : z_E G Y d Z (pc + 3) L st (z_up w a (.inr (2, fs.set 3 (.int x)))) k n) : z_E G Y d Z pc L (.int x :: .ref a :: st) w k n :=
  z_put (ci := 2) (j := 3) d0 rfl inX2 tyX2 tyX2_ok nmX2 (by decide) (by rw [hY]; exact (z_Tof (List.mem_of_getElem? (i := 76) (by decide +kernel)) (by decide +kernel))) rfl (by rcases hx with rfl | rfl <;> rfl) (by rcases hx with rfl | rfl <;> rfl) hw hl kk
theorem cwX0_65 : z_cSN RX0 65 zX5_moveOfLine := ⟨⟨"ClubAcademy", by decide +kernel⟩, (z_Tof (List.mem_of_getElem? (i := 553) (by decide +kernel)) (by decide +kernel)), (z_Tof (List.mem_of_getElem? (i := 27) (by decide +kernel)) (by decide +kernel)), (z_Tof (List.mem_of_getElem? (i := 554) (by decide +kernel)) (by decide +kernel))⟩
theorem oiX1_3 (hY : Y.1.cls = RX1) {a : Nat} (d0 : decode Y.2.1 pc = .ok (.invokespecial 3, 3)) (hdd : 1 ≤ d) (hst : (st.map fun v => v.category).sum ≤ 8) (kk : z_E G Y d Z (pc + 3) L st w k n) : z_E G Y d Z pc L (.ref a :: st) w k n :=
  z_objInit d0 (by rw [hY]; exact (z_Tof (List.mem_of_getElem? (i := 329) (by decide +kernel)) (by decide +kernel))) (z_Tof (List.mem_of_getElem? (i := 47) (by decide +kernel)) (by decide +kernel)) (z_Tof (List.mem_of_getElem? (i := 48) (by decide +kernel)) (by decide +kernel)) hdd hst kk
theorem pfX1_9 (hY : Y.1.cls = RX1) (hI : Y.1.name = "<init>") {a : Nat} {fs : List Value} {v : Value} (d0 : decode Y.2.1 pc = .ok (.putfield 9, 3)) (hv : z_isr v = true) (hw : w a = some (.inr (1, fs))) (hl : 2 < fs.length) (kk : z_E G Y d Z (pc + 3) L st (z_up w a (.inr (1, fs.set 2 (v)))) k n) : z_E G Y d Z pc L (v :: .ref a :: st) w k n :=
  z_putF (ci := 1) (j := 2) d0 rfl inX1 tyX1 tyX1_ok nmX1 (by decide) (by rw [hY]; exact (z_Tof (List.mem_of_getElem? (i := 334) (by decide +kernel)) (by decide +kernel))) rfl (hI) (hY.symm ▸ rfl) (by rcases z_isr_or hv with rfl | ⟨_, rfl⟩ <;> rfl) (by rcases z_isr_or hv with rfl | ⟨_, rfl⟩ <;> rfl) hw hl kk
theorem pfX1_15 (hY : Y.1.cls = RX1) {a : Nat} {fs : List Value} {x : Int32} (d0 : decode Y.2.1 pc = .ok (.putfield 15, 3)) (hw : w a = some (.inr (1, fs))) (hl : 4 < fs.length) (kk : z_E G Y d Z (pc + 3) L st (z_up w a (.inr (1, fs.set 4 (.int x)))) k n) : z_E G Y d Z pc L (.int x :: .ref a :: st) w k n :=
  z_put (ci := 1) (j := 4) d0 rfl inX1 tyX1 tyX1_ok nmX1 (by decide) (by rw [hY]; exact (z_Tof (List.mem_of_getElem? (i := 338) (by decide +kernel)) (by decide +kernel))) rfl rfl rfl hw hl kk
theorem pfX1_19 (hY : Y.1.cls = RX1) (hI : Y.1.name = "<init>") {a : Nat} {fs : List Value} {v : Value} (d0 : decode Y.2.1 pc = .ok (.putfield 19, 3)) (hv : z_isr v = true) (hw : w a = some (.inr (1, fs))) (hl : 0 < fs.length) (kk : z_E G Y d Z (pc + 3) L st (z_up w a (.inr (1, fs.set 0 (v)))) k n) : z_E G Y d Z pc L (v :: .ref a :: st) w k n :=
  z_putF (ci := 1) (j := 0) d0 rfl inX1 tyX1 tyX1_ok nmX1 (by decide) (by rw [hY]; exact (z_Tof (List.mem_of_getElem? (i := 330) (by decide +kernel)) (by decide +kernel))) rfl (hI) (hY.symm ▸ rfl) (by rcases z_isr_or hv with rfl | ⟨_, rfl⟩ <;> rfl) (by rcases z_isr_or hv with rfl | ⟨_, rfl⟩ <;> rfl) hw hl kk
theorem pfX1_23 (hY : Y.1.cls = RX1) (hI : Y.1.name = "<init>") {a : Nat} {fs : List Value} {v : Value} (d0 : decode Y.2.1 pc = .ok (.putfield 23, 3)) (hv : z_isr v = true) (hw : w a = some (.inr (1, fs))) (hl : 1 < fs.length) (kk : z_E G Y d Z (pc + 3) L st (z_up w a (.inr (1, fs.set 1 (v)))) k n) : z_E G Y d Z pc L (v :: .ref a :: st) w k n :=
  z_putF (ci := 1) (j := 1) d0 rfl inX1 tyX1 tyX1_ok nmX1 (by decide) (by rw [hY]; exact (z_Tof (List.mem_of_getElem? (i := 332) (by decide +kernel)) (by decide +kernel))) rfl (hI) (hY.symm ▸ rfl) (by rcases z_isr_or hv with rfl | ⟨_, rfl⟩ <;> rfl) (by rcases z_isr_or hv with rfl | ⟨_, rfl⟩ <;> rfl) hw hl kk
theorem gfX1_26 (hY : Y.1.cls = RX1) {a : Nat} {fs : List Value} {v : Value} (d0 : decode Y.2.1 pc = .ok (.getfield 26, 3)) (hw : w a = some (.inr (1, fs))) (hv : fs[3]? = some v) (kk : z_E G Y d Z (pc + 3) L (v :: st) w k n) : z_E G Y d Z pc L (.ref a :: st) w k n :=
  z_get (ci := 1) (j := 3) d0 rfl inX1 (by decide) (by rw [hY]; exact (z_Tof (List.mem_of_getElem? (i := 335) (by decide +kernel)) (by decide +kernel))) hw hv kk
theorem gfX1_9 (hY : Y.1.cls = RX1) {a : Nat} {fs : List Value} {v : Value} (d0 : decode Y.2.1 pc = .ok (.getfield 9, 3)) (hw : w a = some (.inr (1, fs))) (hv : fs[2]? = some v) (kk : z_E G Y d Z (pc + 3) L (v :: st) w k n) : z_E G Y d Z pc L (.ref a :: st) w k n :=
  z_get (ci := 1) (j := 2) d0 rfl inX1 (by decide) (by rw [hY]; exact (z_Tof (List.mem_of_getElem? (i := 334) (by decide +kernel)) (by decide +kernel))) hw hv kk
theorem pfX1_26 (hY : Y.1.cls = RX1) {a : Nat} {fs : List Value} {x : Int32} (d0 : decode Y.2.1 pc = .ok (.putfield 26, 3)) (hw : w a = some (.inr (1, fs))) (hl : 3 < fs.length) (kk : z_E G Y d Z (pc + 3) L st (z_up w a (.inr (1, fs.set 3 (.int x)))) k n) : z_E G Y d Z pc L (.int x :: .ref a :: st) w k n :=
  z_put (ci := 1) (j := 3) d0 rfl inX1 tyX1 tyX1_ok nmX1 (by decide) (by rw [hY]; exact (z_Tof (List.mem_of_getElem? (i := 335) (by decide +kernel)) (by decide +kernel))) rfl rfl rfl hw hl kk
theorem gfX1_15 (hY : Y.1.cls = RX1) {a : Nat} {fs : List Value} {v : Value} (d0 : decode Y.2.1 pc = .ok (.getfield 15, 3)) (hw : w a = some (.inr (1, fs))) (hv : fs[4]? = some v) (kk : z_E G Y d Z (pc + 3) L (v :: st) w k n) : z_E G Y d Z pc L (.ref a :: st) w k n :=
  z_get (ci := 1) (j := 4) d0 rfl inX1 (by decide) (by rw [hY]; exact (z_Tof (List.mem_of_getElem? (i := 338) (by decide +kernel)) (by decide +kernel))) hw hv kk
theorem cwX1_29 : z_cSN RX1 29 zX5_positionAfter := ⟨⟨"ClubAcademy", by decide +kernel⟩, (z_Tof (List.mem_of_getElem? (i := 211) (by decide +kernel)) (by decide +kernel)), (z_Tof (List.mem_of_getElem? (i := 27) (by decide +kernel)) (by decide +kernel)), (z_Tof (List.mem_of_getElem? (i := 212) (by decide +kernel)) (by decide +kernel))⟩
theorem cwX1_33 : z_cV RX1 33 zX1_moveAt := ⟨(z_Tof (List.mem_of_getElem? (i := 584) (by decide +kernel)) (by decide +kernel)), (z_Tof (List.mem_of_getElem? (i := 408) (by decide +kernel)) (by decide +kernel)), (z_Tof (List.mem_of_getElem? (i := 409) (by decide +kernel)) (by decide +kernel)), (z_Tof (List.mem_of_getElem? (i := 38) (by decide +kernel)) (by decide +kernel)), (z_Tof (List.mem_of_getElem? (i := 410) (by decide +kernel)) (by decide +kernel))⟩
theorem cwX1_37 : z_cSN RX1 37 zX5_moveOfLine := ⟨⟨"ClubAcademy", by decide +kernel⟩, (z_Tof (List.mem_of_getElem? (i := 553) (by decide +kernel)) (by decide +kernel)), (z_Tof (List.mem_of_getElem? (i := 27) (by decide +kernel)) (by decide +kernel)), (z_Tof (List.mem_of_getElem? (i := 554) (by decide +kernel)) (by decide +kernel))⟩
theorem oiX2_3 (hY : Y.1.cls = RX2) {a : Nat} (d0 : decode Y.2.1 pc = .ok (.invokespecial 3, 3)) (hdd : 1 ≤ d) (hst : (st.map fun v => v.category).sum ≤ 8) (kk : z_E G Y d Z (pc + 3) L st w k n) : z_E G Y d Z pc L (.ref a :: st) w k n :=
  z_objInit d0 (by rw [hY]; exact (z_Tof (List.mem_of_getElem? (i := 66) (by decide +kernel)) (by decide +kernel))) (z_Tof (List.mem_of_getElem? (i := 47) (by decide +kernel)) (by decide +kernel)) (z_Tof (List.mem_of_getElem? (i := 48) (by decide +kernel)) (by decide +kernel)) hdd hst kk
theorem awX2_9 : Cond.classLink RX2 9 RX2 ∈ z_T := (z_Tof (List.mem_of_getElem? (i := 67) (by decide +kernel)) (by decide +kernel))
theorem pfX2_11 (hY : Y.1.cls = RX2) (hI : Y.1.name = "<init>") {a : Nat} {fs : List Value} {v : Value} (d0 : decode Y.2.1 pc = .ok (.putfield 11, 3)) (hv : z_isr v = true) (hw : w a = some (.inr (2, fs))) (hl : 0 < fs.length) (kk : z_E G Y d Z (pc + 3) L st (z_up w a (.inr (2, fs.set 0 (v)))) k n) : z_E G Y d Z pc L (v :: .ref a :: st) w k n :=
  z_putF (ci := 2) (j := 0) d0 rfl inX2 tyX2 tyX2_ok nmX2 (by decide) (by rw [hY]; exact (z_Tof (List.mem_of_getElem? (i := 69) (by decide +kernel)) (by decide +kernel))) rfl (hI) (hY.symm ▸ rfl) (by rcases z_isr_or hv with rfl | ⟨_, rfl⟩ <;> rfl) (by rcases z_isr_or hv with rfl | ⟨_, rfl⟩ <;> rfl) hw hl kk
theorem gfX2_11 (hY : Y.1.cls = RX2) {a : Nat} {fs : List Value} {v : Value} (d0 : decode Y.2.1 pc = .ok (.getfield 11, 3)) (hw : w a = some (.inr (2, fs))) (hv : fs[0]? = some v) (kk : z_E G Y d Z (pc + 3) L (v :: st) w k n) : z_E G Y d Z pc L (.ref a :: st) w k n :=
  z_get (ci := 2) (j := 0) d0 rfl inX2 (by decide) (by rw [hY]; exact (z_Tof (List.mem_of_getElem? (i := 69) (by decide +kernel)) (by decide +kernel))) hw hv kk
theorem nwX2_9 (hY : Y.1.cls = RX2) (d0 : decode Y.2.1 pc = .ok (.new 9, 3)) (hk1 : 1 ≤ k) (hn1 : 4 ≤ n) (kk : ∀ q : Nat, w q = none → z_E G Y d Z (pc + 3) L (.ref q :: st) (z_up w q (.inr (2, [.null, .int 0, .int 0, .int 0]))) (k - 1) (n - 4)) : z_E G Y d Z pc L st w k n :=
  z_new (ci := 2) (fs := [.null, .int 0, .int 0, .int 0]) d0 rfl inX2 tyX2 tyX2_ok (fun j hj => by
    have h : j = 0 ∨ j = 1 ∨ j = 2 ∨ j = 3 := by omega
    rcases h with rfl | rfl | rfl | rfl <;> rfl) (by rw [hY]; exact (z_Tof (List.mem_of_getElem? (i := 67) (by decide +kernel)) (by decide +kernel))) (z_Tof (List.mem_of_getElem? (i := 62) (by decide +kernel)) (by decide +kernel)) (z_Tof (List.mem_of_getElem? (i := 29) (by decide +kernel)) (by decide +kernel)) hk1 hn1 kk
theorem cwX2_15 : z_cI RX2 15 zX2_init := ⟨(z_Tof (List.mem_of_getElem? (i := 415) (by decide +kernel)) (by decide +kernel)), (z_Tof (List.mem_of_getElem? (i := 64) (by decide +kernel)) (by decide +kernel)), (z_Tof (List.mem_of_getElem? (i := 29) (by decide +kernel)) (by decide +kernel)), (z_Tof (List.mem_of_getElem? (i := 65) (by decide +kernel)) (by decide +kernel)), rfl, rfl⟩
theorem gfX2_16 (hY : Y.1.cls = RX2) {a : Nat} {fs : List Value} {v : Value} (d0 : decode Y.2.1 pc = .ok (.getfield 16, 3)) (hw : w a = some (.inr (2, fs))) (hv : fs[2]? = some v) (kk : z_E G Y d Z (pc + 3) L (v :: st) w k n) : z_E G Y d Z pc L (.ref a :: st) w k n :=
  z_get (ci := 2) (j := 2) d0 rfl inX2 (by decide) (by rw [hY]; exact (z_Tof (List.mem_of_getElem? (i := 74) (by decide +kernel)) (by decide +kernel))) hw hv kk
theorem gfX2_20 (hY : Y.1.cls = RX2) {a : Nat} {fs : List Value} {v : Value} (d0 : decode Y.2.1 pc = .ok (.getfield 20, 3)) (hw : w a = some (.inr (2, fs))) (hv : fs[1]? = some v) (kk : z_E G Y d Z (pc + 3) L (v :: st) w k n) : z_E G Y d Z pc L (.ref a :: st) w k n :=
  z_get (ci := 2) (j := 1) d0 rfl inX2 (by decide) (by rw [hY]; exact (z_Tof (List.mem_of_getElem? (i := 71) (by decide +kernel)) (by decide +kernel))) hw hv kk
theorem oiX3_3 (hY : Y.1.cls = RX3) {a : Nat} (d0 : decode Y.2.1 pc = .ok (.invokespecial 3, 3)) (hdd : 1 ≤ d) (hst : (st.map fun v => v.category).sum ≤ 8) (kk : z_E G Y d Z (pc + 3) L st w k n) : z_E G Y d Z pc L (.ref a :: st) w k n :=
  z_objInit d0 (by rw [hY]; exact (z_Tof (List.mem_of_getElem? (i := 264) (by decide +kernel)) (by decide +kernel))) (z_Tof (List.mem_of_getElem? (i := 47) (by decide +kernel)) (by decide +kernel)) (z_Tof (List.mem_of_getElem? (i := 48) (by decide +kernel)) (by decide +kernel)) hdd hst kk
theorem pfX3_9 (hY : Y.1.cls = RX3) (hI : Y.1.name = "<init>") {a : Nat} {fs : List Value} {v : Value} (d0 : decode Y.2.1 pc = .ok (.putfield 9, 3)) (hv : z_isr v = true) (hw : w a = some (.inr (3, fs))) (hl : 1 < fs.length) (kk : z_E G Y d Z (pc + 3) L st (z_up w a (.inr (3, fs.set 1 (v)))) k n) : z_E G Y d Z pc L (v :: .ref a :: st) w k n :=
  z_putF (ci := 3) (j := 1) d0 rfl inX3 tyX3 tyX3_ok nmX3 (by decide) (by rw [hY]; exact (z_Tof (List.mem_of_getElem? (i := 267) (by decide +kernel)) (by decide +kernel))) rfl (hI) (hY.symm ▸ rfl) (by rcases z_isr_or hv with rfl | ⟨_, rfl⟩ <;> rfl) (by rcases z_isr_or hv with rfl | ⟨_, rfl⟩ <;> rfl) hw hl kk
theorem pfX3_15 (hY : Y.1.cls = RX3) (hI : Y.1.name = "<init>") {a : Nat} {fs : List Value} {v : Value} (d0 : decode Y.2.1 pc = .ok (.putfield 15, 3)) (hv : z_isr v = true) (hw : w a = some (.inr (3, fs))) (hl : 2 < fs.length) (kk : z_E G Y d Z (pc + 3) L st (z_up w a (.inr (3, fs.set 2 (v)))) k n) : z_E G Y d Z pc L (v :: .ref a :: st) w k n :=
  z_putF (ci := 3) (j := 2) d0 rfl inX3 tyX3 tyX3_ok nmX3 (by decide) (by rw [hY]; exact (z_Tof (List.mem_of_getElem? (i := 268) (by decide +kernel)) (by decide +kernel))) rfl (hI) (hY.symm ▸ rfl) (by rcases z_isr_or hv with rfl | ⟨_, rfl⟩ <;> rfl) (by rcases z_isr_or hv with rfl | ⟨_, rfl⟩ <;> rfl) hw hl kk
theorem pfX3_19 (hY : Y.1.cls = RX3) (hI : Y.1.name = "<init>") {a : Nat} {fs : List Value} {v : Value} (d0 : decode Y.2.1 pc = .ok (.putfield 19, 3)) (hv : z_isr v = true) (hw : w a = some (.inr (3, fs))) (hl : 3 < fs.length) (kk : z_E G Y d Z (pc + 3) L st (z_up w a (.inr (3, fs.set 3 (v)))) k n) : z_E G Y d Z pc L (v :: .ref a :: st) w k n :=
  z_putF (ci := 3) (j := 3) d0 rfl inX3 tyX3 tyX3_ok nmX3 (by decide) (by rw [hY]; exact (z_Tof (List.mem_of_getElem? (i := 269) (by decide +kernel)) (by decide +kernel))) rfl (hI) (hY.symm ▸ rfl) (by rcases z_isr_or hv with rfl | ⟨_, rfl⟩ <;> rfl) (by rcases z_isr_or hv with rfl | ⟨_, rfl⟩ <;> rfl) hw hl kk
theorem pfX3_22 (hY : Y.1.cls = RX3) (hI : Y.1.name = "<init>") {a : Nat} {fs : List Value} {x : Int32} (d0 : decode Y.2.1 pc = .ok (.putfield 22, 3)) (hw : w a = some (.inr (3, fs))) (hl : 0 < fs.length) (kk : z_E G Y d Z (pc + 3) L st (z_up w a (.inr (3, fs.set 0 (.int x)))) k n) : z_E G Y d Z pc L (.int x :: .ref a :: st) w k n :=
  z_putF (ci := 3) (j := 0) d0 rfl inX3 tyX3 tyX3_ok nmX3 (by decide) (by rw [hY]; exact (z_Tof (List.mem_of_getElem? (i := 265) (by decide +kernel)) (by decide +kernel))) rfl (hI) (hY.symm ▸ rfl) rfl rfl hw hl kk
theorem gfX3_9 (hY : Y.1.cls = RX3) {a : Nat} {fs : List Value} {v : Value} (d0 : decode Y.2.1 pc = .ok (.getfield 9, 3)) (hw : w a = some (.inr (3, fs))) (hv : fs[1]? = some v) (kk : z_E G Y d Z (pc + 3) L (v :: st) w k n) : z_E G Y d Z pc L (.ref a :: st) w k n :=
  z_get (ci := 3) (j := 1) d0 rfl inX3 (by decide) (by rw [hY]; exact (z_Tof (List.mem_of_getElem? (i := 267) (by decide +kernel)) (by decide +kernel))) hw hv kk
theorem gfX3_26 (hY : Y.1.cls = RX3) {a : Nat} {fs : List Value} {v : Value} (d0 : decode Y.2.1 pc = .ok (.getfield 26, 3)) (hw : w a = some (.inr (3, fs))) (hv : fs[4]? = some v) (kk : z_E G Y d Z (pc + 3) L (v :: st) w k n) : z_E G Y d Z pc L (.ref a :: st) w k n :=
  z_get (ci := 3) (j := 4) d0 rfl inX3 (by decide) (by rw [hY]; exact (z_Tof (List.mem_of_getElem? (i := 270) (by decide +kernel)) (by decide +kernel))) hw hv kk
theorem pfX3_26 (hY : Y.1.cls = RX3) {a : Nat} {fs : List Value} {x : Int32} (d0 : decode Y.2.1 pc = .ok (.putfield 26, 3)) (hw : w a = some (.inr (3, fs))) (hl : 4 < fs.length) (kk : z_E G Y d Z (pc + 3) L st (z_up w a (.inr (3, fs.set 4 (.int x)))) k n) : z_E G Y d Z pc L (.int x :: .ref a :: st) w k n :=
  z_put (ci := 3) (j := 4) d0 rfl inX3 tyX3 tyX3_ok nmX3 (by decide) (by rw [hY]; exact (z_Tof (List.mem_of_getElem? (i := 270) (by decide +kernel)) (by decide +kernel))) rfl rfl rfl hw hl kk
theorem cwX3_29 : z_cV RX3 29 zX3_endGame := ⟨(z_Tof (List.mem_of_getElem? (i := 388) (by decide +kernel)) (by decide +kernel)), (z_Tof (List.mem_of_getElem? (i := 390) (by decide +kernel)) (by decide +kernel)), (z_Tof (List.mem_of_getElem? (i := 2) (by decide +kernel)) (by decide +kernel)), (z_Tof (List.mem_of_getElem? (i := 36) (by decide +kernel)) (by decide +kernel)), (z_Tof (List.mem_of_getElem? (i := 391) (by decide +kernel)) (by decide +kernel))⟩
theorem gfX3_33 (hY : Y.1.cls = RX3) {a : Nat} {fs : List Value} {v : Value} (d0 : decode Y.2.1 pc = .ok (.getfield 33, 3)) (hw : w a = some (.inr (3, fs))) (hv : fs[5]? = some v) (kk : z_E G Y d Z (pc + 3) L (v :: st) w k n) : z_E G Y d Z pc L (.ref a :: st) w k n :=
  z_get (ci := 3) (j := 5) d0 rfl inX3 (by decide) (by rw [hY]; exact (z_Tof (List.mem_of_getElem? (i := 271) (by decide +kernel)) (by decide +kernel))) hw hv kk
theorem pfX3_33 (hY : Y.1.cls = RX3) {a : Nat} {fs : List Value} {x : Int32} (d0 : decode Y.2.1 pc = .ok (.putfield 33, 3)) (hw : w a = some (.inr (3, fs))) (hl : 5 < fs.length) (kk : z_E G Y d Z (pc + 3) L st (z_up w a (.inr (3, fs.set 5 (.int x)))) k n) : z_E G Y d Z pc L (.int x :: .ref a :: st) w k n :=
  z_put (ci := 3) (j := 5) d0 rfl inX3 tyX3 tyX3_ok nmX3 (by decide) (by rw [hY]; exact (z_Tof (List.mem_of_getElem? (i := 271) (by decide +kernel)) (by decide +kernel))) rfl rfl rfl hw hl kk
theorem gfX3_36 (hY : Y.1.cls = RX3) {a : Nat} {fs : List Value} {v : Value} (d0 : decode Y.2.1 pc = .ok (.getfield 36, 3)) (hw : w a = some (.inr (3, fs))) (hv : fs[6]? = some v) (kk : z_E G Y d Z (pc + 3) L (v :: st) w k n) : z_E G Y d Z pc L (.ref a :: st) w k n :=
  z_get (ci := 3) (j := 6) d0 rfl inX3 (by decide) (by rw [hY]; exact (z_Tof (List.mem_of_getElem? (i := 272) (by decide +kernel)) (by decide +kernel))) hw hv kk
theorem pfX3_36 (hY : Y.1.cls = RX3) {a : Nat} {fs : List Value} {x : Int32} (d0 : decode Y.2.1 pc = .ok (.putfield 36, 3)) (hw : w a = some (.inr (3, fs))) (hl : 6 < fs.length) (kk : z_E G Y d Z (pc + 3) L st (z_up w a (.inr (3, fs.set 6 (.int x)))) k n) : z_E G Y d Z pc L (.int x :: .ref a :: st) w k n :=
  z_put (ci := 3) (j := 6) d0 rfl inX3 tyX3 tyX3_ok nmX3 (by decide) (by rw [hY]; exact (z_Tof (List.mem_of_getElem? (i := 272) (by decide +kernel)) (by decide +kernel))) rfl rfl rfl hw hl kk
theorem gfX3_22 (hY : Y.1.cls = RX3) {a : Nat} {fs : List Value} {v : Value} (d0 : decode Y.2.1 pc = .ok (.getfield 22, 3)) (hw : w a = some (.inr (3, fs))) (hv : fs[0]? = some v) (kk : z_E G Y d Z (pc + 3) L (v :: st) w k n) : z_E G Y d Z pc L (.ref a :: st) w k n :=
  z_get (ci := 3) (j := 0) d0 rfl inX3 (by decide) (by rw [hY]; exact (z_Tof (List.mem_of_getElem? (i := 265) (by decide +kernel)) (by decide +kernel))) hw hv kk
theorem gfX3_19 (hY : Y.1.cls = RX3) {a : Nat} {fs : List Value} {v : Value} (d0 : decode Y.2.1 pc = .ok (.getfield 19, 3)) (hw : w a = some (.inr (3, fs))) (hv : fs[3]? = some v) (kk : z_E G Y d Z (pc + 3) L (v :: st) w k n) : z_E G Y d Z pc L (.ref a :: st) w k n :=
  z_get (ci := 3) (j := 3) d0 rfl inX3 (by decide) (by rw [hY]; exact (z_Tof (List.mem_of_getElem? (i := 269) (by decide +kernel)) (by decide +kernel))) hw hv kk
theorem gfX3_15 (hY : Y.1.cls = RX3) {a : Nat} {fs : List Value} {v : Value} (d0 : decode Y.2.1 pc = .ok (.getfield 15, 3)) (hw : w a = some (.inr (3, fs))) (hv : fs[2]? = some v) (kk : z_E G Y d Z (pc + 3) L (v :: st) w k n) : z_E G Y d Z pc L (.ref a :: st) w k n :=
  z_get (ci := 3) (j := 2) d0 rfl inX3 (by decide) (by rw [hY]; exact (z_Tof (List.mem_of_getElem? (i := 268) (by decide +kernel)) (by decide +kernel))) hw hv kk
theorem cwX3_39 : z_cV RX3 39 zX3_ratingIn := ⟨(z_Tof (List.mem_of_getElem? (i := 523) (by decide +kernel)) (by decide +kernel)), (z_Tof (List.mem_of_getElem? (i := 524) (by decide +kernel)) (by decide +kernel)), (z_Tof (List.mem_of_getElem? (i := 525) (by decide +kernel)) (by decide +kernel)), (z_Tof (List.mem_of_getElem? (i := 36) (by decide +kernel)) (by decide +kernel)), (z_Tof (List.mem_of_getElem? (i := 526) (by decide +kernel)) (by decide +kernel))⟩
theorem cwX3_43 : z_cS RX3 43 zX3_ratingBehindTry := ⟨(z_Tof (List.mem_of_getElem? (i := 505) (by decide +kernel)) (by decide +kernel)), (z_Tof (List.mem_of_getElem? (i := 506) (by decide +kernel)) (by decide +kernel)), (z_Tof (List.mem_of_getElem? (i := 36) (by decide +kernel)) (by decide +kernel)), (z_Tof (List.mem_of_getElem? (i := 507) (by decide +kernel)) (by decide +kernel))⟩
theorem oiX4_3 (hY : Y.1.cls = RX4) {a : Nat} (d0 : decode Y.2.1 pc = .ok (.invokespecial 3, 3)) (hdd : 1 ≤ d) (hst : (st.map fun v => v.category).sum ≤ 8) (kk : z_E G Y d Z (pc + 3) L st w k n) : z_E G Y d Z pc L (.ref a :: st) w k n :=
  z_objInit d0 (by rw [hY]; exact (z_Tof (List.mem_of_getElem? (i := 445) (by decide +kernel)) (by decide +kernel))) (z_Tof (List.mem_of_getElem? (i := 47) (by decide +kernel)) (by decide +kernel)) (z_Tof (List.mem_of_getElem? (i := 48) (by decide +kernel)) (by decide +kernel)) hdd hst kk
theorem pfX4_9 (hY : Y.1.cls = RX4) (hI : Y.1.name = "<init>") {a : Nat} {fs : List Value} {x : Int32} (d0 : decode Y.2.1 pc = .ok (.putfield 9, 3)) (hw : w a = some (.inr (4, fs))) (hl : 0 < fs.length) (kk : z_E G Y d Z (pc + 3) L st (z_up w a (.inr (4, fs.set 0 (.int x)))) k n) : z_E G Y d Z pc L (.int x :: .ref a :: st) w k n :=
  z_putF (ci := 4) (j := 0) d0 rfl inX4 tyX4 tyX4_ok nmX4 (by decide) (by rw [hY]; exact (z_Tof (List.mem_of_getElem? (i := 446) (by decide +kernel)) (by decide +kernel))) rfl (hI) (hY.symm ▸ rfl) rfl rfl hw hl kk
theorem pfX4_15 (hY : Y.1.cls = RX4) (hI : Y.1.name = "<init>") {a : Nat} {fs : List Value} {x : Int32} (d0 : decode Y.2.1 pc = .ok (.putfield 15, 3)) (hw : w a = some (.inr (4, fs))) (hl : 1 < fs.length) (kk : z_E G Y d Z (pc + 3) L st (z_up w a (.inr (4, fs.set 1 (.int x)))) k n) : z_E G Y d Z pc L (.int x :: .ref a :: st) w k n :=
  z_putF (ci := 4) (j := 1) d0 rfl inX4 tyX4 tyX4_ok nmX4 (by decide) (by rw [hY]; exact (z_Tof (List.mem_of_getElem? (i := 448) (by decide +kernel)) (by decide +kernel))) rfl (hI) (hY.symm ▸ rfl) rfl rfl hw hl kk
theorem pfX4_18 (hY : Y.1.cls = RX4) (hI : Y.1.name = "<init>") {a : Nat} {fs : List Value} {x : Int32} (d0 : decode Y.2.1 pc = .ok (.putfield 18, 3)) (hw : w a = some (.inr (4, fs))) (hl : 2 < fs.length) (kk : z_E G Y d Z (pc + 3) L st (z_up w a (.inr (4, fs.set 2 (.int x)))) k n) : z_E G Y d Z pc L (.int x :: .ref a :: st) w k n :=
  z_putF (ci := 4) (j := 2) d0 rfl inX4 tyX4 tyX4_ok nmX4 (by decide) (by rw [hY]; exact (z_Tof (List.mem_of_getElem? (i := 450) (by decide +kernel)) (by decide +kernel))) rfl (hI) (hY.symm ▸ rfl) rfl rfl hw hl kk
theorem oiX5_1 (hY : Y.1.cls = RX5) {a : Nat} (d0 : decode Y.2.1 pc = .ok (.invokespecial 1, 3)) (hdd : 1 ≤ d) (hst : (st.map fun v => v.category).sum ≤ 8) (kk : z_E G Y d Z (pc + 3) L st w k n) : z_E G Y d Z pc L (.ref a :: st) w k n :=
  z_objInit d0 (by rw [hY]; exact (z_Tof (List.mem_of_getElem? (i := 46) (by decide +kernel)) (by decide +kernel))) (z_Tof (List.mem_of_getElem? (i := 47) (by decide +kernel)) (by decide +kernel)) (z_Tof (List.mem_of_getElem? (i := 48) (by decide +kernel)) (by decide +kernel)) hdd hst kk
theorem awX5_9 : Cond.classLink RX5 9 RX3 ∈ z_T := (z_Tof (List.mem_of_getElem? (i := 49) (by decide +kernel)) (by decide +kernel))
theorem pfX5_11 (hY : Y.1.cls = RX5) (hI : Y.1.name = "<init>") {a : Nat} {fs : List Value} {v : Value} (d0 : decode Y.2.1 pc = .ok (.putfield 11, 3)) (hv : z_isr v = true) (hw : w a = some (.inr (5, fs))) (hl : 0 < fs.length) (kk : z_E G Y d Z (pc + 3) L st (z_up w a (.inr (5, fs.set 0 (v)))) k n) : z_E G Y d Z pc L (v :: .ref a :: st) w k n :=
  z_putF (ci := 5) (j := 0) d0 rfl inX5 tyX5 tyX5_ok nmX5 (by decide) (by rw [hY]; exact (z_Tof (List.mem_of_getElem? (i := 90) (by decide +kernel)) (by decide +kernel))) rfl (hI) (hY.symm ▸ rfl) (by rcases z_isr_or hv with rfl | ⟨_, rfl⟩ <;> rfl) (by rcases z_isr_or hv with rfl | ⟨_, rfl⟩ <;> rfl) hw hl kk
theorem awX5_15 : Cond.classLink RX5 15 RX1 ∈ z_T := (z_Tof (List.mem_of_getElem? (i := 51) (by decide +kernel)) (by decide +kernel))
theorem pfX5_17 (hY : Y.1.cls = RX5) (hI : Y.1.name = "<init>") {a : Nat} {fs : List Value} {v : Value} (d0 : decode Y.2.1 pc = .ok (.putfield 17, 3)) (hv : z_isr v = true) (hw : w a = some (.inr (5, fs))) (hl : 2 < fs.length) (kk : z_E G Y d Z (pc + 3) L st (z_up w a (.inr (5, fs.set 2 (v)))) k n) : z_E G Y d Z pc L (v :: .ref a :: st) w k n :=
  z_putF (ci := 5) (j := 2) d0 rfl inX5 tyX5 tyX5_ok nmX5 (by decide) (by rw [hY]; exact (z_Tof (List.mem_of_getElem? (i := 92) (by decide +kernel)) (by decide +kernel))) rfl (hI) (hY.symm ▸ rfl) (by rcases z_isr_or hv with rfl | ⟨_, rfl⟩ <;> rfl) (by rcases z_isr_or hv with rfl | ⟨_, rfl⟩ <;> rfl) hw hl kk
theorem awX5_21 : Cond.classLink RX5 21 RX4 ∈ z_T := (z_Tof (List.mem_of_getElem? (i := 53) (by decide +kernel)) (by decide +kernel))
theorem pfX5_23 (hY : Y.1.cls = RX5) (hI : Y.1.name = "<init>") {a : Nat} {fs : List Value} {v : Value} (d0 : decode Y.2.1 pc = .ok (.putfield 23, 3)) (hv : z_isr v = true) (hw : w a = some (.inr (5, fs))) (hl : 5 < fs.length) (kk : z_E G Y d Z (pc + 3) L st (z_up w a (.inr (5, fs.set 5 (v)))) k n) : z_E G Y d Z pc L (v :: .ref a :: st) w k n :=
  z_putF (ci := 5) (j := 5) d0 rfl inX5 tyX5 tyX5_ok nmX5 (by decide) (by rw [hY]; exact (z_Tof (List.mem_of_getElem? (i := 95) (by decide +kernel)) (by decide +kernel))) rfl (hI) (hY.symm ▸ rfl) (by rcases z_isr_or hv with rfl | ⟨_, rfl⟩ <;> rfl) (by rcases z_isr_or hv with rfl | ⟨_, rfl⟩ <;> rfl) hw hl kk
theorem nwX5_27 (hY : Y.1.cls = RX5) (d0 : decode Y.2.1 pc = .ok (.new 27, 3)) (hk1 : 1 ≤ k) (hn1 : 1 ≤ n) (kk : ∀ q : Nat, w q = none → z_E G Y d Z (pc + 3) L (.ref q :: st) (z_up w q (.inr (0, [.null]))) (k - 1) (n - 1)) : z_E G Y d Z pc L st w k n :=
  z_new (ci := 0) (fs := [.null]) d0 rfl inX0 tyX0 tyX0_ok (fun j hj => by
    have h : j = 0 := by omega
    subst h <;> rfl) (by rw [hY]; exact (z_Tof (List.mem_of_getElem? (i := 55) (by decide +kernel)) (by decide +kernel))) (z_Tof (List.mem_of_getElem? (i := 56) (by decide +kernel)) (by decide +kernel)) (z_Tof (List.mem_of_getElem? (i := 28) (by decide +kernel)) (by decide +kernel)) hk1 hn1 kk
theorem cwX5_29 : z_cIN RX5 29 zX0_init := ⟨⟨"ClubAcademy", by decide +kernel⟩, (z_Tof (List.mem_of_getElem? (i := 58) (by decide +kernel)) (by decide +kernel)), (z_Tof (List.mem_of_getElem? (i := 28) (by decide +kernel)) (by decide +kernel)), (z_Tof (List.mem_of_getElem? (i := 59) (by decide +kernel)) (by decide +kernel)), rfl, rfl⟩
theorem pfX5_30 (hY : Y.1.cls = RX5) (hI : Y.1.name = "<init>") {a : Nat} {fs : List Value} {v : Value} (d0 : decode Y.2.1 pc = .ok (.putfield 30, 3)) (hv : z_isr v = true) (hw : w a = some (.inr (5, fs))) (hl : 7 < fs.length) (kk : z_E G Y d Z (pc + 3) L st (z_up w a (.inr (5, fs.set 7 (v)))) k n) : z_E G Y d Z pc L (v :: .ref a :: st) w k n :=
  z_putF (ci := 5) (j := 7) d0 rfl inX5 tyX5 tyX5_ok nmX5 (by decide) (by rw [hY]; exact (z_Tof (List.mem_of_getElem? (i := 97) (by decide +kernel)) (by decide +kernel))) rfl (hI) (hY.symm ▸ rfl) (by rcases z_isr_or hv with rfl | ⟨_, rfl⟩ <;> rfl) (by rcases z_isr_or hv with rfl | ⟨_, rfl⟩ <;> rfl) hw hl kk
theorem cwX5_34 : z_cS RX5 34 zX5_checkPosition := ⟨(z_Tof (List.mem_of_getElem? (i := 135) (by decide +kernel)) (by decide +kernel)), (z_Tof (List.mem_of_getElem? (i := 136) (by decide +kernel)) (by decide +kernel)), (z_Tof (List.mem_of_getElem? (i := 27) (by decide +kernel)) (by decide +kernel)), (z_Tof (List.mem_of_getElem? (i := 137) (by decide +kernel)) (by decide +kernel))⟩
theorem cwX5_38 : z_cS RX5 38 zX5_checkMove := ⟨(z_Tof (List.mem_of_getElem? (i := 206) (by decide +kernel)) (by decide +kernel)), (z_Tof (List.mem_of_getElem? (i := 207) (by decide +kernel)) (by decide +kernel)), (z_Tof (List.mem_of_getElem? (i := 27) (by decide +kernel)) (by decide +kernel)), (z_Tof (List.mem_of_getElem? (i := 208) (by decide +kernel)) (by decide +kernel))⟩
theorem cwX5_41 : z_cS RX5 41 zX5_positionAfter := ⟨(z_Tof (List.mem_of_getElem? (i := 210) (by decide +kernel)) (by decide +kernel)), (z_Tof (List.mem_of_getElem? (i := 211) (by decide +kernel)) (by decide +kernel)), (z_Tof (List.mem_of_getElem? (i := 27) (by decide +kernel)) (by decide +kernel)), (z_Tof (List.mem_of_getElem? (i := 212) (by decide +kernel)) (by decide +kernel))⟩
theorem cwX5_45 : z_cS RX5 45 zX5_worthOf := ⟨(z_Tof (List.mem_of_getElem? (i := 220) (by decide +kernel)) (by decide +kernel)), (z_Tof (List.mem_of_getElem? (i := 221) (by decide +kernel)) (by decide +kernel)), (z_Tof (List.mem_of_getElem? (i := 27) (by decide +kernel)) (by decide +kernel)), (z_Tof (List.mem_of_getElem? (i := 222) (by decide +kernel)) (by decide +kernel))⟩
theorem cwX5_49 : z_cS RX5 49 zX5_bestMove := ⟨(z_Tof (List.mem_of_getElem? (i := 230) (by decide +kernel)) (by decide +kernel)), (z_Tof (List.mem_of_getElem? (i := 231) (by decide +kernel)) (by decide +kernel)), (z_Tof (List.mem_of_getElem? (i := 27) (by decide +kernel)) (by decide +kernel)), (z_Tof (List.mem_of_getElem? (i := 232) (by decide +kernel)) (by decide +kernel))⟩
theorem gfX5_52 (hY : Y.1.cls = RX5) {a : Nat} {fs : List Value} {v : Value} (d0 : decode Y.2.1 pc = .ok (.getfield 52, 3)) (hw : w a = some (.inr (5, fs))) (hv : fs[1]? = some v) (kk : z_E G Y d Z (pc + 3) L (v :: st) w k n) : z_E G Y d Z pc L (.ref a :: st) w k n :=
  z_get (ci := 5) (j := 1) d0 rfl inX5 (by decide) (by rw [hY]; exact (z_Tof (List.mem_of_getElem? (i := 91) (by decide +kernel)) (by decide +kernel))) hw hv kk
theorem gfX5_11 (hY : Y.1.cls = RX5) {a : Nat} {fs : List Value} {v : Value} (d0 : decode Y.2.1 pc = .ok (.getfield 11, 3)) (hw : w a = some (.inr (5, fs))) (hv : fs[0]? = some v) (kk : z_E G Y d Z (pc + 3) L (v :: st) w k n) : z_E G Y d Z pc L (.ref a :: st) w k n :=
  z_get (ci := 5) (j := 0) d0 rfl inX5 (by decide) (by rw [hY]; exact (z_Tof (List.mem_of_getElem? (i := 90) (by decide +kernel)) (by decide +kernel))) hw hv kk
theorem nwX5_9 (hY : Y.1.cls = RX5) (d0 : decode Y.2.1 pc = .ok (.new 9, 3)) (hk1 : 1 ≤ k) (hn1 : 8 ≤ n) (kk : ∀ q : Nat, w q = none → z_E G Y d Z (pc + 3) L (.ref q :: st) (z_up w q (.inr (3, [.int 0, .null, .null, .null, .int 0, .int 0, .int 0, .null]))) (k - 1) (n - 8)) : z_E G Y d Z pc L st w k n :=
  z_new (ci := 3) (fs := [.int 0, .null, .null, .null, .int 0, .int 0, .int 0, .null]) d0 rfl inX3 tyX3 tyX3_ok (fun j hj => by
    have h : j = 0 ∨ j = 1 ∨ j = 2 ∨ j = 3 ∨ j = 4 ∨ j = 5 ∨ j = 6 ∨ j = 7 := by omega
    rcases h with rfl | rfl | rfl | rfl | rfl | rfl | rfl | rfl <;> rfl) (by rw [hY]; exact (z_Tof (List.mem_of_getElem? (i := 49) (by decide +kernel)) (by decide +kernel))) (z_Tof (List.mem_of_getElem? (i := 260) (by decide +kernel)) (by decide +kernel)) (z_Tof (List.mem_of_getElem? (i := 36) (by decide +kernel)) (by decide +kernel)) hk1 hn1 kk
theorem cwX5_63 : z_cI RX5 63 zX3_init := ⟨(z_Tof (List.mem_of_getElem? (i := 261) (by decide +kernel)) (by decide +kernel)), (z_Tof (List.mem_of_getElem? (i := 262) (by decide +kernel)) (by decide +kernel)), (z_Tof (List.mem_of_getElem? (i := 36) (by decide +kernel)) (by decide +kernel)), (z_Tof (List.mem_of_getElem? (i := 263) (by decide +kernel)) (by decide +kernel)), rfl, rfl⟩
theorem pfX5_52 (hY : Y.1.cls = RX5) {a : Nat} {fs : List Value} {x : Int32} (d0 : decode Y.2.1 pc = .ok (.putfield 52, 3)) (hw : w a = some (.inr (5, fs))) (hl : 1 < fs.length) (kk : z_E G Y d Z (pc + 3) L st (z_up w a (.inr (5, fs.set 1 (.int x)))) k n) : z_E G Y d Z pc L (.int x :: .ref a :: st) w k n :=
  z_put (ci := 5) (j := 1) d0 rfl inX5 tyX5 tyX5_ok nmX5 (by decide) (by rw [hY]; exact (z_Tof (List.mem_of_getElem? (i := 91) (by decide +kernel)) (by decide +kernel))) rfl rfl rfl hw hl kk
theorem cwX5_65 : z_cV RX5 65 zX5_knownPlayer := ⟨(z_Tof (List.mem_of_getElem? (i := 302) (by decide +kernel)) (by decide +kernel)), (z_Tof (List.mem_of_getElem? (i := 304) (by decide +kernel)) (by decide +kernel)), (z_Tof (List.mem_of_getElem? (i := 1) (by decide +kernel)) (by decide +kernel)), (z_Tof (List.mem_of_getElem? (i := 27) (by decide +kernel)) (by decide +kernel)), (z_Tof (List.mem_of_getElem? (i := 305) (by decide +kernel)) (by decide +kernel))⟩
theorem gfX5_74 (hY : Y.1.cls = RX5) {a : Nat} {fs : List Value} {v : Value} (d0 : decode Y.2.1 pc = .ok (.getfield 74, 3)) (hw : w a = some (.inr (5, fs))) (hv : fs[4]? = some v) (kk : z_E G Y d Z (pc + 3) L (v :: st) w k n) : z_E G Y d Z pc L (.ref a :: st) w k n :=
  z_get (ci := 5) (j := 4) d0 rfl inX5 (by decide) (by rw [hY]; exact (z_Tof (List.mem_of_getElem? (i := 94) (by decide +kernel)) (by decide +kernel))) hw hv kk
theorem gfX5_80 (hY : Y.1.cls = RX5) {a : Nat} {fs : List Value} {v : Value} (d0 : decode Y.2.1 pc = .ok (.getfield 80, 3)) (hw : w a = some (.inr (5, fs))) (hv : fs[3]? = some v) (kk : z_E G Y d Z (pc + 3) L (v :: st) w k n) : z_E G Y d Z pc L (.ref a :: st) w k n :=
  z_get (ci := 5) (j := 3) d0 rfl inX5 (by decide) (by rw [hY]; exact (z_Tof (List.mem_of_getElem? (i := 93) (by decide +kernel)) (by decide +kernel))) hw hv kk
theorem gfX5_17 (hY : Y.1.cls = RX5) {a : Nat} {fs : List Value} {v : Value} (d0 : decode Y.2.1 pc = .ok (.getfield 17, 3)) (hw : w a = some (.inr (5, fs))) (hv : fs[2]? = some v) (kk : z_E G Y d Z (pc + 3) L (v :: st) w k n) : z_E G Y d Z pc L (.ref a :: st) w k n :=
  z_get (ci := 5) (j := 2) d0 rfl inX5 (by decide) (by rw [hY]; exact (z_Tof (List.mem_of_getElem? (i := 92) (by decide +kernel)) (by decide +kernel))) hw hv kk
theorem nwX5_15 (hY : Y.1.cls = RX5) (d0 : decode Y.2.1 pc = .ok (.new 15, 3)) (hk1 : 1 ≤ k) (hn1 : 6 ≤ n) (kk : ∀ q : Nat, w q = none → z_E G Y d Z (pc + 3) L (.ref q :: st) (z_up w q (.inr (1, [.null, .null, .null, .int 0, .int 0, .int 0]))) (k - 1) (n - 6)) : z_E G Y d Z pc L st w k n :=
  z_new (ci := 1) (fs := [.null, .null, .null, .int 0, .int 0, .int 0]) d0 rfl inX1 tyX1 tyX1_ok (fun j hj => by
    have h : j = 0 ∨ j = 1 ∨ j = 2 ∨ j = 3 ∨ j = 4 ∨ j = 5 := by omega
    rcases h with rfl | rfl | rfl | rfl | rfl | rfl <;> rfl) (by rw [hY]; exact (z_Tof (List.mem_of_getElem? (i := 51) (by decide +kernel)) (by decide +kernel))) (z_Tof (List.mem_of_getElem? (i := 325) (by decide +kernel)) (by decide +kernel)) (z_Tof (List.mem_of_getElem? (i := 38) (by decide +kernel)) (by decide +kernel)) hk1 hn1 kk
theorem cwX5_85 : z_cI RX5 85 zX1_init := ⟨(z_Tof (List.mem_of_getElem? (i := 326) (by decide +kernel)) (by decide +kernel)), (z_Tof (List.mem_of_getElem? (i := 327) (by decide +kernel)) (by decide +kernel)), (z_Tof (List.mem_of_getElem? (i := 38) (by decide +kernel)) (by decide +kernel)), (z_Tof (List.mem_of_getElem? (i := 328) (by decide +kernel)) (by decide +kernel)), rfl, rfl⟩
theorem pfX5_74 (hY : Y.1.cls = RX5) {a : Nat} {fs : List Value} {v : Value} (d0 : decode Y.2.1 pc = .ok (.putfield 74, 3)) (hv : z_isr v = true) (hw : w a = some (.inr (5, fs))) (hl : 4 < fs.length) (kk : z_E G Y d Z (pc + 3) L st (z_up w a (.inr (5, fs.set 4 (v)))) k n) : z_E G Y d Z pc L (v :: .ref a :: st) w k n :=
  z_put (ci := 5) (j := 4) d0 rfl inX5 tyX5 tyX5_ok nmX5 (by decide) (by rw [hY]; exact (z_Tof (List.mem_of_getElem? (i := 94) (by decide +kernel)) (by decide +kernel))) rfl (by rcases z_isr_or hv with rfl | ⟨_, rfl⟩ <;> rfl) (by rcases z_isr_or hv with rfl | ⟨_, rfl⟩ <;> rfl) hw hl kk
theorem pfX5_80 (hY : Y.1.cls = RX5) {a : Nat} {fs : List Value} {x : Int32} (d0 : decode Y.2.1 pc = .ok (.putfield 80, 3)) (hw : w a = some (.inr (5, fs))) (hl : 3 < fs.length) (kk : z_E G Y d Z (pc + 3) L st (z_up w a (.inr (5, fs.set 3 (.int x)))) k n) : z_E G Y d Z pc L (.int x :: .ref a :: st) w k n :=
  z_put (ci := 5) (j := 3) d0 rfl inX5 tyX5 tyX5_ok nmX5 (by decide) (by rw [hY]; exact (z_Tof (List.mem_of_getElem? (i := 93) (by decide +kernel)) (by decide +kernel))) rfl rfl rfl hw hl kk
theorem cwX5_90 : z_cV RX5 90 zX1_isFull := ⟨(z_Tof (List.mem_of_getElem? (i := 363) (by decide +kernel)) (by decide +kernel)), (z_Tof (List.mem_of_getElem? (i := 364) (by decide +kernel)) (by decide +kernel)), (z_Tof (List.mem_of_getElem? (i := 365) (by decide +kernel)) (by decide +kernel)), (z_Tof (List.mem_of_getElem? (i := 38) (by decide +kernel)) (by decide +kernel)), (z_Tof (List.mem_of_getElem? (i := 366) (by decide +kernel)) (by decide +kernel))⟩
theorem gfX5_96 (hY : Y.1.cls = RX5) {a : Nat} {fs : List Value} {v : Value} (d0 : decode Y.2.1 pc = .ok (.getfield 96, 3)) (hw : w a = some (.inr (1, fs))) (hv : fs[4]? = some v) (kk : z_E G Y d Z (pc + 3) L (v :: st) w k n) : z_E G Y d Z pc L (.ref a :: st) w k n :=
  z_get (ci := 1) (j := 4) d0 rfl inX1 (by decide) (by rw [hY]; exact (z_Tof (List.mem_of_getElem? (i := 339) (by decide +kernel)) (by decide +kernel))) hw hv kk
theorem cwX5_99 : z_cS RX5 99 zX5_isBlunder := ⟨(z_Tof (List.mem_of_getElem? (i := 368) (by decide +kernel)) (by decide +kernel)), (z_Tof (List.mem_of_getElem? (i := 369) (by decide +kernel)) (by decide +kernel)), (z_Tof (List.mem_of_getElem? (i := 27) (by decide +kernel)) (by decide +kernel)), (z_Tof (List.mem_of_getElem? (i := 370) (by decide +kernel)) (by decide +kernel))⟩
theorem cwX5_103 : z_cV RX5 103 zX1_addMove := ⟨(z_Tof (List.mem_of_getElem? (i := 371) (by decide +kernel)) (by decide +kernel)), (z_Tof (List.mem_of_getElem? (i := 372) (by decide +kernel)) (by decide +kernel)), (z_Tof (List.mem_of_getElem? (i := 373) (by decide +kernel)) (by decide +kernel)), (z_Tof (List.mem_of_getElem? (i := 38) (by decide +kernel)) (by decide +kernel)), (z_Tof (List.mem_of_getElem? (i := 374) (by decide +kernel)) (by decide +kernel))⟩
theorem pfX5_108 (hY : Y.1.cls = RX5) {a : Nat} {fs : List Value} {x : Int32} (d0 : decode Y.2.1 pc = .ok (.putfield 108, 3)) (hw : w a = some (.inr (1, fs))) (hl : 5 < fs.length) (kk : z_E G Y d Z (pc + 3) L st (z_up w a (.inr (1, fs.set 5 (.int x)))) k n) : z_E G Y d Z pc L (.int x :: .ref a :: st) w k n :=
  z_put (ci := 1) (j := 5) d0 rfl inX1 tyX1 tyX1_ok nmX1 (by decide) (by rw [hY]; exact (z_Tof (List.mem_of_getElem? (i := 341) (by decide +kernel)) (by decide +kernel))) rfl rfl rfl hw hl kk
theorem gfX5_111 (hY : Y.1.cls = RX5) {a : Nat} {fs : List Value} {v : Value} (d0 : decode Y.2.1 pc = .ok (.getfield 111, 3)) (hw : w a = some (.inr (1, fs))) (hv : fs[0]? = some v) (kk : z_E G Y d Z (pc + 3) L (v :: st) w k n) : z_E G Y d Z pc L (.ref a :: st) w k n :=
  z_get (ci := 1) (j := 0) d0 rfl inX1 (by decide) (by rw [hY]; exact (z_Tof (List.mem_of_getElem? (i := 331) (by decide +kernel)) (by decide +kernel))) hw hv kk
theorem gfX5_115 (hY : Y.1.cls = RX5) {a : Nat} {fs : List Value} {v : Value} (d0 : decode Y.2.1 pc = .ok (.getfield 115, 3)) (hw : w a = some (.inr (1, fs))) (hv : fs[1]? = some v) (kk : z_E G Y d Z (pc + 3) L (v :: st) w k n) : z_E G Y d Z pc L (.ref a :: st) w k n :=
  z_get (ci := 1) (j := 1) d0 rfl inX1 (by decide) (by rw [hY]; exact (z_Tof (List.mem_of_getElem? (i := 333) (by decide +kernel)) (by decide +kernel))) hw hv kk
theorem cwX5_118 : z_cV RX5 118 zX3_endGameAsWhite := ⟨(z_Tof (List.mem_of_getElem? (i := 384) (by decide +kernel)) (by decide +kernel)), (z_Tof (List.mem_of_getElem? (i := 385) (by decide +kernel)) (by decide +kernel)), (z_Tof (List.mem_of_getElem? (i := 386) (by decide +kernel)) (by decide +kernel)), (z_Tof (List.mem_of_getElem? (i := 36) (by decide +kernel)) (by decide +kernel)), (z_Tof (List.mem_of_getElem? (i := 387) (by decide +kernel)) (by decide +kernel))⟩
theorem cwX5_122 : z_cV RX5 122 zX3_endGameAsBlack := ⟨(z_Tof (List.mem_of_getElem? (i := 392) (by decide +kernel)) (by decide +kernel)), (z_Tof (List.mem_of_getElem? (i := 393) (by decide +kernel)) (by decide +kernel)), (z_Tof (List.mem_of_getElem? (i := 394) (by decide +kernel)) (by decide +kernel)), (z_Tof (List.mem_of_getElem? (i := 36) (by decide +kernel)) (by decide +kernel)), (z_Tof (List.mem_of_getElem? (i := 395) (by decide +kernel)) (by decide +kernel))⟩
theorem gfX5_30 (hY : Y.1.cls = RX5) {a : Nat} {fs : List Value} {v : Value} (d0 : decode Y.2.1 pc = .ok (.getfield 30, 3)) (hw : w a = some (.inr (5, fs))) (hv : fs[7]? = some v) (kk : z_E G Y d Z (pc + 3) L (v :: st) w k n) : z_E G Y d Z pc L (.ref a :: st) w k n :=
  z_get (ci := 5) (j := 7) d0 rfl inX5 (by decide) (by rw [hY]; exact (z_Tof (List.mem_of_getElem? (i := 97) (by decide +kernel)) (by decide +kernel))) hw hv kk
theorem cwX5_125 : z_cV RX5 125 zX0_keepResult := ⟨(z_Tof (List.mem_of_getElem? (i := 396) (by decide +kernel)) (by decide +kernel)), (z_Tof (List.mem_of_getElem? (i := 397) (by decide +kernel)) (by decide +kernel)), (z_Tof (List.mem_of_getElem? (i := 398) (by decide +kernel)) (by decide +kernel)), (z_Tof (List.mem_of_getElem? (i := 28) (by decide +kernel)) (by decide +kernel)), (z_Tof (List.mem_of_getElem? (i := 399) (by decide +kernel)) (by decide +kernel))⟩
theorem cwX5_129 : z_cV RX5 129 zX5_makePuzzles := ⟨(z_Tof (List.mem_of_getElem? (i := 428) (by decide +kernel)) (by decide +kernel)), (z_Tof (List.mem_of_getElem? (i := 430) (by decide +kernel)) (by decide +kernel)), (z_Tof (List.mem_of_getElem? (i := 5) (by decide +kernel)) (by decide +kernel)), (z_Tof (List.mem_of_getElem? (i := 27) (by decide +kernel)) (by decide +kernel)), (z_Tof (List.mem_of_getElem? (i := 431) (by decide +kernel)) (by decide +kernel))⟩
theorem gfX5_133 (hY : Y.1.cls = RX5) {a : Nat} {fs : List Value} {v : Value} (d0 : decode Y.2.1 pc = .ok (.getfield 133, 3)) (hw : w a = some (.inr (3, fs))) (hv : fs[6]? = some v) (kk : z_E G Y d Z (pc + 3) L (v :: st) w k n) : z_E G Y d Z pc L (.ref a :: st) w k n :=
  z_get (ci := 3) (j := 6) d0 rfl inX3 (by decide) (by rw [hY]; exact (z_Tof (List.mem_of_getElem? (i := 273) (by decide +kernel)) (by decide +kernel))) hw hv kk
theorem gfX5_136 (hY : Y.1.cls = RX5) {a : Nat} {fs : List Value} {v : Value} (d0 : decode Y.2.1 pc = .ok (.getfield 136, 3)) (hw : w a = some (.inr (5, fs))) (hv : fs[6]? = some v) (kk : z_E G Y d Z (pc + 3) L (v :: st) w k n) : z_E G Y d Z pc L (.ref a :: st) w k n :=
  z_get (ci := 5) (j := 6) d0 rfl inX5 (by decide) (by rw [hY]; exact (z_Tof (List.mem_of_getElem? (i := 96) (by decide +kernel)) (by decide +kernel))) hw hv kk
theorem cwX5_139 : z_cV RX5 139 zX5_knownPuzzle := ⟨(z_Tof (List.mem_of_getElem? (i := 473) (by decide +kernel)) (by decide +kernel)), (z_Tof (List.mem_of_getElem? (i := 475) (by decide +kernel)) (by decide +kernel)), (z_Tof (List.mem_of_getElem? (i := 8) (by decide +kernel)) (by decide +kernel)), (z_Tof (List.mem_of_getElem? (i := 27) (by decide +kernel)) (by decide +kernel)), (z_Tof (List.mem_of_getElem? (i := 476) (by decide +kernel)) (by decide +kernel))⟩
theorem gfX5_143 (hY : Y.1.cls = RX5) {a : Nat} {fs : List Value} {v : Value} (d0 : decode Y.2.1 pc = .ok (.getfield 143, 3)) (hw : w a = some (.inr (4, fs))) (hv : fs[0]? = some v) (kk : z_E G Y d Z (pc + 3) L (v :: st) w k n) : z_E G Y d Z pc L (.ref a :: st) w k n :=
  z_get (ci := 4) (j := 0) d0 rfl inX4 (by decide) (by rw [hY]; exact (z_Tof (List.mem_of_getElem? (i := 447) (by decide +kernel)) (by decide +kernel))) hw hv kk
theorem gfX5_146 (hY : Y.1.cls = RX5) {a : Nat} {fs : List Value} {v : Value} (d0 : decode Y.2.1 pc = .ok (.getfield 146, 3)) (hw : w a = some (.inr (4, fs))) (hv : fs[2]? = some v) (kk : z_E G Y d Z (pc + 3) L (v :: st) w k n) : z_E G Y d Z pc L (.ref a :: st) w k n :=
  z_get (ci := 4) (j := 2) d0 rfl inX4 (by decide) (by rw [hY]; exact (z_Tof (List.mem_of_getElem? (i := 451) (by decide +kernel)) (by decide +kernel))) hw hv kk
theorem cwX5_149 : z_cV RX5 149 zX3_hasTried := ⟨(z_Tof (List.mem_of_getElem? (i := 492) (by decide +kernel)) (by decide +kernel)), (z_Tof (List.mem_of_getElem? (i := 493) (by decide +kernel)) (by decide +kernel)), (z_Tof (List.mem_of_getElem? (i := 494) (by decide +kernel)) (by decide +kernel)), (z_Tof (List.mem_of_getElem? (i := 36) (by decide +kernel)) (by decide +kernel)), (z_Tof (List.mem_of_getElem? (i := 495) (by decide +kernel)) (by decide +kernel))⟩
theorem cwX5_155 : z_cV RX5 155 zX3_markTried := ⟨(z_Tof (List.mem_of_getElem? (i := 497) (by decide +kernel)) (by decide +kernel)), (z_Tof (List.mem_of_getElem? (i := 498) (by decide +kernel)) (by decide +kernel)), (z_Tof (List.mem_of_getElem? (i := 499) (by decide +kernel)) (by decide +kernel)), (z_Tof (List.mem_of_getElem? (i := 36) (by decide +kernel)) (by decide +kernel)), (z_Tof (List.mem_of_getElem? (i := 500) (by decide +kernel)) (by decide +kernel))⟩
theorem gfX5_158 (hY : Y.1.cls = RX5) {a : Nat} {fs : List Value} {v : Value} (d0 : decode Y.2.1 pc = .ok (.getfield 158, 3)) (hw : w a = some (.inr (4, fs))) (hv : fs[1]? = some v) (kk : z_E G Y d Z (pc + 3) L (v :: st) w k n) : z_E G Y d Z pc L (.ref a :: st) w k n :=
  z_get (ci := 4) (j := 1) d0 rfl inX4 (by decide) (by rw [hY]; exact (z_Tof (List.mem_of_getElem? (i := 449) (by decide +kernel)) (by decide +kernel))) hw hv kk
theorem cwX5_161 : z_cV RX5 161 zX3_changeRating := ⟨(z_Tof (List.mem_of_getElem? (i := 501) (by decide +kernel)) (by decide +kernel)), (z_Tof (List.mem_of_getElem? (i := 502) (by decide +kernel)) (by decide +kernel)), (z_Tof (List.mem_of_getElem? (i := 503) (by decide +kernel)) (by decide +kernel)), (z_Tof (List.mem_of_getElem? (i := 36) (by decide +kernel)) (by decide +kernel)), (z_Tof (List.mem_of_getElem? (i := 504) (by decide +kernel)) (by decide +kernel))⟩
theorem gfX5_23 (hY : Y.1.cls = RX5) {a : Nat} {fs : List Value} {v : Value} (d0 : decode Y.2.1 pc = .ok (.getfield 23, 3)) (hw : w a = some (.inr (5, fs))) (hv : fs[5]? = some v) (kk : z_E G Y d Z (pc + 3) L (v :: st) w k n) : z_E G Y d Z pc L (.ref a :: st) w k n :=
  z_get (ci := 5) (j := 5) d0 rfl inX5 (by decide) (by rw [hY]; exact (z_Tof (List.mem_of_getElem? (i := 95) (by decide +kernel)) (by decide +kernel))) hw hv kk
theorem cwX5_165 : z_cV RX5 165 zX3_needsMore := ⟨(z_Tof (List.mem_of_getElem? (i := 519) (by decide +kernel)) (by decide +kernel)), (z_Tof (List.mem_of_getElem? (i := 520) (by decide +kernel)) (by decide +kernel)), (z_Tof (List.mem_of_getElem? (i := 521) (by decide +kernel)) (by decide +kernel)), (z_Tof (List.mem_of_getElem? (i := 36) (by decide +kernel)) (by decide +kernel)), (z_Tof (List.mem_of_getElem? (i := 522) (by decide +kernel)) (by decide +kernel))⟩
theorem cwX5_170 : z_cV RX5 170 zX3_ratingIn := ⟨(z_Tof (List.mem_of_getElem? (i := 535) (by decide +kernel)) (by decide +kernel)), (z_Tof (List.mem_of_getElem? (i := 524) (by decide +kernel)) (by decide +kernel)), (z_Tof (List.mem_of_getElem? (i := 525) (by decide +kernel)) (by decide +kernel)), (z_Tof (List.mem_of_getElem? (i := 36) (by decide +kernel)) (by decide +kernel)), (z_Tof (List.mem_of_getElem? (i := 526) (by decide +kernel)) (by decide +kernel))⟩
theorem cwX5_173 : z_cS RX5 173 zX5_checkLine := ⟨(z_Tof (List.mem_of_getElem? (i := 543) (by decide +kernel)) (by decide +kernel)), (z_Tof (List.mem_of_getElem? (i := 544) (by decide +kernel)) (by decide +kernel)), (z_Tof (List.mem_of_getElem? (i := 27) (by decide +kernel)) (by decide +kernel)), (z_Tof (List.mem_of_getElem? (i := 545) (by decide +kernel)) (by decide +kernel))⟩
theorem cwX5_177 : z_cV RX5 177 zX0_find := ⟨(z_Tof (List.mem_of_getElem? (i := 548) (by decide +kernel)) (by decide +kernel)), (z_Tof (List.mem_of_getElem? (i := 549) (by decide +kernel)) (by decide +kernel)), (z_Tof (List.mem_of_getElem? (i := 550) (by decide +kernel)) (by decide +kernel)), (z_Tof (List.mem_of_getElem? (i := 28) (by decide +kernel)) (by decide +kernel)), (z_Tof (List.mem_of_getElem? (i := 551) (by decide +kernel)) (by decide +kernel))⟩
theorem gfX5_181 (hY : Y.1.cls = RX5) {a : Nat} {fs : List Value} {v : Value} (d0 : decode Y.2.1 pc = .ok (.getfield 181, 3)) (hw : w a = some (.inr (2, fs))) (hv : fs[1]? = some v) (kk : z_E G Y d Z (pc + 3) L (v :: st) w k n) : z_E G Y d Z pc L (.ref a :: st) w k n :=
  z_get (ci := 2) (j := 1) d0 rfl inX2 (by decide) (by rw [hY]; exact (z_Tof (List.mem_of_getElem? (i := 72) (by decide +kernel)) (by decide +kernel))) hw hv kk
theorem gfX5_186 (hY : Y.1.cls = RX5) {a : Nat} {fs : List Value} {v : Value} (d0 : decode Y.2.1 pc = .ok (.getfield 186, 3)) (hw : w a = some (.inr (2, fs))) (hv : fs[2]? = some v) (kk : z_E G Y d Z (pc + 3) L (v :: st) w k n) : z_E G Y d Z pc L (.ref a :: st) w k n :=
  z_get (ci := 2) (j := 2) d0 rfl inX2 (by decide) (by rw [hY]; exact (z_Tof (List.mem_of_getElem? (i := 75) (by decide +kernel)) (by decide +kernel))) hw hv kk
theorem cwX5_189 : z_cV RX5 189 zX0_holdsDropped := ⟨(z_Tof (List.mem_of_getElem? (i := 569) (by decide +kernel)) (by decide +kernel)), (z_Tof (List.mem_of_getElem? (i := 570) (by decide +kernel)) (by decide +kernel)), (z_Tof (List.mem_of_getElem? (i := 571) (by decide +kernel)) (by decide +kernel)), (z_Tof (List.mem_of_getElem? (i := 28) (by decide +kernel)) (by decide +kernel)), (z_Tof (List.mem_of_getElem? (i := 572) (by decide +kernel)) (by decide +kernel))⟩
theorem cwX5_192 : z_cV RX5 192 zX1_beginsWith := ⟨(z_Tof (List.mem_of_getElem? (i := 580) (by decide +kernel)) (by decide +kernel)), (z_Tof (List.mem_of_getElem? (i := 581) (by decide +kernel)) (by decide +kernel)), (z_Tof (List.mem_of_getElem? (i := 582) (by decide +kernel)) (by decide +kernel)), (z_Tof (List.mem_of_getElem? (i := 38) (by decide +kernel)) (by decide +kernel)), (z_Tof (List.mem_of_getElem? (i := 583) (by decide +kernel)) (by decide +kernel))⟩
theorem gfX5_108 (hY : Y.1.cls = RX5) {a : Nat} {fs : List Value} {v : Value} (d0 : decode Y.2.1 pc = .ok (.getfield 108, 3)) (hw : w a = some (.inr (1, fs))) (hv : fs[5]? = some v) (kk : z_E G Y d Z (pc + 3) L (v :: st) w k n) : z_E G Y d Z pc L (.ref a :: st) w k n :=
  z_get (ci := 1) (j := 5) d0 rfl inX1 (by decide) (by rw [hY]; exact (z_Tof (List.mem_of_getElem? (i := 341) (by decide +kernel)) (by decide +kernel))) hw hv kk
theorem cwX5_195 : z_cV RX5 195 zX5_pairPlayers := ⟨(z_Tof (List.mem_of_getElem? (i := 600) (by decide +kernel)) (by decide +kernel)), (z_Tof (List.mem_of_getElem? (i := 602) (by decide +kernel)) (by decide +kernel)), (z_Tof (List.mem_of_getElem? (i := 9) (by decide +kernel)) (by decide +kernel)), (z_Tof (List.mem_of_getElem? (i := 27) (by decide +kernel)) (by decide +kernel)), (z_Tof (List.mem_of_getElem? (i := 603) (by decide +kernel)) (by decide +kernel))⟩
theorem gfX5_198 (hY : Y.1.cls = RX5) {a : Nat} {fs : List Value} {v : Value} (d0 : decode Y.2.1 pc = .ok (.getfield 198, 3)) (hw : w a = some (.inr (3, fs))) (hv : fs[7]? = some v) (kk : z_E G Y d Z (pc + 3) L (v :: st) w k n) : z_E G Y d Z pc L (.ref a :: st) w k n :=
  z_get (ci := 3) (j := 7) d0 rfl inX3 (by decide) (by rw [hY]; exact (z_Tof (List.mem_of_getElem? (i := 274) (by decide +kernel)) (by decide +kernel))) hw hv kk
theorem gfX5_201 (hY : Y.1.cls = RX5) {a : Nat} {fs : List Value} {v : Value} (d0 : decode Y.2.1 pc = .ok (.getfield 201, 3)) (hw : w a = some (.inr (3, fs))) (hv : fs[0]? = some v) (kk : z_E G Y d Z (pc + 3) L (v :: st) w k n) : z_E G Y d Z pc L (.ref a :: st) w k n :=
  z_get (ci := 3) (j := 0) d0 rfl inX3 (by decide) (by rw [hY]; exact (z_Tof (List.mem_of_getElem? (i := 266) (by decide +kernel)) (by decide +kernel))) hw hv kk
theorem cwX5_206 : z_cV RX5 206 zX3_colourBalance := ⟨(z_Tof (List.mem_of_getElem? (i := 628) (by decide +kernel)) (by decide +kernel)), (z_Tof (List.mem_of_getElem? (i := 629) (by decide +kernel)) (by decide +kernel)), (z_Tof (List.mem_of_getElem? (i := 630) (by decide +kernel)) (by decide +kernel)), (z_Tof (List.mem_of_getElem? (i := 36) (by decide +kernel)) (by decide +kernel)), (z_Tof (List.mem_of_getElem? (i := 631) (by decide +kernel)) (by decide +kernel))⟩
theorem cwX5_225 : z_cS RX5 225 zX5_worthAfter := ⟨(z_Tof (List.mem_of_getElem? (i := 233) (by decide +kernel)) (by decide +kernel)), (z_Tof (List.mem_of_getElem? (i := 234) (by decide +kernel)) (by decide +kernel)), (z_Tof (List.mem_of_getElem? (i := 27) (by decide +kernel)) (by decide +kernel)), (z_Tof (List.mem_of_getElem? (i := 235) (by decide +kernel)) (by decide +kernel))⟩
theorem gfX5_228 (hY : Y.1.cls = RX5) {a : Nat} {fs : List Value} {v : Value} (d0 : decode Y.2.1 pc = .ok (.getfield 228, 3)) (hw : w a = some (.inr (1, fs))) (hv : fs[3]? = some v) (kk : z_E G Y d Z (pc + 3) L (v :: st) w k n) : z_E G Y d Z pc L (.ref a :: st) w k n :=
  z_get (ci := 1) (j := 3) d0 rfl inX1 (by decide) (by rw [hY]; exact (z_Tof (List.mem_of_getElem? (i := 337) (by decide +kernel)) (by decide +kernel))) hw hv kk
theorem cwX5_231 : z_cV RX5 231 zX1_moveAt := ⟨(z_Tof (List.mem_of_getElem? (i := 432) (by decide +kernel)) (by decide +kernel)), (z_Tof (List.mem_of_getElem? (i := 408) (by decide +kernel)) (by decide +kernel)), (z_Tof (List.mem_of_getElem? (i := 409) (by decide +kernel)) (by decide +kernel)), (z_Tof (List.mem_of_getElem? (i := 38) (by decide +kernel)) (by decide +kernel)), (z_Tof (List.mem_of_getElem? (i := 410) (by decide +kernel)) (by decide +kernel))⟩
theorem cwX5_234 : z_cV RX5 234 zX5_addPuzzle := ⟨(z_Tof (List.mem_of_getElem? (i := 433) (by decide +kernel)) (by decide +kernel)), (z_Tof (List.mem_of_getElem? (i := 435) (by decide +kernel)) (by decide +kernel)), (z_Tof (List.mem_of_getElem? (i := 6) (by decide +kernel)) (by decide +kernel)), (z_Tof (List.mem_of_getElem? (i := 27) (by decide +kernel)) (by decide +kernel)), (z_Tof (List.mem_of_getElem? (i := 436) (by decide +kernel)) (by decide +kernel))⟩
theorem cwX5_237 : z_cV RX5 237 zX5_hasPuzzleFor := ⟨(z_Tof (List.mem_of_getElem? (i := 437) (by decide +kernel)) (by decide +kernel)), (z_Tof (List.mem_of_getElem? (i := 439) (by decide +kernel)) (by decide +kernel)), (z_Tof (List.mem_of_getElem? (i := 7) (by decide +kernel)) (by decide +kernel)), (z_Tof (List.mem_of_getElem? (i := 27) (by decide +kernel)) (by decide +kernel)), (z_Tof (List.mem_of_getElem? (i := 440) (by decide +kernel)) (by decide +kernel))⟩
theorem nwX5_21 (hY : Y.1.cls = RX5) (d0 : decode Y.2.1 pc = .ok (.new 21, 3)) (hk1 : 1 ≤ k) (hn1 : 3 ≤ n) (kk : ∀ q : Nat, w q = none → z_E G Y d Z (pc + 3) L (.ref q :: st) (z_up w q (.inr (4, [.int 0, .int 0, .int 0]))) (k - 1) (n - 3)) : z_E G Y d Z pc L st w k n :=
  z_new (ci := 4) (fs := [.int 0, .int 0, .int 0]) d0 rfl inX4 tyX4 tyX4_ok (fun j hj => by
    have h : j = 0 ∨ j = 1 ∨ j = 2 := by omega
    rcases h with rfl | rfl | rfl <;> rfl) (by rw [hY]; exact (z_Tof (List.mem_of_getElem? (i := 53) (by decide +kernel)) (by decide +kernel))) (z_Tof (List.mem_of_getElem? (i := 441) (by decide +kernel)) (by decide +kernel)) (z_Tof (List.mem_of_getElem? (i := 40) (by decide +kernel)) (by decide +kernel)) hk1 hn1 kk
theorem cwX5_240 : z_cI RX5 240 zX4_init := ⟨(z_Tof (List.mem_of_getElem? (i := 442) (by decide +kernel)) (by decide +kernel)), (z_Tof (List.mem_of_getElem? (i := 443) (by decide +kernel)) (by decide +kernel)), (z_Tof (List.mem_of_getElem? (i := 40) (by decide +kernel)) (by decide +kernel)), (z_Tof (List.mem_of_getElem? (i := 444) (by decide +kernel)) (by decide +kernel)), rfl, rfl⟩
theorem pfX5_136 (hY : Y.1.cls = RX5) {a : Nat} {fs : List Value} {x : Int32} (d0 : decode Y.2.1 pc = .ok (.putfield 136, 3)) (hw : w a = some (.inr (5, fs))) (hl : 6 < fs.length) (kk : z_E G Y d Z (pc + 3) L st (z_up w a (.inr (5, fs.set 6 (.int x)))) k n) : z_E G Y d Z pc L (.int x :: .ref a :: st) w k n :=
  z_put (ci := 5) (j := 6) d0 rfl inX5 tyX5 tyX5_ok nmX5 (by decide) (by rw [hY]; exact (z_Tof (List.mem_of_getElem? (i := 96) (by decide +kernel)) (by decide +kernel))) rfl rfl rfl hw hl kk
theorem pfX5_198 (hY : Y.1.cls = RX5) {a : Nat} {fs : List Value} {v : Value} (d0 : decode Y.2.1 pc = .ok (.putfield 198, 3)) (hv : z_isr v = true) (hw : w a = some (.inr (3, fs))) (hl : 7 < fs.length) (kk : z_E G Y d Z (pc + 3) L st (z_up w a (.inr (3, fs.set 7 (v)))) k n) : z_E G Y d Z pc L (v :: .ref a :: st) w k n :=
  z_put (ci := 3) (j := 7) d0 rfl inX3 tyX3 tyX3_ok nmX3 (by decide) (by rw [hY]; exact (z_Tof (List.mem_of_getElem? (i := 274) (by decide +kernel)) (by decide +kernel))) rfl (by rcases z_isr_or hv with rfl | ⟨_, rfl⟩ <;> rfl) (by rcases z_isr_or hv with rfl | ⟨_, rfl⟩ <;> rfl) hw hl kk
theorem cwX5_242 : z_cV RX5 242 zX5_firstUnpaired := ⟨(z_Tof (List.mem_of_getElem? (i := 604) (by decide +kernel)) (by decide +kernel)), (z_Tof (List.mem_of_getElem? (i := 606) (by decide +kernel)) (by decide +kernel)), (z_Tof (List.mem_of_getElem? (i := 10) (by decide +kernel)) (by decide +kernel)), (z_Tof (List.mem_of_getElem? (i := 27) (by decide +kernel)) (by decide +kernel)), (z_Tof (List.mem_of_getElem? (i := 607) (by decide +kernel)) (by decide +kernel))⟩
theorem cwX5_246 : z_cV RX5 246 zX5_partnerFor := ⟨(z_Tof (List.mem_of_getElem? (i := 612) (by decide +kernel)) (by decide +kernel)), (z_Tof (List.mem_of_getElem? (i := 614) (by decide +kernel)) (by decide +kernel)), (z_Tof (List.mem_of_getElem? (i := 11) (by decide +kernel)) (by decide +kernel)), (z_Tof (List.mem_of_getElem? (i := 27) (by decide +kernel)) (by decide +kernel)), (z_Tof (List.mem_of_getElem? (i := 615) (by decide +kernel)) (by decide +kernel))⟩
theorem cwX5_250 : z_cV RX5 250 zX3_standsAheadOf := ⟨(z_Tof (List.mem_of_getElem? (i := 608) (by decide +kernel)) (by decide +kernel)), (z_Tof (List.mem_of_getElem? (i := 609) (by decide +kernel)) (by decide +kernel)), (z_Tof (List.mem_of_getElem? (i := 610) (by decide +kernel)) (by decide +kernel)), (z_Tof (List.mem_of_getElem? (i := 36) (by decide +kernel)) (by decide +kernel)), (z_Tof (List.mem_of_getElem? (i := 611) (by decide +kernel)) (by decide +kernel))⟩
theorem cwX5_254 : z_cV RX5 254 zX3_hasMet := ⟨(z_Tof (List.mem_of_getElem? (i := 616) (by decide +kernel)) (by decide +kernel)), (z_Tof (List.mem_of_getElem? (i := 617) (by decide +kernel)) (by decide +kernel)), (z_Tof (List.mem_of_getElem? (i := 618) (by decide +kernel)) (by decide +kernel)), (z_Tof (List.mem_of_getElem? (i := 36) (by decide +kernel)) (by decide +kernel)), (z_Tof (List.mem_of_getElem? (i := 619) (by decide +kernel)) (by decide +kernel))⟩
theorem oiX6_1 (hY : Y.1.cls = RX6) {a : Nat} (d0 : decode Y.2.1 pc = .ok (.invokespecial 1, 3)) (hdd : 1 ≤ d) (hst : (st.map fun v => v.category).sum ≤ 8) (kk : z_E G Y d Z (pc + 3) L st w k n) : z_E G Y d Z pc L (.ref a :: st) w k n :=
  z_objInit d0 (by rw [hY]; exact (z_Tof (List.mem_of_getElem? (i := 637) (by decide +kernel)) (by decide +kernel))) (z_Tof (List.mem_of_getElem? (i := 47) (by decide +kernel)) (by decide +kernel)) (z_Tof (List.mem_of_getElem? (i := 48) (by decide +kernel)) (by decide +kernel)) hdd hst kk
theorem pfX6_7 (hY : Y.1.cls = RX6) (hI : Y.1.name = "<init>") {a : Nat} {fs : List Value} {v : Value} (d0 : decode Y.2.1 pc = .ok (.putfield 7, 3)) (hv : z_isr v = true) (hw : w a = some (.inr (6, fs))) (hl : 1 < fs.length) (kk : z_E G Y d Z (pc + 3) L st (z_up w a (.inr (6, fs.set 1 (v)))) k n) : z_E G Y d Z pc L (v :: .ref a :: st) w k n :=
  z_putF (ci := 6) (j := 1) d0 rfl inX6 tyX6 tyX6_ok nmX6 (by decide) (by rw [hY]; exact (z_Tof (List.mem_of_getElem? (i := 639) (by decide +kernel)) (by decide +kernel))) rfl (hI) (hY.symm ▸ rfl) (by rcases z_isr_or hv with rfl | ⟨_, rfl⟩ <;> rfl) (by rcases z_isr_or hv with rfl | ⟨_, rfl⟩ <;> rfl) hw hl kk
theorem pfX6_13 (hY : Y.1.cls = RX6) (hI : Y.1.name = "<init>") {a : Nat} {fs : List Value} {v : Value} (d0 : decode Y.2.1 pc = .ok (.putfield 13, 3)) (hv : z_isr v = true) (hw : w a = some (.inr (6, fs))) (hl : 2 < fs.length) (kk : z_E G Y d Z (pc + 3) L st (z_up w a (.inr (6, fs.set 2 (v)))) k n) : z_E G Y d Z pc L (v :: .ref a :: st) w k n :=
  z_putF (ci := 6) (j := 2) d0 rfl inX6 tyX6 tyX6_ok nmX6 (by decide) (by rw [hY]; exact (z_Tof (List.mem_of_getElem? (i := 640) (by decide +kernel)) (by decide +kernel))) rfl (hI) (hY.symm ▸ rfl) (by rcases z_isr_or hv with rfl | ⟨_, rfl⟩ <;> rfl) (by rcases z_isr_or hv with rfl | ⟨_, rfl⟩ <;> rfl) hw hl kk
theorem pfX6_16 (hY : Y.1.cls = RX6) (hI : Y.1.name = "<init>") {a : Nat} {fs : List Value} {v : Value} (d0 : decode Y.2.1 pc = .ok (.putfield 16, 3)) (hv : z_isr v = true) (hw : w a = some (.inr (6, fs))) (hl : 3 < fs.length) (kk : z_E G Y d Z (pc + 3) L st (z_up w a (.inr (6, fs.set 3 (v)))) k n) : z_E G Y d Z pc L (v :: .ref a :: st) w k n :=
  z_putF (ci := 6) (j := 3) d0 rfl inX6 tyX6 tyX6_ok nmX6 (by decide) (by rw [hY]; exact (z_Tof (List.mem_of_getElem? (i := 641) (by decide +kernel)) (by decide +kernel))) rfl (hI) (hY.symm ▸ rfl) (by rcases z_isr_or hv with rfl | ⟨_, rfl⟩ <;> rfl) (by rcases z_isr_or hv with rfl | ⟨_, rfl⟩ <;> rfl) hw hl kk
theorem pfX6_19 (hY : Y.1.cls = RX6) (hI : Y.1.name = "<init>") {a : Nat} {fs : List Value} {v : Value} (d0 : decode Y.2.1 pc = .ok (.putfield 19, 3)) (hv : z_isr v = true) (hw : w a = some (.inr (6, fs))) (hl : 4 < fs.length) (kk : z_E G Y d Z (pc + 3) L st (z_up w a (.inr (6, fs.set 4 (v)))) k n) : z_E G Y d Z pc L (v :: .ref a :: st) w k n :=
  z_putF (ci := 6) (j := 4) d0 rfl inX6 tyX6 tyX6_ok nmX6 (by decide) (by rw [hY]; exact (z_Tof (List.mem_of_getElem? (i := 642) (by decide +kernel)) (by decide +kernel))) rfl (hI) (hY.symm ▸ rfl) (by rcases z_isr_or hv with rfl | ⟨_, rfl⟩ <;> rfl) (by rcases z_isr_or hv with rfl | ⟨_, rfl⟩ <;> rfl) hw hl kk
theorem pfX6_23 (hY : Y.1.cls = RX6) (hI : Y.1.name = "<init>") {a : Nat} {fs : List Value} {v : Value} (d0 : decode Y.2.1 pc = .ok (.putfield 23, 3)) (hv : z_isr v = true) (hw : w a = some (.inr (6, fs))) (hl : 8 < fs.length) (kk : z_E G Y d Z (pc + 3) L st (z_up w a (.inr (6, fs.set 8 (v)))) k n) : z_E G Y d Z pc L (v :: .ref a :: st) w k n :=
  z_putF (ci := 6) (j := 8) d0 rfl inX6 tyX6 tyX6_ok nmX6 (by decide) (by rw [hY]; exact (z_Tof (List.mem_of_getElem? (i := 646) (by decide +kernel)) (by decide +kernel))) rfl (hI) (hY.symm ▸ rfl) (by rcases z_isr_or hv with rfl | ⟨_, rfl⟩ <;> rfl) (by rcases z_isr_or hv with rfl | ⟨_, rfl⟩ <;> rfl) hw hl kk
theorem pfX6_26 (hY : Y.1.cls = RX6) (hI : Y.1.name = "<init>") {a : Nat} {fs : List Value} {v : Value} (d0 : decode Y.2.1 pc = .ok (.putfield 26, 3)) (hv : z_isr v = true) (hw : w a = some (.inr (6, fs))) (hl : 9 < fs.length) (kk : z_E G Y d Z (pc + 3) L st (z_up w a (.inr (6, fs.set 9 (v)))) k n) : z_E G Y d Z pc L (v :: .ref a :: st) w k n :=
  z_putF (ci := 6) (j := 9) d0 rfl inX6 tyX6 tyX6_ok nmX6 (by decide) (by rw [hY]; exact (z_Tof (List.mem_of_getElem? (i := 647) (by decide +kernel)) (by decide +kernel))) rfl (hI) (hY.symm ▸ rfl) (by rcases z_isr_or hv with rfl | ⟨_, rfl⟩ <;> rfl) (by rcases z_isr_or hv with rfl | ⟨_, rfl⟩ <;> rfl) hw hl kk
theorem pfX6_29 (hY : Y.1.cls = RX6) (hI : Y.1.name = "<init>") {a : Nat} {fs : List Value} {v : Value} (d0 : decode Y.2.1 pc = .ok (.putfield 29, 3)) (hv : z_isr v = true) (hw : w a = some (.inr (6, fs))) (hl : 10 < fs.length) (kk : z_E G Y d Z (pc + 3) L st (z_up w a (.inr (6, fs.set 10 (v)))) k n) : z_E G Y d Z pc L (v :: .ref a :: st) w k n :=
  z_putF (ci := 6) (j := 10) d0 rfl inX6 tyX6 tyX6_ok nmX6 (by decide) (by rw [hY]; exact (z_Tof (List.mem_of_getElem? (i := 648) (by decide +kernel)) (by decide +kernel))) rfl (hI) (hY.symm ▸ rfl) (by rcases z_isr_or hv with rfl | ⟨_, rfl⟩ <;> rfl) (by rcases z_isr_or hv with rfl | ⟨_, rfl⟩ <;> rfl) hw hl kk
theorem pfX6_32 (hY : Y.1.cls = RX6) (hI : Y.1.name = "<init>") {a : Nat} {fs : List Value} {v : Value} (d0 : decode Y.2.1 pc = .ok (.putfield 32, 3)) (hv : z_isr v = true) (hw : w a = some (.inr (6, fs))) (hl : 11 < fs.length) (kk : z_E G Y d Z (pc + 3) L st (z_up w a (.inr (6, fs.set 11 (v)))) k n) : z_E G Y d Z pc L (v :: .ref a :: st) w k n :=
  z_putF (ci := 6) (j := 11) d0 rfl inX6 tyX6 tyX6_ok nmX6 (by decide) (by rw [hY]; exact (z_Tof (List.mem_of_getElem? (i := 649) (by decide +kernel)) (by decide +kernel))) rfl (hI) (hY.symm ▸ rfl) (by rcases z_isr_or hv with rfl | ⟨_, rfl⟩ <;> rfl) (by rcases z_isr_or hv with rfl | ⟨_, rfl⟩ <;> rfl) hw hl kk
theorem pfX6_35 (hY : Y.1.cls = RX6) (hI : Y.1.name = "<init>") {a : Nat} {fs : List Value} {v : Value} (d0 : decode Y.2.1 pc = .ok (.putfield 35, 3)) (hv : z_isr v = true) (hw : w a = some (.inr (6, fs))) (hl : 12 < fs.length) (kk : z_E G Y d Z (pc + 3) L st (z_up w a (.inr (6, fs.set 12 (v)))) k n) : z_E G Y d Z pc L (v :: .ref a :: st) w k n :=
  z_putF (ci := 6) (j := 12) d0 rfl inX6 tyX6 tyX6_ok nmX6 (by decide) (by rw [hY]; exact (z_Tof (List.mem_of_getElem? (i := 650) (by decide +kernel)) (by decide +kernel))) rfl (hI) (hY.symm ▸ rfl) (by rcases z_isr_or hv with rfl | ⟨_, rfl⟩ <;> rfl) (by rcases z_isr_or hv with rfl | ⟨_, rfl⟩ <;> rfl) hw hl kk
theorem pfX6_38 (hY : Y.1.cls = RX6) (hI : Y.1.name = "<init>") {a : Nat} {fs : List Value} {v : Value} (d0 : decode Y.2.1 pc = .ok (.putfield 38, 3)) (hv : z_isr v = true) (hw : w a = some (.inr (6, fs))) (hl : 14 < fs.length) (kk : z_E G Y d Z (pc + 3) L st (z_up w a (.inr (6, fs.set 14 (v)))) k n) : z_E G Y d Z pc L (v :: .ref a :: st) w k n :=
  z_putF (ci := 6) (j := 14) d0 rfl inX6 tyX6 tyX6_ok nmX6 (by decide) (by rw [hY]; exact (z_Tof (List.mem_of_getElem? (i := 652) (by decide +kernel)) (by decide +kernel))) rfl (hI) (hY.symm ▸ rfl) (by rcases z_isr_or hv with rfl | ⟨_, rfl⟩ <;> rfl) (by rcases z_isr_or hv with rfl | ⟨_, rfl⟩ <;> rfl) hw hl kk
theorem pfX6_41 (hY : Y.1.cls = RX6) (hI : Y.1.name = "<init>") {a : Nat} {fs : List Value} {v : Value} (d0 : decode Y.2.1 pc = .ok (.putfield 41, 3)) (hv : z_isr v = true) (hw : w a = some (.inr (6, fs))) (hl : 15 < fs.length) (kk : z_E G Y d Z (pc + 3) L st (z_up w a (.inr (6, fs.set 15 (v)))) k n) : z_E G Y d Z pc L (v :: .ref a :: st) w k n :=
  z_putF (ci := 6) (j := 15) d0 rfl inX6 tyX6 tyX6_ok nmX6 (by decide) (by rw [hY]; exact (z_Tof (List.mem_of_getElem? (i := 653) (by decide +kernel)) (by decide +kernel))) rfl (hI) (hY.symm ▸ rfl) (by rcases z_isr_or hv with rfl | ⟨_, rfl⟩ <;> rfl) (by rcases z_isr_or hv with rfl | ⟨_, rfl⟩ <;> rfl) hw hl kk
theorem pfX6_44 (hY : Y.1.cls = RX6) (hI : Y.1.name = "<init>") {a : Nat} {fs : List Value} {v : Value} (d0 : decode Y.2.1 pc = .ok (.putfield 44, 3)) (hv : z_isr v = true) (hw : w a = some (.inr (6, fs))) (hl : 16 < fs.length) (kk : z_E G Y d Z (pc + 3) L st (z_up w a (.inr (6, fs.set 16 (v)))) k n) : z_E G Y d Z pc L (v :: .ref a :: st) w k n :=
  z_putF (ci := 6) (j := 16) d0 rfl inX6 tyX6 tyX6_ok nmX6 (by decide) (by rw [hY]; exact (z_Tof (List.mem_of_getElem? (i := 654) (by decide +kernel)) (by decide +kernel))) rfl (hI) (hY.symm ▸ rfl) (by rcases z_isr_or hv with rfl | ⟨_, rfl⟩ <;> rfl) (by rcases z_isr_or hv with rfl | ⟨_, rfl⟩ <;> rfl) hw hl kk
theorem pfX6_47 (hY : Y.1.cls = RX6) (hI : Y.1.name = "<init>") {a : Nat} {fs : List Value} {v : Value} (d0 : decode Y.2.1 pc = .ok (.putfield 47, 3)) (hv : z_isr v = true) (hw : w a = some (.inr (6, fs))) (hl : 17 < fs.length) (kk : z_E G Y d Z (pc + 3) L st (z_up w a (.inr (6, fs.set 17 (v)))) k n) : z_E G Y d Z pc L (v :: .ref a :: st) w k n :=
  z_putF (ci := 6) (j := 17) d0 rfl inX6 tyX6 tyX6_ok nmX6 (by decide) (by rw [hY]; exact (z_Tof (List.mem_of_getElem? (i := 655) (by decide +kernel)) (by decide +kernel))) rfl (hI) (hY.symm ▸ rfl) (by rcases z_isr_or hv with rfl | ⟨_, rfl⟩ <;> rfl) (by rcases z_isr_or hv with rfl | ⟨_, rfl⟩ <;> rfl) hw hl kk
theorem pfX6_50 (hY : Y.1.cls = RX6) (hI : Y.1.name = "<init>") {a : Nat} {fs : List Value} {v : Value} (d0 : decode Y.2.1 pc = .ok (.putfield 50, 3)) (hv : z_isr v = true) (hw : w a = some (.inr (6, fs))) (hl : 18 < fs.length) (kk : z_E G Y d Z (pc + 3) L st (z_up w a (.inr (6, fs.set 18 (v)))) k n) : z_E G Y d Z pc L (v :: .ref a :: st) w k n :=
  z_putF (ci := 6) (j := 18) d0 rfl inX6 tyX6 tyX6_ok nmX6 (by decide) (by rw [hY]; exact (z_Tof (List.mem_of_getElem? (i := 656) (by decide +kernel)) (by decide +kernel))) rfl (hI) (hY.symm ▸ rfl) (by rcases z_isr_or hv with rfl | ⟨_, rfl⟩ <;> rfl) (by rcases z_isr_or hv with rfl | ⟨_, rfl⟩ <;> rfl) hw hl kk
theorem pfX6_53 (hY : Y.1.cls = RX6) (hI : Y.1.name = "<init>") {a : Nat} {fs : List Value} {v : Value} (d0 : decode Y.2.1 pc = .ok (.putfield 53, 3)) (hv : z_isr v = true) (hw : w a = some (.inr (6, fs))) (hl : 19 < fs.length) (kk : z_E G Y d Z (pc + 3) L st (z_up w a (.inr (6, fs.set 19 (v)))) k n) : z_E G Y d Z pc L (v :: .ref a :: st) w k n :=
  z_putF (ci := 6) (j := 19) d0 rfl inX6 tyX6 tyX6_ok nmX6 (by decide) (by rw [hY]; exact (z_Tof (List.mem_of_getElem? (i := 657) (by decide +kernel)) (by decide +kernel))) rfl (hI) (hY.symm ▸ rfl) (by rcases z_isr_or hv with rfl | ⟨_, rfl⟩ <;> rfl) (by rcases z_isr_or hv with rfl | ⟨_, rfl⟩ <;> rfl) hw hl kk
theorem pfX6_56 (hY : Y.1.cls = RX6) (hI : Y.1.name = "<init>") {a : Nat} {fs : List Value} {v : Value} (d0 : decode Y.2.1 pc = .ok (.putfield 56, 3)) (hv : z_isr v = true) (hw : w a = some (.inr (6, fs))) (hl : 20 < fs.length) (kk : z_E G Y d Z (pc + 3) L st (z_up w a (.inr (6, fs.set 20 (v)))) k n) : z_E G Y d Z pc L (v :: .ref a :: st) w k n :=
  z_putF (ci := 6) (j := 20) d0 rfl inX6 tyX6 tyX6_ok nmX6 (by decide) (by rw [hY]; exact (z_Tof (List.mem_of_getElem? (i := 658) (by decide +kernel)) (by decide +kernel))) rfl (hI) (hY.symm ▸ rfl) (by rcases z_isr_or hv with rfl | ⟨_, rfl⟩ <;> rfl) (by rcases z_isr_or hv with rfl | ⟨_, rfl⟩ <;> rfl) hw hl kk
theorem gfX6_59 (hY : Y.1.cls = RX6) {a : Nat} {fs : List Value} {v : Value} (d0 : decode Y.2.1 pc = .ok (.getfield 59, 3)) (hw : w a = some (.inr (6, fs))) (hv : fs[21]? = some v) (kk : z_E G Y d Z (pc + 3) L (v :: st) w k n) : z_E G Y d Z pc L (.ref a :: st) w k n :=
  z_get (ci := 6) (j := 21) d0 rfl inX6 (by decide) (by rw [hY]; exact (z_Tof (List.mem_of_getElem? (i := 659) (by decide +kernel)) (by decide +kernel))) hw hv kk
theorem pfX6_59 (hY : Y.1.cls = RX6) {a : Nat} {fs : List Value} {x : Int32} (d0 : decode Y.2.1 pc = .ok (.putfield 59, 3)) (hw : w a = some (.inr (6, fs))) (hl : 21 < fs.length) (kk : z_E G Y d Z (pc + 3) L st (z_up w a (.inr (6, fs.set 21 (.int x)))) k n) : z_E G Y d Z pc L (.int x :: .ref a :: st) w k n :=
  z_put (ci := 6) (j := 21) d0 rfl inX6 tyX6 tyX6_ok nmX6 (by decide) (by rw [hY]; exact (z_Tof (List.mem_of_getElem? (i := 659) (by decide +kernel)) (by decide +kernel))) rfl rfl rfl hw hl kk
theorem cwX6_63 : z_cS RX6 63 zX6_in := ⟨(z_Tof (List.mem_of_getElem? (i := 716) (by decide +kernel)) (by decide +kernel)), (z_Tof (List.mem_of_getElem? (i := 717) (by decide +kernel)) (by decide +kernel)), (z_Tof (List.mem_of_getElem? (i := 30) (by decide +kernel)) (by decide +kernel)), (z_Tof (List.mem_of_getElem? (i := 718) (by decide +kernel)) (by decide +kernel))⟩
theorem gfX6_67 (hY : Y.1.cls = RX6) {a : Nat} {fs : List Value} {v : Value} (d0 : decode Y.2.1 pc = .ok (.getfield 67, 3)) (hw : w a = some (.inr (6, fs))) (hv : fs[0]? = some v) (kk : z_E G Y d Z (pc + 3) L (v :: st) w k n) : z_E G Y d Z pc L (.ref a :: st) w k n :=
  z_get (ci := 6) (j := 0) d0 rfl inX6 (by decide) (by rw [hY]; exact (z_Tof (List.mem_of_getElem? (i := 638) (by decide +kernel)) (by decide +kernel))) hw hv kk
theorem gfX6_70 (hY : Y.1.cls = RX6) {a : Nat} {fs : List Value} {v : Value} (d0 : decode Y.2.1 pc = .ok (.getfield 70, 3)) (hw : w a = some (.inr (6, fs))) (hv : fs[13]? = some v) (kk : z_E G Y d Z (pc + 3) L (v :: st) w k n) : z_E G Y d Z pc L (.ref a :: st) w k n :=
  z_get (ci := 6) (j := 13) d0 rfl inX6 (by decide) (by rw [hY]; exact (z_Tof (List.mem_of_getElem? (i := 651) (by decide +kernel)) (by decide +kernel))) hw hv kk
theorem cwX6_73 : z_cS RX6 73 zX6_next := ⟨(z_Tof (List.mem_of_getElem? (i := 726) (by decide +kernel)) (by decide +kernel)), (z_Tof (List.mem_of_getElem? (i := 727) (by decide +kernel)) (by decide +kernel)), (z_Tof (List.mem_of_getElem? (i := 30) (by decide +kernel)) (by decide +kernel)), (z_Tof (List.mem_of_getElem? (i := 728) (by decide +kernel)) (by decide +kernel))⟩
theorem cwX6_77 : z_cS RX6 77 zX6_worthOf := ⟨(z_Tof (List.mem_of_getElem? (i := 733) (by decide +kernel)) (by decide +kernel)), (z_Tof (List.mem_of_getElem? (i := 734) (by decide +kernel)) (by decide +kernel)), (z_Tof (List.mem_of_getElem? (i := 30) (by decide +kernel)) (by decide +kernel)), (z_Tof (List.mem_of_getElem? (i := 735) (by decide +kernel)) (by decide +kernel))⟩
theorem cwX6_81 : z_cS RX6 81 zX6_bestIn := ⟨(z_Tof (List.mem_of_getElem? (i := 740) (by decide +kernel)) (by decide +kernel)), (z_Tof (List.mem_of_getElem? (i := 741) (by decide +kernel)) (by decide +kernel)), (z_Tof (List.mem_of_getElem? (i := 30) (by decide +kernel)) (by decide +kernel)), (z_Tof (List.mem_of_getElem? (i := 742) (by decide +kernel)) (by decide +kernel))⟩
theorem cwX6_84 : z_cS RX6 84 zX6_isPosition := ⟨(z_Tof (List.mem_of_getElem? (i := 713) (by decide +kernel)) (by decide +kernel)), (z_Tof (List.mem_of_getElem? (i := 714) (by decide +kernel)) (by decide +kernel)), (z_Tof (List.mem_of_getElem? (i := 30) (by decide +kernel)) (by decide +kernel)), (z_Tof (List.mem_of_getElem? (i := 715) (by decide +kernel)) (by decide +kernel))⟩
theorem cwX6_88 : z_cS RX6 88 zX6_isMove := ⟨(z_Tof (List.mem_of_getElem? (i := 719) (by decide +kernel)) (by decide +kernel)), (z_Tof (List.mem_of_getElem? (i := 720) (by decide +kernel)) (by decide +kernel)), (z_Tof (List.mem_of_getElem? (i := 30) (by decide +kernel)) (by decide +kernel)), (z_Tof (List.mem_of_getElem? (i := 721) (by decide +kernel)) (by decide +kernel))⟩
theorem cwX6_91 : z_cV RX6 91 zX6_goes := ⟨(z_Tof (List.mem_of_getElem? (i := 722) (by decide +kernel)) (by decide +kernel)), (z_Tof (List.mem_of_getElem? (i := 724) (by decide +kernel)) (by decide +kernel)), (z_Tof (List.mem_of_getElem? (i := 12) (by decide +kernel)) (by decide +kernel)), (z_Tof (List.mem_of_getElem? (i := 30) (by decide +kernel)) (by decide +kernel)), (z_Tof (List.mem_of_getElem? (i := 725) (by decide +kernel)) (by decide +kernel))⟩
theorem gfX6_16 (hY : Y.1.cls = RX6) {a : Nat} {fs : List Value} {v : Value} (d0 : decode Y.2.1 pc = .ok (.getfield 16, 3)) (hw : w a = some (.inr (6, fs))) (hv : fs[3]? = some v) (kk : z_E G Y d Z (pc + 3) L (v :: st) w k n) : z_E G Y d Z pc L (.ref a :: st) w k n :=
  z_get (ci := 6) (j := 3) d0 rfl inX6 (by decide) (by rw [hY]; exact (z_Tof (List.mem_of_getElem? (i := 641) (by decide +kernel)) (by decide +kernel))) hw hv kk
theorem pfX6_67 (hY : Y.1.cls = RX6) {a : Nat} {fs : List Value} {x : Int32} (d0 : decode Y.2.1 pc = .ok (.putfield 67, 3)) (hw : w a = some (.inr (6, fs))) (hl : 0 < fs.length) (kk : z_E G Y d Z (pc + 3) L st (z_up w a (.inr (6, fs.set 0 (.int x)))) k n) : z_E G Y d Z pc L (.int x :: .ref a :: st) w k n :=
  z_put (ci := 6) (j := 0) d0 rfl inX6 tyX6 tyX6_ok nmX6 (by decide) (by rw [hY]; exact (z_Tof (List.mem_of_getElem? (i := 638) (by decide +kernel)) (by decide +kernel))) rfl rfl rfl hw hl kk
theorem gfX6_95 (hY : Y.1.cls = RX6) {a : Nat} {fs : List Value} {v : Value} (d0 : decode Y.2.1 pc = .ok (.getfield 95, 3)) (hw : w a = some (.inr (6, fs))) (hv : fs[5]? = some v) (kk : z_E G Y d Z (pc + 3) L (v :: st) w k n) : z_E G Y d Z pc L (.ref a :: st) w k n :=
  z_get (ci := 6) (j := 5) d0 rfl inX6 (by decide) (by rw [hY]; exact (z_Tof (List.mem_of_getElem? (i := 643) (by decide +kernel)) (by decide +kernel))) hw hv kk
theorem gfX6_98 (hY : Y.1.cls = RX6) {a : Nat} {fs : List Value} {v : Value} (d0 : decode Y.2.1 pc = .ok (.getfield 98, 3)) (hw : w a = some (.inr (6, fs))) (hv : fs[6]? = some v) (kk : z_E G Y d Z (pc + 3) L (v :: st) w k n) : z_E G Y d Z pc L (.ref a :: st) w k n :=
  z_get (ci := 6) (j := 6) d0 rfl inX6 (by decide) (by rw [hY]; exact (z_Tof (List.mem_of_getElem? (i := 644) (by decide +kernel)) (by decide +kernel))) hw hv kk
theorem cwX6_102 : z_cV RX6 102 zX6_isPlayer := ⟨(z_Tof (List.mem_of_getElem? (i := 751) (by decide +kernel)) (by decide +kernel)), (z_Tof (List.mem_of_getElem? (i := 753) (by decide +kernel)) (by decide +kernel)), (z_Tof (List.mem_of_getElem? (i := 13) (by decide +kernel)) (by decide +kernel)), (z_Tof (List.mem_of_getElem? (i := 30) (by decide +kernel)) (by decide +kernel)), (z_Tof (List.mem_of_getElem? (i := 754) (by decide +kernel)) (by decide +kernel))⟩
theorem gfX6_23 (hY : Y.1.cls = RX6) {a : Nat} {fs : List Value} {v : Value} (d0 : decode Y.2.1 pc = .ok (.getfield 23, 3)) (hw : w a = some (.inr (6, fs))) (hv : fs[8]? = some v) (kk : z_E G Y d Z (pc + 3) L (v :: st) w k n) : z_E G Y d Z pc L (.ref a :: st) w k n :=
  z_get (ci := 6) (j := 8) d0 rfl inX6 (by decide) (by rw [hY]; exact (z_Tof (List.mem_of_getElem? (i := 646) (by decide +kernel)) (by decide +kernel))) hw hv kk
theorem gfX6_26 (hY : Y.1.cls = RX6) {a : Nat} {fs : List Value} {v : Value} (d0 : decode Y.2.1 pc = .ok (.getfield 26, 3)) (hw : w a = some (.inr (6, fs))) (hv : fs[9]? = some v) (kk : z_E G Y d Z (pc + 3) L (v :: st) w k n) : z_E G Y d Z pc L (.ref a :: st) w k n :=
  z_get (ci := 6) (j := 9) d0 rfl inX6 (by decide) (by rw [hY]; exact (z_Tof (List.mem_of_getElem? (i := 647) (by decide +kernel)) (by decide +kernel))) hw hv kk
theorem pfX6_98 (hY : Y.1.cls = RX6) {a : Nat} {fs : List Value} {x : Int32} (d0 : decode Y.2.1 pc = .ok (.putfield 98, 3)) (hx : x = 0 ∨ x = 1) (hw : w a = some (.inr (6, fs))) (hl : 6 < fs.length) (kk : z_E G Y d Z (pc + 3) L st (z_up w a (.inr (6, fs.set 6 (.int x)))) k n) : z_E G Y d Z pc L (.int x :: .ref a :: st) w k n :=
  z_put (ci := 6) (j := 6) d0 rfl inX6 tyX6 tyX6_ok nmX6 (by decide) (by rw [hY]; exact (z_Tof (List.mem_of_getElem? (i := 644) (by decide +kernel)) (by decide +kernel))) rfl (by rcases hx with rfl | rfl <;> rfl) (by rcases hx with rfl | rfl <;> rfl) hw hl kk
theorem pfX6_105 (hY : Y.1.cls = RX6) {a : Nat} {fs : List Value} {x : Int32} (d0 : decode Y.2.1 pc = .ok (.putfield 105, 3)) (hw : w a = some (.inr (6, fs))) (hl : 7 < fs.length) (kk : z_E G Y d Z (pc + 3) L st (z_up w a (.inr (6, fs.set 7 (.int x)))) k n) : z_E G Y d Z pc L (.int x :: .ref a :: st) w k n :=
  z_put (ci := 6) (j := 7) d0 rfl inX6 tyX6 tyX6_ok nmX6 (by decide) (by rw [hY]; exact (z_Tof (List.mem_of_getElem? (i := 645) (by decide +kernel)) (by decide +kernel))) rfl rfl rfl hw hl kk
theorem pfX6_95 (hY : Y.1.cls = RX6) {a : Nat} {fs : List Value} {x : Int32} (d0 : decode Y.2.1 pc = .ok (.putfield 95, 3)) (hw : w a = some (.inr (6, fs))) (hl : 5 < fs.length) (kk : z_E G Y d Z (pc + 3) L st (z_up w a (.inr (6, fs.set 5 (.int x)))) k n) : z_E G Y d Z pc L (.int x :: .ref a :: st) w k n :=
  z_put (ci := 6) (j := 5) d0 rfl inX6 tyX6 tyX6_ok nmX6 (by decide) (by rw [hY]; exact (z_Tof (List.mem_of_getElem? (i := 643) (by decide +kernel)) (by decide +kernel))) rfl rfl rfl hw hl kk
theorem gfX6_29 (hY : Y.1.cls = RX6) {a : Nat} {fs : List Value} {v : Value} (d0 : decode Y.2.1 pc = .ok (.getfield 29, 3)) (hw : w a = some (.inr (6, fs))) (hv : fs[10]? = some v) (kk : z_E G Y d Z (pc + 3) L (v :: st) w k n) : z_E G Y d Z pc L (.ref a :: st) w k n :=
  z_get (ci := 6) (j := 10) d0 rfl inX6 (by decide) (by rw [hY]; exact (z_Tof (List.mem_of_getElem? (i := 648) (by decide +kernel)) (by decide +kernel))) hw hv kk
theorem gfX6_105 (hY : Y.1.cls = RX6) {a : Nat} {fs : List Value} {v : Value} (d0 : decode Y.2.1 pc = .ok (.getfield 105, 3)) (hw : w a = some (.inr (6, fs))) (hv : fs[7]? = some v) (kk : z_E G Y d Z (pc + 3) L (v :: st) w k n) : z_E G Y d Z pc L (.ref a :: st) w k n :=
  z_get (ci := 6) (j := 7) d0 rfl inX6 (by decide) (by rw [hY]; exact (z_Tof (List.mem_of_getElem? (i := 645) (by decide +kernel)) (by decide +kernel))) hw hv kk
theorem cwX6_108 : z_cS RX6 108 zX6_isBlunder := ⟨(z_Tof (List.mem_of_getElem? (i := 759) (by decide +kernel)) (by decide +kernel)), (z_Tof (List.mem_of_getElem? (i := 760) (by decide +kernel)) (by decide +kernel)), (z_Tof (List.mem_of_getElem? (i := 30) (by decide +kernel)) (by decide +kernel)), (z_Tof (List.mem_of_getElem? (i := 761) (by decide +kernel)) (by decide +kernel))⟩
theorem gfX6_35 (hY : Y.1.cls = RX6) {a : Nat} {fs : List Value} {v : Value} (d0 : decode Y.2.1 pc = .ok (.getfield 35, 3)) (hw : w a = some (.inr (6, fs))) (hv : fs[12]? = some v) (kk : z_E G Y d Z (pc + 3) L (v :: st) w k n) : z_E G Y d Z pc L (.ref a :: st) w k n :=
  z_get (ci := 6) (j := 12) d0 rfl inX6 (by decide) (by rw [hY]; exact (z_Tof (List.mem_of_getElem? (i := 650) (by decide +kernel)) (by decide +kernel))) hw hv kk
theorem gfX6_38 (hY : Y.1.cls = RX6) {a : Nat} {fs : List Value} {v : Value} (d0 : decode Y.2.1 pc = .ok (.getfield 38, 3)) (hw : w a = some (.inr (6, fs))) (hv : fs[14]? = some v) (kk : z_E G Y d Z (pc + 3) L (v :: st) w k n) : z_E G Y d Z pc L (.ref a :: st) w k n :=
  z_get (ci := 6) (j := 14) d0 rfl inX6 (by decide) (by rw [hY]; exact (z_Tof (List.mem_of_getElem? (i := 652) (by decide +kernel)) (by decide +kernel))) hw hv kk
theorem cwX6_112 : z_cV RX6 112 zX6_hasPuzzle := ⟨(z_Tof (List.mem_of_getElem? (i := 785) (by decide +kernel)) (by decide +kernel)), (z_Tof (List.mem_of_getElem? (i := 787) (by decide +kernel)) (by decide +kernel)), (z_Tof (List.mem_of_getElem? (i := 18) (by decide +kernel)) (by decide +kernel)), (z_Tof (List.mem_of_getElem? (i := 30) (by decide +kernel)) (by decide +kernel)), (z_Tof (List.mem_of_getElem? (i := 788) (by decide +kernel)) (by decide +kernel))⟩
theorem gfX6_41 (hY : Y.1.cls = RX6) {a : Nat} {fs : List Value} {v : Value} (d0 : decode Y.2.1 pc = .ok (.getfield 41, 3)) (hw : w a = some (.inr (6, fs))) (hv : fs[15]? = some v) (kk : z_E G Y d Z (pc + 3) L (v :: st) w k n) : z_E G Y d Z pc L (.ref a :: st) w k n :=
  z_get (ci := 6) (j := 15) d0 rfl inX6 (by decide) (by rw [hY]; exact (z_Tof (List.mem_of_getElem? (i := 653) (by decide +kernel)) (by decide +kernel))) hw hv kk
theorem pfX6_70 (hY : Y.1.cls = RX6) {a : Nat} {fs : List Value} {x : Int32} (d0 : decode Y.2.1 pc = .ok (.putfield 70, 3)) (hw : w a = some (.inr (6, fs))) (hl : 13 < fs.length) (kk : z_E G Y d Z (pc + 3) L st (z_up w a (.inr (6, fs.set 13 (.int x)))) k n) : z_E G Y d Z pc L (.int x :: .ref a :: st) w k n :=
  z_put (ci := 6) (j := 13) d0 rfl inX6 tyX6 tyX6_ok nmX6 (by decide) (by rw [hY]; exact (z_Tof (List.mem_of_getElem? (i := 651) (by decide +kernel)) (by decide +kernel))) rfl rfl rfl hw hl kk
theorem gfX6_50 (hY : Y.1.cls = RX6) {a : Nat} {fs : List Value} {v : Value} (d0 : decode Y.2.1 pc = .ok (.getfield 50, 3)) (hw : w a = some (.inr (6, fs))) (hv : fs[18]? = some v) (kk : z_E G Y d Z (pc + 3) L (v :: st) w k n) : z_E G Y d Z pc L (.ref a :: st) w k n :=
  z_get (ci := 6) (j := 18) d0 rfl inX6 (by decide) (by rw [hY]; exact (z_Tof (List.mem_of_getElem? (i := 656) (by decide +kernel)) (by decide +kernel))) hw hv kk
theorem cwX6_115 : z_cS RX6 115 zX6_shorter := ⟨(z_Tof (List.mem_of_getElem? (i := 778) (by decide +kernel)) (by decide +kernel)), (z_Tof (List.mem_of_getElem? (i := 779) (by decide +kernel)) (by decide +kernel)), (z_Tof (List.mem_of_getElem? (i := 30) (by decide +kernel)) (by decide +kernel)), (z_Tof (List.mem_of_getElem? (i := 780) (by decide +kernel)) (by decide +kernel))⟩
theorem cwX6_118 : z_cV RX6 118 zX6_lineOf := ⟨(z_Tof (List.mem_of_getElem? (i := 770) (by decide +kernel)) (by decide +kernel)), (z_Tof (List.mem_of_getElem? (i := 772) (by decide +kernel)) (by decide +kernel)), (z_Tof (List.mem_of_getElem? (i := 15) (by decide +kernel)) (by decide +kernel)), (z_Tof (List.mem_of_getElem? (i := 30) (by decide +kernel)) (by decide +kernel)), (z_Tof (List.mem_of_getElem? (i := 773) (by decide +kernel)) (by decide +kernel))⟩
theorem cwX6_121 : z_cV RX6 121 zX6_isGone := ⟨(z_Tof (List.mem_of_getElem? (i := 774) (by decide +kernel)) (by decide +kernel)), (z_Tof (List.mem_of_getElem? (i := 776) (by decide +kernel)) (by decide +kernel)), (z_Tof (List.mem_of_getElem? (i := 16) (by decide +kernel)) (by decide +kernel)), (z_Tof (List.mem_of_getElem? (i := 30) (by decide +kernel)) (by decide +kernel)), (z_Tof (List.mem_of_getElem? (i := 777) (by decide +kernel)) (by decide +kernel))⟩
theorem gfX6_44 (hY : Y.1.cls = RX6) {a : Nat} {fs : List Value} {v : Value} (d0 : decode Y.2.1 pc = .ok (.getfield 44, 3)) (hw : w a = some (.inr (6, fs))) (hv : fs[16]? = some v) (kk : z_E G Y d Z (pc + 3) L (v :: st) w k n) : z_E G Y d Z pc L (.ref a :: st) w k n :=
  z_get (ci := 6) (j := 16) d0 rfl inX6 (by decide) (by rw [hY]; exact (z_Tof (List.mem_of_getElem? (i := 654) (by decide +kernel)) (by decide +kernel))) hw hv kk
theorem gfX6_47 (hY : Y.1.cls = RX6) {a : Nat} {fs : List Value} {v : Value} (d0 : decode Y.2.1 pc = .ok (.getfield 47, 3)) (hw : w a = some (.inr (6, fs))) (hv : fs[17]? = some v) (kk : z_E G Y d Z (pc + 3) L (v :: st) w k n) : z_E G Y d Z pc L (.ref a :: st) w k n :=
  z_get (ci := 6) (j := 17) d0 rfl inX6 (by decide) (by rw [hY]; exact (z_Tof (List.mem_of_getElem? (i := 655) (by decide +kernel)) (by decide +kernel))) hw hv kk
theorem gfX6_32 (hY : Y.1.cls = RX6) {a : Nat} {fs : List Value} {v : Value} (d0 : decode Y.2.1 pc = .ok (.getfield 32, 3)) (hw : w a = some (.inr (6, fs))) (hv : fs[11]? = some v) (kk : z_E G Y d Z (pc + 3) L (v :: st) w k n) : z_E G Y d Z pc L (.ref a :: st) w k n :=
  z_get (ci := 6) (j := 11) d0 rfl inX6 (by decide) (by rw [hY]; exact (z_Tof (List.mem_of_getElem? (i := 649) (by decide +kernel)) (by decide +kernel))) hw hv kk
theorem gfX6_7 (hY : Y.1.cls = RX6) {a : Nat} {fs : List Value} {v : Value} (d0 : decode Y.2.1 pc = .ok (.getfield 7, 3)) (hw : w a = some (.inr (6, fs))) (hv : fs[1]? = some v) (kk : z_E G Y d Z (pc + 3) L (v :: st) w k n) : z_E G Y d Z pc L (.ref a :: st) w k n :=
  z_get (ci := 6) (j := 1) d0 rfl inX6 (by decide) (by rw [hY]; exact (z_Tof (List.mem_of_getElem? (i := 639) (by decide +kernel)) (by decide +kernel))) hw hv kk
theorem gfX6_13 (hY : Y.1.cls = RX6) {a : Nat} {fs : List Value} {v : Value} (d0 : decode Y.2.1 pc = .ok (.getfield 13, 3)) (hw : w a = some (.inr (6, fs))) (hv : fs[2]? = some v) (kk : z_E G Y d Z (pc + 3) L (v :: st) w k n) : z_E G Y d Z pc L (.ref a :: st) w k n :=
  z_get (ci := 6) (j := 2) d0 rfl inX6 (by decide) (by rw [hY]; exact (z_Tof (List.mem_of_getElem? (i := 640) (by decide +kernel)) (by decide +kernel))) hw hv kk
theorem cwX6_124 : z_cV RX6 124 zX6_notes := ⟨(z_Tof (List.mem_of_getElem? (i := 766) (by decide +kernel)) (by decide +kernel)), (z_Tof (List.mem_of_getElem? (i := 768) (by decide +kernel)) (by decide +kernel)), (z_Tof (List.mem_of_getElem? (i := 14) (by decide +kernel)) (by decide +kernel)), (z_Tof (List.mem_of_getElem? (i := 30) (by decide +kernel)) (by decide +kernel)), (z_Tof (List.mem_of_getElem? (i := 769) (by decide +kernel)) (by decide +kernel))⟩
theorem cwX6_128 : z_cV RX6 128 zX6_makes := ⟨(z_Tof (List.mem_of_getElem? (i := 781) (by decide +kernel)) (by decide +kernel)), (z_Tof (List.mem_of_getElem? (i := 783) (by decide +kernel)) (by decide +kernel)), (z_Tof (List.mem_of_getElem? (i := 17) (by decide +kernel)) (by decide +kernel)), (z_Tof (List.mem_of_getElem? (i := 30) (by decide +kernel)) (by decide +kernel)), (z_Tof (List.mem_of_getElem? (i := 784) (by decide +kernel)) (by decide +kernel))⟩
theorem cwX6_131 : z_cV RX6 131 zX6_told := ⟨(z_Tof (List.mem_of_getElem? (i := 793) (by decide +kernel)) (by decide +kernel)), (z_Tof (List.mem_of_getElem? (i := 795) (by decide +kernel)) (by decide +kernel)), (z_Tof (List.mem_of_getElem? (i := 19) (by decide +kernel)) (by decide +kernel)), (z_Tof (List.mem_of_getElem? (i := 30) (by decide +kernel)) (by decide +kernel)), (z_Tof (List.mem_of_getElem? (i := 796) (by decide +kernel)) (by decide +kernel))⟩
theorem cwX6_134 : z_cV RX6 134 zX6_ended := ⟨(z_Tof (List.mem_of_getElem? (i := 801) (by decide +kernel)) (by decide +kernel)), (z_Tof (List.mem_of_getElem? (i := 803) (by decide +kernel)) (by decide +kernel)), (z_Tof (List.mem_of_getElem? (i := 20) (by decide +kernel)) (by decide +kernel)), (z_Tof (List.mem_of_getElem? (i := 30) (by decide +kernel)) (by decide +kernel)), (z_Tof (List.mem_of_getElem? (i := 804) (by decide +kernel)) (by decide +kernel))⟩
theorem cwX6_138 : z_cV RX6 138 zX6_isPuzzle := ⟨(z_Tof (List.mem_of_getElem? (i := 817) (by decide +kernel)) (by decide +kernel)), (z_Tof (List.mem_of_getElem? (i := 819) (by decide +kernel)) (by decide +kernel)), (z_Tof (List.mem_of_getElem? (i := 21) (by decide +kernel)) (by decide +kernel)), (z_Tof (List.mem_of_getElem? (i := 30) (by decide +kernel)) (by decide +kernel)), (z_Tof (List.mem_of_getElem? (i := 820) (by decide +kernel)) (by decide +kernel))⟩
theorem gfX6_19 (hY : Y.1.cls = RX6) {a : Nat} {fs : List Value} {v : Value} (d0 : decode Y.2.1 pc = .ok (.getfield 19, 3)) (hw : w a = some (.inr (6, fs))) (hv : fs[4]? = some v) (kk : z_E G Y d Z (pc + 3) L (v :: st) w k n) : z_E G Y d Z pc L (.ref a :: st) w k n :=
  z_get (ci := 6) (j := 4) d0 rfl inX6 (by decide) (by rw [hY]; exact (z_Tof (List.mem_of_getElem? (i := 642) (by decide +kernel)) (by decide +kernel))) hw hv kk
theorem cwX6_141 : z_cV RX6 141 zX6_asks := ⟨(z_Tof (List.mem_of_getElem? (i := 841) (by decide +kernel)) (by decide +kernel)), (z_Tof (List.mem_of_getElem? (i := 843) (by decide +kernel)) (by decide +kernel)), (z_Tof (List.mem_of_getElem? (i := 22) (by decide +kernel)) (by decide +kernel)), (z_Tof (List.mem_of_getElem? (i := 30) (by decide +kernel)) (by decide +kernel)), (z_Tof (List.mem_of_getElem? (i := 844) (by decide +kernel)) (by decide +kernel))⟩
theorem gfX6_53 (hY : Y.1.cls = RX6) {a : Nat} {fs : List Value} {v : Value} (d0 : decode Y.2.1 pc = .ok (.getfield 53, 3)) (hw : w a = some (.inr (6, fs))) (hv : fs[19]? = some v) (kk : z_E G Y d Z (pc + 3) L (v :: st) w k n) : z_E G Y d Z pc L (.ref a :: st) w k n :=
  z_get (ci := 6) (j := 19) d0 rfl inX6 (by decide) (by rw [hY]; exact (z_Tof (List.mem_of_getElem? (i := 657) (by decide +kernel)) (by decide +kernel))) hw hv kk
theorem gfX6_56 (hY : Y.1.cls = RX6) {a : Nat} {fs : List Value} {v : Value} (d0 : decode Y.2.1 pc = .ok (.getfield 56, 3)) (hw : w a = some (.inr (6, fs))) (hv : fs[20]? = some v) (kk : z_E G Y d Z (pc + 3) L (v :: st) w k n) : z_E G Y d Z pc L (.ref a :: st) w k n :=
  z_get (ci := 6) (j := 20) d0 rfl inX6 (by decide) (by rw [hY]; exact (z_Tof (List.mem_of_getElem? (i := 658) (by decide +kernel)) (by decide +kernel))) hw hv kk
theorem cwX6_144 : z_cV RX6 144 zX6_sorts := ⟨(z_Tof (List.mem_of_getElem? (i := 869) (by decide +kernel)) (by decide +kernel)), (z_Tof (List.mem_of_getElem? (i := 871) (by decide +kernel)) (by decide +kernel)), (z_Tof (List.mem_of_getElem? (i := 24) (by decide +kernel)) (by decide +kernel)), (z_Tof (List.mem_of_getElem? (i := 30) (by decide +kernel)) (by decide +kernel)), (z_Tof (List.mem_of_getElem? (i := 872) (by decide +kernel)) (by decide +kernel))⟩
theorem cwX6_147 : z_cV RX6 147 zX6_havePlayed := ⟨(z_Tof (List.mem_of_getElem? (i := 873) (by decide +kernel)) (by decide +kernel)), (z_Tof (List.mem_of_getElem? (i := 875) (by decide +kernel)) (by decide +kernel)), (z_Tof (List.mem_of_getElem? (i := 25) (by decide +kernel)) (by decide +kernel)), (z_Tof (List.mem_of_getElem? (i := 30) (by decide +kernel)) (by decide +kernel)), (z_Tof (List.mem_of_getElem? (i := 876) (by decide +kernel)) (by decide +kernel))⟩
theorem cwX6_150 : z_cV RX6 150 zX6_pairs := ⟨(z_Tof (List.mem_of_getElem? (i := 865) (by decide +kernel)) (by decide +kernel)), (z_Tof (List.mem_of_getElem? (i := 867) (by decide +kernel)) (by decide +kernel)), (z_Tof (List.mem_of_getElem? (i := 23) (by decide +kernel)) (by decide +kernel)), (z_Tof (List.mem_of_getElem? (i := 30) (by decide +kernel)) (by decide +kernel)), (z_Tof (List.mem_of_getElem? (i := 868) (by decide +kernel)) (by decide +kernel))⟩
theorem cwL_7 : z_cV RL 7 zX5_after := ⟨(z_Tof (List.mem_of_getElem? (i := 131) (by decide +kernel)) (by decide +kernel)), (z_Tof (List.mem_of_getElem? (i := 132) (by decide +kernel)) (by decide +kernel)), (z_Tof (List.mem_of_getElem? (i := 133) (by decide +kernel)) (by decide +kernel)), (z_Tof (List.mem_of_getElem? (i := 27) (by decide +kernel)) (by decide +kernel)), (z_Tof (List.mem_of_getElem? (i := 134) (by decide +kernel)) (by decide +kernel))⟩
theorem cwL_15 : z_cV RL 15 zX5_worth := ⟨(z_Tof (List.mem_of_getElem? (i := 216) (by decide +kernel)) (by decide +kernel)), (z_Tof (List.mem_of_getElem? (i := 217) (by decide +kernel)) (by decide +kernel)), (z_Tof (List.mem_of_getElem? (i := 218) (by decide +kernel)) (by decide +kernel)), (z_Tof (List.mem_of_getElem? (i := 27) (by decide +kernel)) (by decide +kernel)), (z_Tof (List.mem_of_getElem? (i := 219) (by decide +kernel)) (by decide +kernel))⟩
theorem cwL_19 : z_cV RL 19 zX5_best := ⟨(z_Tof (List.mem_of_getElem? (i := 226) (by decide +kernel)) (by decide +kernel)), (z_Tof (List.mem_of_getElem? (i := 227) (by decide +kernel)) (by decide +kernel)), (z_Tof (List.mem_of_getElem? (i := 228) (by decide +kernel)) (by decide +kernel)), (z_Tof (List.mem_of_getElem? (i := 27) (by decide +kernel)) (by decide +kernel)), (z_Tof (List.mem_of_getElem? (i := 229) (by decide +kernel)) (by decide +kernel))⟩
theorem cwL_22 : z_cV RL 22 zX5_enter := ⟨(z_Tof (List.mem_of_getElem? (i := 240) (by decide +kernel)) (by decide +kernel)), (z_Tof (List.mem_of_getElem? (i := 241) (by decide +kernel)) (by decide +kernel)), (z_Tof (List.mem_of_getElem? (i := 242) (by decide +kernel)) (by decide +kernel)), (z_Tof (List.mem_of_getElem? (i := 27) (by decide +kernel)) (by decide +kernel)), (z_Tof (List.mem_of_getElem? (i := 243) (by decide +kernel)) (by decide +kernel))⟩
theorem cwL_28 : z_cV RL 28 zX5_begin := ⟨(z_Tof (List.mem_of_getElem? (i := 298) (by decide +kernel)) (by decide +kernel)), (z_Tof (List.mem_of_getElem? (i := 299) (by decide +kernel)) (by decide +kernel)), (z_Tof (List.mem_of_getElem? (i := 300) (by decide +kernel)) (by decide +kernel)), (z_Tof (List.mem_of_getElem? (i := 27) (by decide +kernel)) (by decide +kernel)), (z_Tof (List.mem_of_getElem? (i := 301) (by decide +kernel)) (by decide +kernel))⟩
theorem cwL_33 : z_cV RL 33 zX5_move := ⟨(z_Tof (List.mem_of_getElem? (i := 358) (by decide +kernel)) (by decide +kernel)), (z_Tof (List.mem_of_getElem? (i := 359) (by decide +kernel)) (by decide +kernel)), (z_Tof (List.mem_of_getElem? (i := 360) (by decide +kernel)) (by decide +kernel)), (z_Tof (List.mem_of_getElem? (i := 27) (by decide +kernel)) (by decide +kernel)), (z_Tof (List.mem_of_getElem? (i := 361) (by decide +kernel)) (by decide +kernel))⟩
theorem cwL_37 : z_cV RL 37 zX5_end := ⟨(z_Tof (List.mem_of_getElem? (i := 379) (by decide +kernel)) (by decide +kernel)), (z_Tof (List.mem_of_getElem? (i := 380) (by decide +kernel)) (by decide +kernel)), (z_Tof (List.mem_of_getElem? (i := 381) (by decide +kernel)) (by decide +kernel)), (z_Tof (List.mem_of_getElem? (i := 27) (by decide +kernel)) (by decide +kernel)), (z_Tof (List.mem_of_getElem? (i := 382) (by decide +kernel)) (by decide +kernel))⟩
theorem cwL_40 : z_cV RL 40 zX5_score := ⟨(z_Tof (List.mem_of_getElem? (i := 462) (by decide +kernel)) (by decide +kernel)), (z_Tof (List.mem_of_getElem? (i := 463) (by decide +kernel)) (by decide +kernel)), (z_Tof (List.mem_of_getElem? (i := 464) (by decide +kernel)) (by decide +kernel)), (z_Tof (List.mem_of_getElem? (i := 27) (by decide +kernel)) (by decide +kernel)), (z_Tof (List.mem_of_getElem? (i := 465) (by decide +kernel)) (by decide +kernel))⟩
theorem cwL_43 : z_cV RL 43 zX5_puzzle := ⟨(z_Tof (List.mem_of_getElem? (i := 469) (by decide +kernel)) (by decide +kernel)), (z_Tof (List.mem_of_getElem? (i := 470) (by decide +kernel)) (by decide +kernel)), (z_Tof (List.mem_of_getElem? (i := 471) (by decide +kernel)) (by decide +kernel)), (z_Tof (List.mem_of_getElem? (i := 27) (by decide +kernel)) (by decide +kernel)), (z_Tof (List.mem_of_getElem? (i := 472) (by decide +kernel)) (by decide +kernel))⟩
theorem cwL_46 : z_cV RL 46 zX5_source := ⟨(z_Tof (List.mem_of_getElem? (i := 481) (by decide +kernel)) (by decide +kernel)), (z_Tof (List.mem_of_getElem? (i := 482) (by decide +kernel)) (by decide +kernel)), (z_Tof (List.mem_of_getElem? (i := 483) (by decide +kernel)) (by decide +kernel)), (z_Tof (List.mem_of_getElem? (i := 27) (by decide +kernel)) (by decide +kernel)), (z_Tof (List.mem_of_getElem? (i := 484) (by decide +kernel)) (by decide +kernel))⟩
theorem cwL_49 : z_cV RL 49 zX5_solve := ⟨(z_Tof (List.mem_of_getElem? (i := 488) (by decide +kernel)) (by decide +kernel)), (z_Tof (List.mem_of_getElem? (i := 489) (by decide +kernel)) (by decide +kernel)), (z_Tof (List.mem_of_getElem? (i := 490) (by decide +kernel)) (by decide +kernel)), (z_Tof (List.mem_of_getElem? (i := 27) (by decide +kernel)) (by decide +kernel)), (z_Tof (List.mem_of_getElem? (i := 491) (by decide +kernel)) (by decide +kernel))⟩
theorem cwL_53 : z_cV RL 53 zX5_offered := ⟨(z_Tof (List.mem_of_getElem? (i := 515) (by decide +kernel)) (by decide +kernel)), (z_Tof (List.mem_of_getElem? (i := 516) (by decide +kernel)) (by decide +kernel)), (z_Tof (List.mem_of_getElem? (i := 517) (by decide +kernel)) (by decide +kernel)), (z_Tof (List.mem_of_getElem? (i := 27) (by decide +kernel)) (by decide +kernel)), (z_Tof (List.mem_of_getElem? (i := 518) (by decide +kernel)) (by decide +kernel))⟩
theorem cwL_56 : z_cV RL 56 zX5_rating := ⟨(z_Tof (List.mem_of_getElem? (i := 530) (by decide +kernel)) (by decide +kernel)), (z_Tof (List.mem_of_getElem? (i := 531) (by decide +kernel)) (by decide +kernel)), (z_Tof (List.mem_of_getElem? (i := 532) (by decide +kernel)) (by decide +kernel)), (z_Tof (List.mem_of_getElem? (i := 27) (by decide +kernel)) (by decide +kernel)), (z_Tof (List.mem_of_getElem? (i := 533) (by decide +kernel)) (by decide +kernel))⟩
theorem cwL_59 : z_cV RL 59 zX5_results := ⟨(z_Tof (List.mem_of_getElem? (i := 539) (by decide +kernel)) (by decide +kernel)), (z_Tof (List.mem_of_getElem? (i := 540) (by decide +kernel)) (by decide +kernel)), (z_Tof (List.mem_of_getElem? (i := 541) (by decide +kernel)) (by decide +kernel)), (z_Tof (List.mem_of_getElem? (i := 27) (by decide +kernel)) (by decide +kernel)), (z_Tof (List.mem_of_getElem? (i := 542) (by decide +kernel)) (by decide +kernel))⟩
theorem cwL_62 : z_cV RL 62 zX5_points := ⟨(z_Tof (List.mem_of_getElem? (i := 558) (by decide +kernel)) (by decide +kernel)), (z_Tof (List.mem_of_getElem? (i := 559) (by decide +kernel)) (by decide +kernel)), (z_Tof (List.mem_of_getElem? (i := 560) (by decide +kernel)) (by decide +kernel)), (z_Tof (List.mem_of_getElem? (i := 27) (by decide +kernel)) (by decide +kernel)), (z_Tof (List.mem_of_getElem? (i := 561) (by decide +kernel)) (by decide +kernel))⟩
theorem cwL_65 : z_cV RL 65 zX5_isDropped := ⟨(z_Tof (List.mem_of_getElem? (i := 565) (by decide +kernel)) (by decide +kernel)), (z_Tof (List.mem_of_getElem? (i := 566) (by decide +kernel)) (by decide +kernel)), (z_Tof (List.mem_of_getElem? (i := 567) (by decide +kernel)) (by decide +kernel)), (z_Tof (List.mem_of_getElem? (i := 27) (by decide +kernel)) (by decide +kernel)), (z_Tof (List.mem_of_getElem? (i := 568) (by decide +kernel)) (by decide +kernel))⟩
theorem cwL_69 : z_cV RL 69 zX5_pointsOfGames := ⟨(z_Tof (List.mem_of_getElem? (i := 576) (by decide +kernel)) (by decide +kernel)), (z_Tof (List.mem_of_getElem? (i := 577) (by decide +kernel)) (by decide +kernel)), (z_Tof (List.mem_of_getElem? (i := 578) (by decide +kernel)) (by decide +kernel)), (z_Tof (List.mem_of_getElem? (i := 27) (by decide +kernel)) (by decide +kernel)), (z_Tof (List.mem_of_getElem? (i := 579) (by decide +kernel)) (by decide +kernel))⟩
theorem cwL_72 : z_cV RL 72 zX5_mean := ⟨(z_Tof (List.mem_of_getElem? (i := 589) (by decide +kernel)) (by decide +kernel)), (z_Tof (List.mem_of_getElem? (i := 590) (by decide +kernel)) (by decide +kernel)), (z_Tof (List.mem_of_getElem? (i := 591) (by decide +kernel)) (by decide +kernel)), (z_Tof (List.mem_of_getElem? (i := 27) (by decide +kernel)) (by decide +kernel)), (z_Tof (List.mem_of_getElem? (i := 592) (by decide +kernel)) (by decide +kernel))⟩
theorem cwL_76 : z_cV RL 76 zX5_opponent := ⟨(z_Tof (List.mem_of_getElem? (i := 596) (by decide +kernel)) (by decide +kernel)), (z_Tof (List.mem_of_getElem? (i := 597) (by decide +kernel)) (by decide +kernel)), (z_Tof (List.mem_of_getElem? (i := 598) (by decide +kernel)) (by decide +kernel)), (z_Tof (List.mem_of_getElem? (i := 27) (by decide +kernel)) (by decide +kernel)), (z_Tof (List.mem_of_getElem? (i := 599) (by decide +kernel)) (by decide +kernel))⟩
theorem cwL_79 : z_cV RL 79 zX5_hasWhite := ⟨(z_Tof (List.mem_of_getElem? (i := 623) (by decide +kernel)) (by decide +kernel)), (z_Tof (List.mem_of_getElem? (i := 624) (by decide +kernel)) (by decide +kernel)), (z_Tof (List.mem_of_getElem? (i := 625) (by decide +kernel)) (by decide +kernel)), (z_Tof (List.mem_of_getElem? (i := 27) (by decide +kernel)) (by decide +kernel)), (z_Tof (List.mem_of_getElem? (i := 626) (by decide +kernel)) (by decide +kernel))⟩
theorem nwL_8 (hY : Y.1.cls = RL) (d0 : decode Y.2.1 pc = .ok (.new 8, 3)) (hk1 : 1 ≤ k) (hn1 : 8 ≤ n) (kk : ∀ q : Nat, w q = none → z_E G Y d Z (pc + 3) L (.ref q :: st) (z_up w q (.inr (5, [.null, .int 0, .null, .int 0, .null, .null, .int 0, .null]))) (k - 1) (n - 8)) : z_E G Y d Z pc L st w k n :=
  z_new (ci := 5) (fs := [.null, .int 0, .null, .int 0, .null, .null, .int 0, .null]) d0 rfl inX5 tyX5 tyX5_ok (fun j hj => by
    have h : j = 0 ∨ j = 1 ∨ j = 2 ∨ j = 3 ∨ j = 4 ∨ j = 5 ∨ j = 6 ∨ j = 7 := by omega
    rcases h with rfl | rfl | rfl | rfl | rfl | rfl | rfl | rfl <;> rfl) (by rw [hY]; exact (z_Tof (List.mem_of_getElem? (i := 41) (by decide +kernel)) (by decide +kernel))) (z_Tof (List.mem_of_getElem? (i := 42) (by decide +kernel)) (by decide +kernel)) (z_Tof (List.mem_of_getElem? (i := 27) (by decide +kernel)) (by decide +kernel)) hk1 hn1 kk
theorem cwL_82 : z_cI RL 82 zX5_init := ⟨(z_Tof (List.mem_of_getElem? (i := 43) (by decide +kernel)) (by decide +kernel)), (z_Tof (List.mem_of_getElem? (i := 44) (by decide +kernel)) (by decide +kernel)), (z_Tof (List.mem_of_getElem? (i := 27) (by decide +kernel)) (by decide +kernel)), (z_Tof (List.mem_of_getElem? (i := 45) (by decide +kernel)) (by decide +kernel)), rfl, rfl⟩
theorem nwL_83 (hY : Y.1.cls = RL) (d0 : decode Y.2.1 pc = .ok (.new 83, 3)) (hk1 : 1 ≤ k) (hn1 : 22 ≤ n) (kk : ∀ q : Nat, w q = none → z_E G Y d Z (pc + 3) L (.ref q :: st) (z_up w q (.inr (6, [.int 0, .null, .null, .null, .null, .int 0, .int 0, .int 0, .null, .null, .null, .null, .null, .int 0, .null, .null, .null, .null, .null, .null, .null, .int 0]))) (k - 1) (n - 22)) : z_E G Y d Z pc L st w k n :=
  z_new (ci := 6) (fs := [.int 0, .null, .null, .null, .null, .int 0, .int 0, .int 0, .null, .null, .null, .null, .null, .int 0, .null, .null, .null, .null, .null, .null, .null, .int 0]) d0 rfl inX6 tyX6 tyX6_ok (fun j hj => by
    have h : j = 0 ∨ j = 1 ∨ j = 2 ∨ j = 3 ∨ j = 4 ∨ j = 5 ∨ j = 6 ∨ j = 7 ∨ j = 8 ∨ j = 9 ∨ j = 10 ∨ j = 11 ∨ j = 12 ∨ j = 13 ∨ j = 14 ∨ j = 15 ∨ j = 16 ∨ j = 17 ∨ j = 18 ∨ j = 19 ∨ j = 20 ∨ j = 21 := by omega
    rcases h with rfl | rfl | rfl | rfl | rfl | rfl | rfl | rfl | rfl | rfl | rfl | rfl | rfl | rfl | rfl | rfl | rfl | rfl | rfl | rfl | rfl | rfl <;> rfl) (by rw [hY]; exact (z_Tof (List.mem_of_getElem? (i := 632) (by decide +kernel)) (by decide +kernel))) (z_Tof (List.mem_of_getElem? (i := 633) (by decide +kernel)) (by decide +kernel)) (z_Tof (List.mem_of_getElem? (i := 30) (by decide +kernel)) (by decide +kernel)) hk1 hn1 kk
theorem cwL_85 : z_cI RL 85 zX6_init := ⟨(z_Tof (List.mem_of_getElem? (i := 634) (by decide +kernel)) (by decide +kernel)), (z_Tof (List.mem_of_getElem? (i := 635) (by decide +kernel)) (by decide +kernel)), (z_Tof (List.mem_of_getElem? (i := 30) (by decide +kernel)) (by decide +kernel)), (z_Tof (List.mem_of_getElem? (i := 636) (by decide +kernel)) (by decide +kernel)), rfl, rfl⟩
theorem cwL_91 : z_cV RL 91 zX6_after := ⟨(z_Tof (List.mem_of_getElem? (i := 709) (by decide +kernel)) (by decide +kernel)), (z_Tof (List.mem_of_getElem? (i := 710) (by decide +kernel)) (by decide +kernel)), (z_Tof (List.mem_of_getElem? (i := 711) (by decide +kernel)) (by decide +kernel)), (z_Tof (List.mem_of_getElem? (i := 30) (by decide +kernel)) (by decide +kernel)), (z_Tof (List.mem_of_getElem? (i := 712) (by decide +kernel)) (by decide +kernel))⟩
theorem cwL_92 : z_cV RL 92 zX6_thrown := ⟨(z_Tof (List.mem_of_getElem? (i := 705) (by decide +kernel)) (by decide +kernel)), (z_Tof (List.mem_of_getElem? (i := 706) (by decide +kernel)) (by decide +kernel)), (z_Tof (List.mem_of_getElem? (i := 707) (by decide +kernel)) (by decide +kernel)), (z_Tof (List.mem_of_getElem? (i := 30) (by decide +kernel)) (by decide +kernel)), (z_Tof (List.mem_of_getElem? (i := 708) (by decide +kernel)) (by decide +kernel))⟩
theorem cwL_98 : z_cV RL 98 zX6_worth := ⟨(z_Tof (List.mem_of_getElem? (i := 729) (by decide +kernel)) (by decide +kernel)), (z_Tof (List.mem_of_getElem? (i := 730) (by decide +kernel)) (by decide +kernel)), (z_Tof (List.mem_of_getElem? (i := 731) (by decide +kernel)) (by decide +kernel)), (z_Tof (List.mem_of_getElem? (i := 30) (by decide +kernel)) (by decide +kernel)), (z_Tof (List.mem_of_getElem? (i := 732) (by decide +kernel)) (by decide +kernel))⟩
theorem cwL_101 : z_cV RL 101 zX6_best := ⟨(z_Tof (List.mem_of_getElem? (i := 736) (by decide +kernel)) (by decide +kernel)), (z_Tof (List.mem_of_getElem? (i := 737) (by decide +kernel)) (by decide +kernel)), (z_Tof (List.mem_of_getElem? (i := 738) (by decide +kernel)) (by decide +kernel)), (z_Tof (List.mem_of_getElem? (i := 30) (by decide +kernel)) (by decide +kernel)), (z_Tof (List.mem_of_getElem? (i := 739) (by decide +kernel)) (by decide +kernel))⟩
theorem cwL_105 : z_cV RL 105 zX6_enter := ⟨(z_Tof (List.mem_of_getElem? (i := 743) (by decide +kernel)) (by decide +kernel)), (z_Tof (List.mem_of_getElem? (i := 744) (by decide +kernel)) (by decide +kernel)), (z_Tof (List.mem_of_getElem? (i := 745) (by decide +kernel)) (by decide +kernel)), (z_Tof (List.mem_of_getElem? (i := 30) (by decide +kernel)) (by decide +kernel)), (z_Tof (List.mem_of_getElem? (i := 746) (by decide +kernel)) (by decide +kernel))⟩
theorem cwL_108 : z_cV RL 108 zX6_begin := ⟨(z_Tof (List.mem_of_getElem? (i := 747) (by decide +kernel)) (by decide +kernel)), (z_Tof (List.mem_of_getElem? (i := 748) (by decide +kernel)) (by decide +kernel)), (z_Tof (List.mem_of_getElem? (i := 749) (by decide +kernel)) (by decide +kernel)), (z_Tof (List.mem_of_getElem? (i := 30) (by decide +kernel)) (by decide +kernel)), (z_Tof (List.mem_of_getElem? (i := 750) (by decide +kernel)) (by decide +kernel))⟩
theorem cwL_111 : z_cV RL 111 zX6_move := ⟨(z_Tof (List.mem_of_getElem? (i := 755) (by decide +kernel)) (by decide +kernel)), (z_Tof (List.mem_of_getElem? (i := 756) (by decide +kernel)) (by decide +kernel)), (z_Tof (List.mem_of_getElem? (i := 757) (by decide +kernel)) (by decide +kernel)), (z_Tof (List.mem_of_getElem? (i := 30) (by decide +kernel)) (by decide +kernel)), (z_Tof (List.mem_of_getElem? (i := 758) (by decide +kernel)) (by decide +kernel))⟩
theorem cwL_114 : z_cV RL 114 zX6_end := ⟨(z_Tof (List.mem_of_getElem? (i := 762) (by decide +kernel)) (by decide +kernel)), (z_Tof (List.mem_of_getElem? (i := 763) (by decide +kernel)) (by decide +kernel)), (z_Tof (List.mem_of_getElem? (i := 764) (by decide +kernel)) (by decide +kernel)), (z_Tof (List.mem_of_getElem? (i := 30) (by decide +kernel)) (by decide +kernel)), (z_Tof (List.mem_of_getElem? (i := 765) (by decide +kernel)) (by decide +kernel))⟩
theorem cwL_115 : z_cV RL 115 zX5_position := ⟨(z_Tof (List.mem_of_getElem? (i := 115) (by decide +kernel)) (by decide +kernel)), (z_Tof (List.mem_of_getElem? (i := 116) (by decide +kernel)) (by decide +kernel)), (z_Tof (List.mem_of_getElem? (i := 117) (by decide +kernel)) (by decide +kernel)), (z_Tof (List.mem_of_getElem? (i := 27) (by decide +kernel)) (by decide +kernel)), (z_Tof (List.mem_of_getElem? (i := 118) (by decide +kernel)) (by decide +kernel))⟩
theorem cwL_118 : z_cV RL 118 zX6_position := ⟨(z_Tof (List.mem_of_getElem? (i := 789) (by decide +kernel)) (by decide +kernel)), (z_Tof (List.mem_of_getElem? (i := 790) (by decide +kernel)) (by decide +kernel)), (z_Tof (List.mem_of_getElem? (i := 791) (by decide +kernel)) (by decide +kernel)), (z_Tof (List.mem_of_getElem? (i := 30) (by decide +kernel)) (by decide +kernel)), (z_Tof (List.mem_of_getElem? (i := 792) (by decide +kernel)) (by decide +kernel))⟩
theorem cwL_119 : z_cV RL 119 zX5_games := ⟨(z_Tof (List.mem_of_getElem? (i := 119) (by decide +kernel)) (by decide +kernel)), (z_Tof (List.mem_of_getElem? (i := 120) (by decide +kernel)) (by decide +kernel)), (z_Tof (List.mem_of_getElem? (i := 121) (by decide +kernel)) (by decide +kernel)), (z_Tof (List.mem_of_getElem? (i := 27) (by decide +kernel)) (by decide +kernel)), (z_Tof (List.mem_of_getElem? (i := 122) (by decide +kernel)) (by decide +kernel))⟩
theorem cwL_122 : z_cV RL 122 zX6_games := ⟨(z_Tof (List.mem_of_getElem? (i := 797) (by decide +kernel)) (by decide +kernel)), (z_Tof (List.mem_of_getElem? (i := 798) (by decide +kernel)) (by decide +kernel)), (z_Tof (List.mem_of_getElem? (i := 799) (by decide +kernel)) (by decide +kernel)), (z_Tof (List.mem_of_getElem? (i := 30) (by decide +kernel)) (by decide +kernel)), (z_Tof (List.mem_of_getElem? (i := 800) (by decide +kernel)) (by decide +kernel))⟩
theorem cwL_125 : z_cV RL 125 zX6_score := ⟨(z_Tof (List.mem_of_getElem? (i := 805) (by decide +kernel)) (by decide +kernel)), (z_Tof (List.mem_of_getElem? (i := 806) (by decide +kernel)) (by decide +kernel)), (z_Tof (List.mem_of_getElem? (i := 807) (by decide +kernel)) (by decide +kernel)), (z_Tof (List.mem_of_getElem? (i := 30) (by decide +kernel)) (by decide +kernel)), (z_Tof (List.mem_of_getElem? (i := 808) (by decide +kernel)) (by decide +kernel))⟩
theorem cwL_126 : z_cV RL 126 zX5_puzzles := ⟨(z_Tof (List.mem_of_getElem? (i := 123) (by decide +kernel)) (by decide +kernel)), (z_Tof (List.mem_of_getElem? (i := 124) (by decide +kernel)) (by decide +kernel)), (z_Tof (List.mem_of_getElem? (i := 125) (by decide +kernel)) (by decide +kernel)), (z_Tof (List.mem_of_getElem? (i := 27) (by decide +kernel)) (by decide +kernel)), (z_Tof (List.mem_of_getElem? (i := 126) (by decide +kernel)) (by decide +kernel))⟩
theorem cwL_129 : z_cV RL 129 zX6_puzzles := ⟨(z_Tof (List.mem_of_getElem? (i := 809) (by decide +kernel)) (by decide +kernel)), (z_Tof (List.mem_of_getElem? (i := 810) (by decide +kernel)) (by decide +kernel)), (z_Tof (List.mem_of_getElem? (i := 811) (by decide +kernel)) (by decide +kernel)), (z_Tof (List.mem_of_getElem? (i := 30) (by decide +kernel)) (by decide +kernel)), (z_Tof (List.mem_of_getElem? (i := 812) (by decide +kernel)) (by decide +kernel))⟩
theorem cwL_132 : z_cV RL 132 zX6_puzzle := ⟨(z_Tof (List.mem_of_getElem? (i := 813) (by decide +kernel)) (by decide +kernel)), (z_Tof (List.mem_of_getElem? (i := 814) (by decide +kernel)) (by decide +kernel)), (z_Tof (List.mem_of_getElem? (i := 815) (by decide +kernel)) (by decide +kernel)), (z_Tof (List.mem_of_getElem? (i := 30) (by decide +kernel)) (by decide +kernel)), (z_Tof (List.mem_of_getElem? (i := 816) (by decide +kernel)) (by decide +kernel))⟩
theorem cwL_135 : z_cV RL 135 zX6_source := ⟨(z_Tof (List.mem_of_getElem? (i := 821) (by decide +kernel)) (by decide +kernel)), (z_Tof (List.mem_of_getElem? (i := 822) (by decide +kernel)) (by decide +kernel)), (z_Tof (List.mem_of_getElem? (i := 823) (by decide +kernel)) (by decide +kernel)), (z_Tof (List.mem_of_getElem? (i := 30) (by decide +kernel)) (by decide +kernel)), (z_Tof (List.mem_of_getElem? (i := 824) (by decide +kernel)) (by decide +kernel))⟩
theorem cwL_139 : z_cV RL 139 zX6_solve := ⟨(z_Tof (List.mem_of_getElem? (i := 825) (by decide +kernel)) (by decide +kernel)), (z_Tof (List.mem_of_getElem? (i := 826) (by decide +kernel)) (by decide +kernel)), (z_Tof (List.mem_of_getElem? (i := 827) (by decide +kernel)) (by decide +kernel)), (z_Tof (List.mem_of_getElem? (i := 30) (by decide +kernel)) (by decide +kernel)), (z_Tof (List.mem_of_getElem? (i := 828) (by decide +kernel)) (by decide +kernel))⟩
theorem cwL_142 : z_cV RL 142 zX6_offered := ⟨(z_Tof (List.mem_of_getElem? (i := 829) (by decide +kernel)) (by decide +kernel)), (z_Tof (List.mem_of_getElem? (i := 830) (by decide +kernel)) (by decide +kernel)), (z_Tof (List.mem_of_getElem? (i := 831) (by decide +kernel)) (by decide +kernel)), (z_Tof (List.mem_of_getElem? (i := 30) (by decide +kernel)) (by decide +kernel)), (z_Tof (List.mem_of_getElem? (i := 832) (by decide +kernel)) (by decide +kernel))⟩
theorem cwL_145 : z_cV RL 145 zX6_rating := ⟨(z_Tof (List.mem_of_getElem? (i := 833) (by decide +kernel)) (by decide +kernel)), (z_Tof (List.mem_of_getElem? (i := 834) (by decide +kernel)) (by decide +kernel)), (z_Tof (List.mem_of_getElem? (i := 835) (by decide +kernel)) (by decide +kernel)), (z_Tof (List.mem_of_getElem? (i := 30) (by decide +kernel)) (by decide +kernel)), (z_Tof (List.mem_of_getElem? (i := 836) (by decide +kernel)) (by decide +kernel))⟩
theorem cwL_148 : z_cV RL 148 zX6_results := ⟨(z_Tof (List.mem_of_getElem? (i := 837) (by decide +kernel)) (by decide +kernel)), (z_Tof (List.mem_of_getElem? (i := 838) (by decide +kernel)) (by decide +kernel)), (z_Tof (List.mem_of_getElem? (i := 839) (by decide +kernel)) (by decide +kernel)), (z_Tof (List.mem_of_getElem? (i := 30) (by decide +kernel)) (by decide +kernel)), (z_Tof (List.mem_of_getElem? (i := 840) (by decide +kernel)) (by decide +kernel))⟩
theorem cwL_151 : z_cV RL 151 zX6_points := ⟨(z_Tof (List.mem_of_getElem? (i := 845) (by decide +kernel)) (by decide +kernel)), (z_Tof (List.mem_of_getElem? (i := 846) (by decide +kernel)) (by decide +kernel)), (z_Tof (List.mem_of_getElem? (i := 847) (by decide +kernel)) (by decide +kernel)), (z_Tof (List.mem_of_getElem? (i := 30) (by decide +kernel)) (by decide +kernel)), (z_Tof (List.mem_of_getElem? (i := 848) (by decide +kernel)) (by decide +kernel))⟩
theorem cwL_154 : z_cV RL 154 zX6_isDropped := ⟨(z_Tof (List.mem_of_getElem? (i := 849) (by decide +kernel)) (by decide +kernel)), (z_Tof (List.mem_of_getElem? (i := 850) (by decide +kernel)) (by decide +kernel)), (z_Tof (List.mem_of_getElem? (i := 851) (by decide +kernel)) (by decide +kernel)), (z_Tof (List.mem_of_getElem? (i := 30) (by decide +kernel)) (by decide +kernel)), (z_Tof (List.mem_of_getElem? (i := 852) (by decide +kernel)) (by decide +kernel))⟩
theorem cwL_157 : z_cV RL 157 zX6_pointsOfGames := ⟨(z_Tof (List.mem_of_getElem? (i := 853) (by decide +kernel)) (by decide +kernel)), (z_Tof (List.mem_of_getElem? (i := 854) (by decide +kernel)) (by decide +kernel)), (z_Tof (List.mem_of_getElem? (i := 855) (by decide +kernel)) (by decide +kernel)), (z_Tof (List.mem_of_getElem? (i := 30) (by decide +kernel)) (by decide +kernel)), (z_Tof (List.mem_of_getElem? (i := 856) (by decide +kernel)) (by decide +kernel))⟩
theorem cwL_161 : z_cV RL 161 zX6_mean := ⟨(z_Tof (List.mem_of_getElem? (i := 857) (by decide +kernel)) (by decide +kernel)), (z_Tof (List.mem_of_getElem? (i := 858) (by decide +kernel)) (by decide +kernel)), (z_Tof (List.mem_of_getElem? (i := 859) (by decide +kernel)) (by decide +kernel)), (z_Tof (List.mem_of_getElem? (i := 30) (by decide +kernel)) (by decide +kernel)), (z_Tof (List.mem_of_getElem? (i := 860) (by decide +kernel)) (by decide +kernel))⟩
theorem cwL_164 : z_cV RL 164 zX6_opponent := ⟨(z_Tof (List.mem_of_getElem? (i := 861) (by decide +kernel)) (by decide +kernel)), (z_Tof (List.mem_of_getElem? (i := 862) (by decide +kernel)) (by decide +kernel)), (z_Tof (List.mem_of_getElem? (i := 863) (by decide +kernel)) (by decide +kernel)), (z_Tof (List.mem_of_getElem? (i := 30) (by decide +kernel)) (by decide +kernel)), (z_Tof (List.mem_of_getElem? (i := 864) (by decide +kernel)) (by decide +kernel))⟩
theorem cwL_167 : z_cV RL 167 zX6_hasWhite := ⟨(z_Tof (List.mem_of_getElem? (i := 877) (by decide +kernel)) (by decide +kernel)), (z_Tof (List.mem_of_getElem? (i := 878) (by decide +kernel)) (by decide +kernel)), (z_Tof (List.mem_of_getElem? (i := 879) (by decide +kernel)) (by decide +kernel)), (z_Tof (List.mem_of_getElem? (i := 30) (by decide +kernel)) (by decide +kernel)), (z_Tof (List.mem_of_getElem? (i := 880) (by decide +kernel)) (by decide +kernel))⟩
end ZPROG
theorem ac_int : Cond.arrayClass .int ∈ z_T := (z_Tof (List.mem_of_getElem? (i := 292) (by decide +kernel)) (by decide +kernel))
theorem ac_boolean : Cond.arrayClass .boolean ∈ z_T := (z_Tof (List.mem_of_getElem? (i := 293) (by decide +kernel)) (by decide +kernel))
theorem ac_long : Cond.arrayClass .long ∈ z_T := (z_Tof (List.mem_of_getElem? (i := 881) (by decide +kernel)) (by decide +kernel))
theorem ac_double : Cond.arrayClass .double ∈ z_T := (z_Tof (List.mem_of_getElem? (i := 882) (by decide +kernel)) (by decide +kernel))
end
section
/-! the words of throws -/
set_option maxRecDepth 100000 in
theorem th56 : z_thr 56 60 "java/lang/IllegalStateException" := ⟨by decide +kernel, (z_Tof (List.mem_of_getElem? (i := 244) (by decide +kernel)) (by decide +kernel)), (z_Tof (List.mem_of_getElem? (i := 35) (by decide +kernel)) (by decide +kernel)), by decide +kernel, by decide +kernel, by decide +kernel, by decide +kernel⟩
set_option maxRecDepth 100000 in
theorem th69 : z_thr 69 73 "java/lang/IllegalArgumentException" := ⟨by decide +kernel, (z_Tof (List.mem_of_getElem? (i := 138) (by decide +kernel)) (by decide +kernel)), (z_Tof (List.mem_of_getElem? (i := 34) (by decide +kernel)) (by decide +kernel)), by decide +kernel, by decide +kernel, by decide +kernel, by decide +kernel⟩
set_option maxRecDepth 100000 in
theorem th218 : z_thr 218 222 "java/lang/IndexOutOfBoundsException" := ⟨by decide +kernel, (z_Tof (List.mem_of_getElem? (i := 306) (by decide +kernel)) (by decide +kernel)), (z_Tof (List.mem_of_getElem? (i := 37) (by decide +kernel)) (by decide +kernel)), by decide +kernel, by decide +kernel, by decide +kernel, by decide +kernel⟩
theorem sr58 : (RX5, 58, "there are as many players as there may be") ∈ z_strs := by decide +kernel
theorem sr71 : (RX5, 71, "a game is of two unlike players") ∈ z_strs := by decide +kernel
theorem sr78 : (RX5, 78, "a game goes on") ∈ z_strs := by decide +kernel
theorem sr83 : (RX5, 83, "there were as many games as there may be") ∈ z_strs := by decide +kernel
theorem sr88 : (RX5, 88, "no game goes on") ∈ z_strs := by decide +kernel
theorem sr94 : (RX5, 94, "the game has as many moves as it may have") ∈ z_strs := by decide +kernel
theorem sr106 : (RX5, 106, "result is out of range") ∈ z_strs := by decide +kernel
theorem sr153 : (RX5, 153, "the player has tried the puzzle") ∈ z_strs := by decide +kernel
theorem sr168 : (RX5, 168, "theme is out of range") ∈ z_strs := by decide +kernel
theorem sr204 : (RX5, 204, "the player would have no game") ∈ z_strs := by decide +kernel
theorem sr210 : (RX5, 210, "position is out of range") ∈ z_strs := by decide +kernel
theorem sr212 : (RX5, 212, "move is out of range") ∈ z_strs := by decide +kernel
theorem sr214 : (RX5, 214, "moves is out of range") ∈ z_strs := by decide +kernel
theorem sr216 : (RX5, 216, "line is out of range") ∈ z_strs := by decide +kernel
theorem sr220 : (RX5, 220, "there is no such player") ∈ z_strs := by decide +kernel
theorem sr223 : (RX5, 223, "there is no such puzzle") ∈ z_strs := by decide +kernel
end
section
/-! calls of methods that answer one value and leave the world -/
def z_rp (r : Value) (w : z_W) : Option Value → z_W → Prop := fun v w' => v = some r ∧ w' = w
def z_rv (w : z_W) : Option Value → z_W → Prop := fun v w' => v = none ∧ w' = w
def z_nx : String → z_W → Prop := fun _ _ => False
def z_ex (E : String) (w : z_W) : String → z_W → Prop := fun E' w' => E' = E ∧ w' = w
section ZP
variable {G : z_G} {Y : z_Mi} {d : Nat} {Z : z_Gq} {pc : Nat} {L : List (Option Value)} {st : List Value} {w : z_W} {k n : Nat}
variable {Y' : z_Mi} {d' idx j : Nat} {As rest : List Value} {r : Value}
theorem z_callVp {b ci : Nat} {q : vw_C} {fs : List Value} (hM : z_M G Y' d' (.ref b :: As) w 0 0 (z_rp r w) z_nx) (d0 : decode Y.2.1 pc = .ok (.invokevirtual idx, 3)) (hw : z_cV Y.1.cls idx Y') (ho : z_ok Y' j) (hn : As.length = j) (hb : w b = some (.inr (ci, fs))) (hc : vwCl[ci]? = some q) (hq : q.1 = Y'.1.cls) (hdd : d' + 1 ≤ d) (hst : st = As.reverse ++ .ref b :: rest) (hre : (rest.map fun v => v.category).sum ≤ 8)
    (kk : z_E G Y d Z (pc + 3) L (r :: rest) w k n) : z_E G Y d Z pc L st w k n := by
  refine z_callV hM d0 hw ho hn hb hc hq hdd hst hre (Nat.zero_le _) (Nat.zero_le _) (fun _ _ h => h.elim) (fun v w2 h => ?_)
  obtain ⟨rfl, rfl⟩ := h
  exact kk
theorem z_callSp (hM : z_M G Y' d' As w 0 0 (z_rp r w) z_nx) (d0 : decode Y.2.1 pc = .ok (.invokestatic idx, 3)) (hw : z_cS Y.1.cls idx Y') (ho : z_ok Y' j) (hn : As.length = j) (hdd : d' + 1 ≤ d) (hst : st = As.reverse ++ rest) (hre : (rest.map fun v => v.category).sum ≤ 8)
    (kk : z_E G Y d Z (pc + 3) L (r :: rest) w k n) : z_E G Y d Z pc L st w k n := by
  refine z_callS hM d0 hw ho hn hdd hst hre (Nat.zero_le _) (Nat.zero_le _) (fun _ _ h => h.elim) (fun v w2 h => ?_)
  obtain ⟨rfl, rfl⟩ := h
  exact kk
theorem z_callSNp (hM : z_M G Y' d' As w 0 0 (z_rp r w) z_nx) (d0 : decode Y.2.1 pc = .ok (.invokestatic idx, 3)) (hw : z_cSN Y.1.cls idx Y') (ho : z_ok Y' j) (hn : As.length = j) (hdd : d' + 1 ≤ d) (hst : st = As.reverse ++ rest) (hre : (rest.map fun v => v.category).sum ≤ 8)
    (kk : z_E G Y d Z (pc + 3) L (r :: rest) w k n) : z_E G Y d Z pc L st w k n := by
  refine z_callSN hM d0 hw ho hn hdd hst hre (Nat.zero_le _) (Nat.zero_le _) (fun _ _ h => h.elim) (fun v w2 h => ?_)
  obtain ⟨rfl, rfl⟩ := h
  exact kk
end ZP
def nx (p m : Int32) : Int32 := (7 * p + 13 * m + 5) - (7 * p + 13 * m + 5) / 1000 * 1000
def wo (p : Int32) : Int32 := p * 37 - p * 37 / 101 * 101 - 50
def bs (p m f : Int32) : Int32 := if wo (nx p f) < wo (nx p m) then m else f
def bst (p : Int32) : Int32 := bs p 3 (bs p 2 (bs p 1 0))
def blC (p m : Int32) : Int32 := if wo (nx p (bst p)) - wo (nx p m) < 40 then 0 else 1
def blM (p m : Int32) : Int32 := if wo (nx p (bst p)) - 40 < wo (nx p m) then 0 else 1
theorem z_01 (c : Prop) [Decidable c] : (if c then (0 : Int32) else 1) = 0 ∨ (if c then (0 : Int32) else 1) = 1 := by
  by_cases h : c
  · exact Or.inl (if_pos h)
  · exact Or.inr (if_neg h)
theorem z_10 (c : Prop) [Decidable c] : (if c then (1 : Int32) else 0) = 0 ∨ (if c then (1 : Int32) else 0) = 1 := by
  by_cases h : c
  · exact Or.inr (if_pos h)
  · exact Or.inl (if_neg h)
section POS
variable (G : z_G) (w : z_W)
theorem mX5_positionAfter (p m : Int32) : z_M G zX5_positionAfter 0 [.int p, .int m] w 0 0 (z_rp (.int (nx p m)) w) z_nx := by
  refine z_M.of (by decide +kernel) rfl (by intro v hv; simp only [List.mem_cons, List.not_mem_nil, or_false] at hv; rcases hv with rfl | rfl <;> first | rfl | exact z_isr_cat (z_isr_rf _)) (Nat.le_of_ble_eq_true rfl) ?_
  show z_E _ zX5_positionAfter _ _ 0 [some (.int p), some (.int m)] [] _ _ _
  refine z_bipush_7 (pc := 0) dX5_positionAfter_0 ?_
  refine z_iload_n (pc := 2) dX5_positionAfter_2 rfl ?_
  refine z_imul (pc := 3) dX5_positionAfter_3 ?_
  refine z_bipush_13 (pc := 4) dX5_positionAfter_4 ?_
  refine z_iload_n (pc := 6) dX5_positionAfter_6 rfl ?_
  refine z_imul (pc := 7) dX5_positionAfter_7 ?_
  refine z_iadd (pc := 8) dX5_positionAfter_8 ?_
  refine z_iconst_5 (pc := 9) dX5_positionAfter_9 ?_
  refine z_iadd (pc := 10) dX5_positionAfter_10 ?_
  refine z_sipush_1000 (pc := 11) dX5_positionAfter_11 ?_
  refine z_irem (pc := 14) dX5_positionAfter_14 (by decide) ?_
  refine z_iret (pc := 15) dX5_positionAfter_15 rfl (⟨rfl, rfl⟩)
theorem mX6_next (p m : Int32) : z_M G zX6_next 0 [.int p, .int m] w 0 0 (z_rp (.int (nx p m)) w) z_nx := by
  refine z_M.of (by decide +kernel) rfl (by intro v hv; simp only [List.mem_cons, List.not_mem_nil, or_false] at hv; rcases hv with rfl | rfl <;> first | rfl | exact z_isr_cat (z_isr_rf _)) (Nat.le_of_ble_eq_true rfl) ?_
  show z_E _ zX6_next _ _ 0 [some (.int p), some (.int m)] [] _ _ _
  refine z_bipush_7 (pc := 0) dX6_next_0 ?_
  refine z_iload_n (pc := 2) dX6_next_2 rfl ?_
  refine z_imul (pc := 3) dX6_next_3 ?_
  refine z_bipush_13 (pc := 4) dX6_next_4 ?_
  refine z_iload_n (pc := 6) dX6_next_6 rfl ?_
  refine z_imul (pc := 7) dX6_next_7 ?_
  refine z_iadd (pc := 8) dX6_next_8 ?_
  refine z_iconst_5 (pc := 9) dX6_next_9 ?_
  refine z_iadd (pc := 10) dX6_next_10 ?_
  refine z_sipush_1000 (pc := 11) dX6_next_11 ?_
  refine z_irem (pc := 14) dX6_next_14 (by decide) ?_
  refine z_iret (pc := 15) dX6_next_15 rfl (⟨rfl, rfl⟩)
theorem mX5_worthOf (p : Int32) : z_M G zX5_worthOf 0 [.int p] w 0 0 (z_rp (.int (wo p)) w) z_nx := by
  refine z_M.of (by decide +kernel) rfl (by intro v hv; simp only [List.mem_cons, List.not_mem_nil, or_false] at hv; rcases hv with rfl <;> first | rfl | exact z_isr_cat (z_isr_rf _)) (Nat.le_of_ble_eq_true rfl) ?_
  show z_E _ zX5_worthOf _ _ 0 [some (.int p)] [] _ _ _
  refine z_iload_n (pc := 0) dX5_worthOf_0 rfl ?_
  refine z_bipush_37 (pc := 1) dX5_worthOf_1 ?_
  refine z_imul (pc := 3) dX5_worthOf_3 ?_
  refine z_bipush_101 (pc := 4) dX5_worthOf_4 ?_
  refine z_irem (pc := 6) dX5_worthOf_6 (by decide) ?_
  refine z_bipush_50 (pc := 7) dX5_worthOf_7 ?_
  refine z_isub (pc := 9) dX5_worthOf_9 ?_
  refine z_iret (pc := 10) dX5_worthOf_10 rfl (⟨rfl, rfl⟩)
theorem mX6_worthOf (p : Int32) : z_M G zX6_worthOf 0 [.int p] w 0 0 (z_rp (.int (wo p)) w) z_nx := by
  refine z_M.of (by decide +kernel) rfl (by intro v hv; simp only [List.mem_cons, List.not_mem_nil, or_false] at hv; rcases hv with rfl <;> first | rfl | exact z_isr_cat (z_isr_rf _)) (Nat.le_of_ble_eq_true rfl) ?_
  show z_E _ zX6_worthOf _ _ 0 [some (.int p)] [] _ _ _
  refine z_iload_n (pc := 0) dX6_worthOf_0 rfl ?_
  refine z_bipush_37 (pc := 1) dX6_worthOf_1 ?_
  refine z_imul (pc := 3) dX6_worthOf_3 ?_
  refine z_bipush_101 (pc := 4) dX6_worthOf_4 ?_
  refine z_irem (pc := 6) dX6_worthOf_6 (by decide) ?_
  refine z_bipush_50 (pc := 7) dX6_worthOf_7 ?_
  refine z_isub (pc := 9) dX6_worthOf_9 ?_
  refine z_iret (pc := 10) dX6_worthOf_10 rfl (⟨rfl, rfl⟩)
theorem mX5_worthAfter (p m : Int32) : z_M G zX5_worthAfter 1 [.int p, .int m] w 0 0 (z_rp (.int (wo (nx p m))) w) z_nx := by
  refine z_M.of (by decide +kernel) rfl (by intro v hv; simp only [List.mem_cons, List.not_mem_nil, or_false] at hv; rcases hv with rfl | rfl <;> first | rfl | exact z_isr_cat (z_isr_rf _)) (Nat.le_of_ble_eq_true rfl) ?_
  show z_E _ zX5_worthAfter _ _ 0 [some (.int p), some (.int m)] [] _ _ _
  refine z_iload_n (pc := 0) dX5_worthAfter_0 rfl ?_
  refine z_iload_n (pc := 1) dX5_worthAfter_1 rfl ?_
  refine z_callSp (pc := 2) (mX5_positionAfter G w p m) dX5_worthAfter_2 cwX5_41 okX5_positionAfter rfl (by omega) rfl (Nat.le_of_ble_eq_true rfl) ?_
  refine z_callSp (pc := 5) (mX5_worthOf G w (nx p m)) dX5_worthAfter_5 cwX5_45 okX5_worthOf rfl (by omega) rfl (Nat.le_of_ble_eq_true rfl) ?_
  refine z_iret (pc := 8) dX5_worthAfter_8 rfl (⟨rfl, rfl⟩)
theorem iX5_bestMove {Z : z_Gq} (p f m : Int32) (hm : ¬ (4 : Int32) ≤ m) (kk : z_E G zX5_bestMove 2 Z 4 [some (.int p), some (.int (bs p m f)), some (.int (m + 1))] [] w 0 0) : z_E G zX5_bestMove 2 Z 4 [some (.int p), some (.int f), some (.int m)] [] w 0 0 := by
  refine z_iload_n (pc := 4) dX5_bestMove_4 rfl ?_
  refine z_iconst_4 (pc := 5) dX5_bestMove_5 ?_
  refine z_icmp_ge (pc := 6) (tgt := 30) dX5_bestMove_6 (by decide) (fun hn => absurd hn (hm)) (fun _ => ?_)
  refine z_iload_n (pc := 9) dX5_bestMove_9 rfl ?_
  refine z_iload_n (pc := 10) dX5_bestMove_10 rfl ?_
  refine z_callSp (pc := 11) (mX5_worthAfter G w p m) dX5_bestMove_11 cwX5_225 okX5_worthAfter rfl (by omega) rfl (Nat.le_of_ble_eq_true rfl) ?_
  refine z_iload_n (pc := 14) dX5_bestMove_14 rfl ?_
  refine z_iload_n (pc := 15) dX5_bestMove_15 rfl ?_
  refine z_callSp (pc := 16) (mX5_worthAfter G w p f) dX5_bestMove_16 cwX5_225 okX5_worthAfter rfl (by omega) rfl (Nat.le_of_ble_eq_true rfl) ?_
  refine z_icmp_le (pc := 19) (tgt := 24) dX5_bestMove_19 (by decide) (fun hc => ?_) (fun hc => ?_)
  · have e : bs p m f = f := if_neg (by rw [← Int32.not_le] at *; exact fun h => h hc)
    rw [e] at kk
    refine z_iinc2 (pc := 24) dX5_bestMove_24 ?_
    refine z_goto (pc := 27) (tgt := 4) dX5_bestMove_27 (by decide) ?_
    exact kk
  · have e : bs p m f = m := if_pos (by rw [← Int32.not_le] at *; exact hc)
    rw [e] at kk
    refine z_iload_n (pc := 22) dX5_bestMove_22 rfl ?_
    refine z_istore1 (pc := 23) dX5_bestMove_23 ?_
    refine z_iinc2 (pc := 24) dX5_bestMove_24 ?_
    refine z_goto (pc := 27) (tgt := 4) dX5_bestMove_27 (by decide) ?_
    exact kk
theorem mX5_bestMove (p : Int32) : z_M G zX5_bestMove 2 [.int p] w 0 0 (z_rp (.int (bst p)) w) z_nx := by
  refine z_M.of (by decide +kernel) rfl (by intro v hv; simp only [List.mem_cons, List.not_mem_nil, or_false] at hv; rcases hv with rfl <;> first | rfl | exact z_isr_cat (z_isr_rf _)) (Nat.le_of_ble_eq_true rfl) ?_
  show z_E _ zX5_bestMove _ _ 0 [some (.int p), none, none] [] _ _ _
  refine z_iconst_0 (pc := 0) dX5_bestMove_0 ?_
  refine z_istore1 (pc := 1) dX5_bestMove_1 ?_
  refine z_iconst_1 (pc := 2) dX5_bestMove_2 ?_
  refine z_istore2 (pc := 3) dX5_bestMove_3 ?_
  refine iX5_bestMove G w p 0 1 (by decide) (iX5_bestMove G w p _ _ (by decide) (iX5_bestMove G w p _ _ (by decide) ?_))
  refine z_iload_n (pc := 4) dX5_bestMove_4 rfl ?_
  refine z_iconst_4 (pc := 5) dX5_bestMove_5 ?_
  refine z_icmp_ge (pc := 6) (tgt := 30) dX5_bestMove_6 (by decide) (fun _ => ?_) (fun hn => absurd ((by decide)) hn)
  refine z_iload_n (pc := 30) dX5_bestMove_30 rfl ?_
  refine z_iret (pc := 31) dX5_bestMove_31 rfl (⟨rfl, rfl⟩)
theorem iX6_bestIn {Z : z_Gq} (p f m : Int32) (hm : ¬ (4 : Int32) ≤ m) (kk : z_E G zX6_bestIn 2 Z 4 [some (.int p), some (.int (bs p m f)), some (.int (m + 1))] [] w 0 0) : z_E G zX6_bestIn 2 Z 4 [some (.int p), some (.int f), some (.int m)] [] w 0 0 := by
  refine z_iload_n (pc := 4) dX6_bestIn_4 rfl ?_
  refine z_iconst_4 (pc := 5) dX6_bestIn_5 ?_
  refine z_icmp_ge (pc := 6) (tgt := 40) dX6_bestIn_6 (by decide) (fun hn => absurd hn (hm)) (fun _ => ?_)
  refine z_iload_n (pc := 9) dX6_bestIn_9 rfl ?_
  refine z_iload_n (pc := 10) dX6_bestIn_10 rfl ?_
  refine z_callSp (pc := 11) (mX6_next G w p m) dX6_bestIn_11 cwX6_73 okX6_next rfl (by omega) rfl (Nat.le_of_ble_eq_true rfl) ?_
  refine z_callSp (pc := 14) (mX6_worthOf G w (nx p m)) dX6_bestIn_14 cwX6_77 okX6_worthOf rfl (by omega) rfl (Nat.le_of_ble_eq_true rfl) ?_
  refine z_iload_n (pc := 17) dX6_bestIn_17 rfl ?_
  refine z_iload_n (pc := 18) dX6_bestIn_18 rfl ?_
  refine z_callSp (pc := 19) (mX6_next G w p f) dX6_bestIn_19 cwX6_73 okX6_next rfl (by omega) rfl (Nat.le_of_ble_eq_true rfl) ?_
  refine z_callSp (pc := 22) (mX6_worthOf G w (nx p f)) dX6_bestIn_22 cwX6_77 okX6_worthOf rfl (by omega) rfl (Nat.le_of_ble_eq_true rfl) ?_
  refine z_icmp_le (pc := 25) (tgt := 32) dX6_bestIn_25 (by decide) (fun hc => ?_) (fun hc => ?_)
  · have e : bs p m f = f := if_neg (by rw [← Int32.not_le] at *; exact fun h => h hc)
    rw [e] at kk
    refine z_iload_n (pc := 32) dX6_bestIn_32 rfl ?_
    refine z_istore1 (pc := 33) dX6_bestIn_33 ?_
    refine z_iinc2 (pc := 34) dX6_bestIn_34 ?_
    refine z_goto (pc := 37) (tgt := 4) dX6_bestIn_37 (by decide) ?_
    exact kk
  · have e : bs p m f = m := if_pos (by rw [← Int32.not_le] at *; exact hc)
    rw [e] at kk
    refine z_iload_n (pc := 28) dX6_bestIn_28 rfl ?_
    refine z_goto (pc := 29) (tgt := 33) dX6_bestIn_29 (by decide) ?_
    refine z_istore1 (pc := 33) dX6_bestIn_33 ?_
    refine z_iinc2 (pc := 34) dX6_bestIn_34 ?_
    refine z_goto (pc := 37) (tgt := 4) dX6_bestIn_37 (by decide) ?_
    exact kk
theorem mX6_bestIn (p : Int32) : z_M G zX6_bestIn 2 [.int p] w 0 0 (z_rp (.int (bst p)) w) z_nx := by
  refine z_M.of (by decide +kernel) rfl (by intro v hv; simp only [List.mem_cons, List.not_mem_nil, or_false] at hv; rcases hv with rfl <;> first | rfl | exact z_isr_cat (z_isr_rf _)) (Nat.le_of_ble_eq_true rfl) ?_
  show z_E _ zX6_bestIn _ _ 0 [some (.int p), none, none] [] _ _ _
  refine z_iconst_0 (pc := 0) dX6_bestIn_0 ?_
  refine z_istore1 (pc := 1) dX6_bestIn_1 ?_
  refine z_iconst_1 (pc := 2) dX6_bestIn_2 ?_
  refine z_istore2 (pc := 3) dX6_bestIn_3 ?_
  refine iX6_bestIn G w p 0 1 (by decide) (iX6_bestIn G w p _ _ (by decide) (iX6_bestIn G w p _ _ (by decide) ?_))
  refine z_iload_n (pc := 4) dX6_bestIn_4 rfl ?_
  refine z_iconst_4 (pc := 5) dX6_bestIn_5 ?_
  refine z_icmp_ge (pc := 6) (tgt := 40) dX6_bestIn_6 (by decide) (fun _ => ?_) (fun hn => absurd ((by decide)) hn)
  refine z_iload_n (pc := 40) dX6_bestIn_40 rfl ?_
  refine z_iret (pc := 41) dX6_bestIn_41 rfl (⟨rfl, rfl⟩)
theorem mX5_isBlunder (p m : Int32) : z_M G zX5_isBlunder 3 [.int p, .int m] w 0 0 (z_rp (.int (blC p m)) w) z_nx := by
  refine z_M.of (by decide +kernel) rfl (by intro v hv; simp only [List.mem_cons, List.not_mem_nil, or_false] at hv; rcases hv with rfl | rfl <;> first | rfl | exact z_isr_cat (z_isr_rf _)) (Nat.le_of_ble_eq_true rfl) ?_
  show z_E _ zX5_isBlunder _ _ 0 [some (.int p), some (.int m)] [] _ _ _
  refine z_iload_n (pc := 0) dX5_isBlunder_0 rfl ?_
  refine z_iload_n (pc := 1) dX5_isBlunder_1 rfl ?_
  refine z_callSp (pc := 2) (mX5_bestMove G w p) dX5_isBlunder_2 cwX5_49 okX5_bestMove rfl (by omega) rfl (Nat.le_of_ble_eq_true rfl) ?_
  refine z_callSp (pc := 5) (mX5_worthAfter G w p (bst p)) dX5_isBlunder_5 cwX5_225 okX5_worthAfter rfl (by omega) rfl (Nat.le_of_ble_eq_true rfl) ?_
  refine z_iload_n (pc := 8) dX5_isBlunder_8 rfl ?_
  refine z_iload_n (pc := 9) dX5_isBlunder_9 rfl ?_
  refine z_callSp (pc := 10) (mX5_worthAfter G w p m) dX5_isBlunder_10 cwX5_225 okX5_worthAfter rfl (by omega) rfl (Nat.le_of_ble_eq_true rfl) ?_
  refine z_isub (pc := 13) dX5_isBlunder_13 ?_
  refine z_bipush_40 (pc := 14) dX5_isBlunder_14 ?_
  refine z_icmp_lt (pc := 16) (tgt := 23) dX5_isBlunder_16 (by decide) (fun hc => ?_) (fun hc => ?_)
  · refine z_iconst_0 (pc := 23) dX5_isBlunder_23 ?_
    refine z_zret (pc := 24) dX5_isBlunder_24 rfl (Or.inl rfl ) ( ⟨by rw [blC, if_pos hc], rfl⟩)
  · refine z_iconst_1 (pc := 19) dX5_isBlunder_19 ?_
    refine z_goto (pc := 20) (tgt := 24) dX5_isBlunder_20 (by decide) ?_
    refine z_zret (pc := 24) dX5_isBlunder_24 rfl (Or.inr rfl ) ( ⟨by rw [blC, if_neg hc], rfl⟩)
theorem mX6_isBlunder (p m : Int32) : z_M G zX6_isBlunder 3 [.int p, .int m] w 0 0 (z_rp (.int (blM p m)) w) z_nx := by
  refine z_M.of (by decide +kernel) rfl (by intro v hv; simp only [List.mem_cons, List.not_mem_nil, or_false] at hv; rcases hv with rfl | rfl <;> first | rfl | exact z_isr_cat (z_isr_rf _)) (Nat.le_of_ble_eq_true rfl) ?_
  show z_E _ zX6_isBlunder _ _ 0 [some (.int p), some (.int m)] [] _ _ _
  refine z_iload_n (pc := 0) dX6_isBlunder_0 rfl ?_
  refine z_iload_n (pc := 1) dX6_isBlunder_1 rfl ?_
  refine z_callSp (pc := 2) (mX6_next G w p m) dX6_isBlunder_2 cwX6_73 okX6_next rfl (by omega) rfl (Nat.le_of_ble_eq_true rfl) ?_
  refine z_callSp (pc := 5) (mX6_worthOf G w (nx p m)) dX6_isBlunder_5 cwX6_77 okX6_worthOf rfl (by omega) rfl (Nat.le_of_ble_eq_true rfl) ?_
  refine z_iload_n (pc := 8) dX6_isBlunder_8 rfl ?_
  refine z_iload_n (pc := 9) dX6_isBlunder_9 rfl ?_
  refine z_callSp (pc := 10) (mX6_bestIn G w p) dX6_isBlunder_10 cwX6_81 okX6_bestIn rfl (by omega) rfl (Nat.le_of_ble_eq_true rfl) ?_
  refine z_callSp (pc := 13) (mX6_next G w p (bst p)) dX6_isBlunder_13 cwX6_73 okX6_next rfl (by omega) rfl (Nat.le_of_ble_eq_true rfl) ?_
  refine z_callSp (pc := 16) (mX6_worthOf G w (nx p (bst p))) dX6_isBlunder_16 cwX6_77 okX6_worthOf rfl (by omega) rfl (Nat.le_of_ble_eq_true rfl) ?_
  refine z_bipush_40 (pc := 19) dX6_isBlunder_19 ?_
  refine z_isub (pc := 21) dX6_isBlunder_21 ?_
  refine z_icmp_gt (pc := 22) (tgt := 29) dX6_isBlunder_22 (by decide) (fun hc => ?_) (fun hc => ?_)
  · refine z_iconst_0 (pc := 29) dX6_isBlunder_29 ?_
    refine z_zret (pc := 30) dX6_isBlunder_30 rfl (Or.inl rfl ) ( ⟨by rw [blM, if_pos hc], rfl⟩)
  · refine z_iconst_1 (pc := 25) dX6_isBlunder_25 ?_
    refine z_goto (pc := 26) (tgt := 30) dX6_isBlunder_26 (by decide) ?_
    refine z_zret (pc := 30) dX6_isBlunder_30 rfl (Or.inr rfl ) ( ⟨by rw [blM, if_neg hc], rfl⟩)
end POS
end
section
/-! worlds by tags: which cells there are, at which addresses, and what each holds -/
def z_fr (F : Nat → Prop) (w w' : z_W) : Prop := ∀ a, F a → w' a = w a
theorem z_fr.rf {F : Nat → Prop} {w : z_W} : z_fr F w w := fun _ _ => rfl
theorem z_fr.tr {F : Nat → Prop} {w w' w'' : z_W} (h : z_fr F w w') (h' : z_fr F w' w'') : z_fr F w w'' := fun a ha => (h' a ha).trans (h a ha)
def z_tw (lv : Nat → Nat → Nat → Prop) (A : Nat → Nat → Nat → Nat) (ct : Nat → Nat → Nat → va_E) (F : Nat → Prop) (w : z_W) : Prop :=
  (∀ k i j, lv k i j → w (A k i j) = some (ct k i j) ∧ ¬ F (A k i j)) ∧ (∀ k i j k' i' j', lv k i j → lv k' i' j' → A k i j = A k' i' j' → k = k' ∧ i = i' ∧ j = j') ∧ (∀ a, F a → w a ≠ none)
section TW
variable {lv lv' : Nat → Nat → Nat → Prop} {A A' : Nat → Nat → Nat → Nat} {ct ct' : Nat → Nat → Nat → va_E} {F : Nat → Prop} {w w' : z_W}
theorem z_tw.at (h : z_tw lv A ct F w) {k i j : Nat} (hl : lv k i j) : w (A k i j) = some (ct k i j) := (h.1 k i j hl).1
theorem z_tw.re (h : z_tw lv A ct F w) (hl : ∀ k i j, lv' k i j → lv k i j) (hc : ∀ k i j, lv' k i j → ct' k i j = ct k i j) : z_tw lv' A ct' F w :=
  ⟨fun k i j q => ⟨by rw [hc k i j q]; exact h.at (hl k i j q), (h.1 k i j (hl k i j q)).2⟩, fun k i j k' i' j' a b => h.2.1 k i j k' i' j' (hl _ _ _ a) (hl _ _ _ b), h.2.2⟩
theorem z_tw.put (h : z_tw lv A ct F w) {k i j : Nat} {e : va_E} (hl : lv k i j) (he : ct' k i j = e) (ho : ∀ k' i' j', lv k' i' j' → ¬ (k' = k ∧ i' = i ∧ j' = j) → ct' k' i' j' = ct k' i' j') : z_tw lv A ct' F (z_up w (A k i j) e) ∧ z_fr F w (z_up w (A k i j) e) := by
  have hfr : z_fr F w (z_up w (A k i j) e) := fun a ha => z_upN w e (fun q => (h.1 k i j hl).2 (q ▸ ha))
  refine ⟨⟨fun k' i' j' q => ⟨?_, (h.1 k' i' j' q).2⟩, h.2.1, fun a ha => by rw [hfr a ha]; exact h.2.2 a ha⟩, hfr⟩
  by_cases hq : k' = k ∧ i' = i ∧ j' = j
  · obtain ⟨rfl, rfl, rfl⟩ := hq
    rw [z_upS, he]
  · rw [z_upN w e (fun z => hq (h.2.1 _ _ _ _ _ _ q hl z)), ho k' i' j' q hq]
    exact h.at q
theorem z_tw.grow (h : z_tw lv A ct F w) (new : Nat → Nat → Nat → Prop) (hlv : ∀ k i j, lv' k i j → lv k i j ∨ new k i j) (hn : ∀ k i j, new k i j → w (A' k i j) = none ∧ w' (A' k i j) = some (ct' k i j)) (hi : ∀ k i j k' i' j', new k i j → new k' i' j' → A' k i j = A' k' i' j' → k = k' ∧ i = i' ∧ j = j')
    (ho : ∀ k i j, lv k i j → A' k i j = A k i j ∧ ct' k i j = ct k i j) (hk : ∀ a, w a ≠ none → w' a = w a) : z_tw lv' A' ct' F w' ∧ z_fr F w w' := by
  have hnn : ∀ k i j, lv k i j → w (A k i j) ≠ none := fun k i j q => by rw [h.at q]; exact fun z => nomatch z
  refine ⟨⟨fun k i j q => ?_, fun k i j k' i' j' q q' z => ?_, fun a ha => by rw [hk a (h.2.2 a ha)]; exact h.2.2 a ha⟩, fun a ha => hk a (h.2.2 a ha)⟩
  · rcases hlv k i j q with q | q
    · rw [(ho k i j q).1, (ho k i j q).2, hk _ (hnn k i j q)]
      exact h.1 k i j q
    · exact ⟨(hn k i j q).2, fun z => h.2.2 _ z (hn k i j q).1⟩
  · rcases hlv k i j q with q | q <;> rcases hlv k' i' j' q' with q' | q'
    · rw [(ho k i j q).1, (ho k' i' j' q').1] at z
      exact h.2.1 _ _ _ _ _ _ q q' z
    · rw [(ho k i j q).1] at z
      exact absurd (by rw [z]; exact (hn k' i' j' q').1) (hnn k i j q)
    · rw [(ho k' i' j' q').1] at z
      exact absurd (by rw [← z]; exact (hn k i j q).1) (hnn k' i' j' q')
    · exact hi _ _ _ _ _ _ q q' z
/-- another world that is the same off F keeps a tagged world whose frame it is -/
theorem z_tw.keep (h : z_tw lv A ct F w) (hw : ∀ k i j, lv k i j → w' (A k i j) = w (A k i j)) (hF : ∀ a, F a → w' a ≠ none) : z_tw lv A ct F w' :=
  ⟨fun k i j q => ⟨by rw [hw k i j q]; exact h.at q, (h.1 k i j q).2⟩, h.2.1, hF⟩
end TW
/-! the class's own state: I ints, N numbers, O options, B which lines the book has; A the addresses -/
abbrev z_TI : Type := Nat → Nat → Nat → Int32
abbrev z_TN : Type := Nat → Nat → Nat
abbrev z_TO : Type := Nat → Nat → Option Nat
abbrev z_TB : Type := Nat → Nat → Bool
def z_sI (I : z_TI) (f i j : Nat) (v : Int32) : z_TI := fun f' => if f' = f then (fun i' => if i' = i then (fun j' => if j' = j then v else I f i j') else I f i') else I f'
def z_sN (N : z_TN) (f i : Nat) (v : Nat) : z_TN := fun f' => if f' = f then (fun i' => if i' = i then v else N f i') else N f'
def z_sO (O : z_TO) (f i : Nat) (v : Option Nat) : z_TO := fun f' => if f' = f then (fun i' => if i' = i then v else O f i') else O f'
theorem z_sI_s (I : z_TI) (f i j : Nat) (v : Int32) : z_sI I f i j v f i j = v := by simp [z_sI]
theorem z_sI_f (I : z_TI) {f f' : Nat} (i j : Nat) (v : Int32) (h : f' ≠ f) : z_sI I f i j v f' = I f' := by simp [z_sI, h]
theorem z_sI_i (I : z_TI) (f : Nat) {i i' : Nat} (j : Nat) (v : Int32) (h : i' ≠ i) : z_sI I f i j v f i' = I f i' := by simp [z_sI, h]
theorem z_sI_j (I : z_TI) (f i : Nat) {j j' : Nat} (v : Int32) (h : j' ≠ j) : z_sI I f i j v f i j' = I f i j' := by simp [z_sI, h]
theorem z_sI_u (I : z_TI) (f i j : Nat) (v : Int32) : z_sI I f i j v f i = upd (I f i) j v := by
  funext x
  by_cases h : x = j <;> simp [z_sI, upd, h]
theorem z_sI_ne (I : z_TI) {f i j f' i' j' : Nat} (v : Int32) (h : ¬ (f' = f ∧ i' = i ∧ j' = j)) : z_sI I f i j v f' i' j' = I f' i' j' := by
  by_cases h1 : f' = f
  · subst h1
    by_cases h2 : i' = i
    · subst h2
      by_cases h3 : j' = j
      · exact absurd ⟨rfl, rfl, h3⟩ h
      · rw [z_sI_j _ _ _ _ h3]
    · rw [z_sI_i _ _ _ _ h2]
  · rw [z_sI_f _ _ _ _ h1]
theorem z_sN_s (N : z_TN) (f i v : Nat) : z_sN N f i v f i = v := by simp [z_sN]
theorem z_sN_f (N : z_TN) {f f' : Nat} (i v : Nat) (h : f' ≠ f) : z_sN N f i v f' = N f' := by simp [z_sN, h]
theorem z_sN_i (N : z_TN) (f : Nat) {i i' : Nat} (v : Nat) (h : i' ≠ i) : z_sN N f i v f i' = N f i' := by simp [z_sN, h]
theorem z_sO_s (O : z_TO) (f i : Nat) (v : Option Nat) : z_sO O f i v f i = v := by simp [z_sO]
theorem z_sO_f (O : z_TO) {f f' : Nat} (i : Nat) (v : Option Nat) (h : f' ≠ f) : z_sO O f i v f' = O f' := by simp [z_sO, h]
theorem z_sO_i (O : z_TO) (f : Nat) {i i' : Nat} (v : Option Nat) (h : i' ≠ i) : z_sO O f i v f i' = O f i' := by simp [z_sO, h]
abbrev z_rs (f : Nat → Option Nat) : (Nat → Int32) ⊕ (Nat → Int64) ⊕ (Nat → UInt32) ⊕ (Nat → UInt64) ⊕ (Nat → Option Nat) := .inr (.inr (.inr (.inr f)))
/-- what the cells hold; kinds 0 the academy, 1 to 3 its rows, 4 the book, 5 a player, 6 to 8 its rows, 9 a game, 10 its moves, 11 a puzzle, 12 a line (i moves, number j), 13 what goes on from it -/
def z_ct (G : z_G) (A : Nat → Nat → Nat → Nat) (I : z_TI) (N : z_TN) (O : z_TO) (B : z_TB) (k i j : Nat) : va_E := match k with
  | 0 => .inr (5, [.ref (A 1 0 0), .int (nI (N 0 0)), .ref (A 2 0 0), .int (nI (N 1 0)), va_rf ((O 0 0).map (fun g => A 9 g 0)), .ref (A 3 0 0), .int (nI (N 2 0)), .ref (A 4 0 0)])
  | 1 => .inl (G.2.1 4, 8, z_rs (fun p => if p < N 6 0 then some (A 5 p 0) else none))
  | 2 => .inl (G.2.1 5, 60, z_rs (fun g => if g < N 7 0 then some (A 9 g 0) else none))
  | 3 => .inl (G.2.1 6, 40, z_rs (fun z => if z < N 8 0 then some (A 11 z 0) else none))
  | 4 => .inr (0, [.ref (A 12 0 0)])
  | 5 => .inr (3, [.int (nI i), .ref (A 6 i 0), .ref (A 7 i 0), .ref (A 8 i 0), .int (I 0 i 0), .int (I 1 i 0), .int (I 2 i 0), va_rf ((O 1 i).map (fun p => A 5 p 0))])
  | 6 => .inl (G.2.1 0, 5, .inl (I 3 i))
  | 7 => .inl (G.2.1 1, 40, .inl (I 4 i))
  | 8 => .inl (G.2.1 1, 8, .inl (I 5 i))
  | 9 => .inr (1, [.ref (A 5 (N 3 i) 0), .ref (A 5 (N 4 i) 0), .ref (A 10 i 0), .int (nI (N 5 i)), .int (I 6 i 0), .int (I 7 i 0)])
  | 10 => .inl (G.2.1 0, 12, .inl (I 8 i))
  | 11 => .inr (4, [.int (I 9 i 0), .int (I 9 i 0 - I 9 i 0 / 5 * 5), .int (I 10 i 0)])
  | 12 => .inr (2, [.ref (A 13 i j), .int (I 11 i j), .int (I 12 i j), .int (I 13 i j)])
  | _ => .inl (G.2.1 7, 4, z_rs (fun m => if B (i + 1) (j + m * 4 ^ i) then some (A 12 (i + 1) (j + m * 4 ^ i)) else none))
def z_lv (N : z_TN) (B : z_TB) (k i j : Nat) : Prop := match k with
  | 0 => i = 0 ∧ j = 0
  | 1 => i = 0 ∧ j = 0
  | 2 => i = 0 ∧ j = 0
  | 3 => i = 0 ∧ j = 0
  | 4 => i = 0 ∧ j = 0
  | 5 => i < N 6 0 ∧ j = 0
  | 6 => i < N 6 0 ∧ j = 0
  | 7 => i < N 6 0 ∧ j = 0
  | 8 => i < N 6 0 ∧ j = 0
  | 9 => i < N 7 0 ∧ j = 0
  | 10 => i < N 7 0 ∧ j = 0
  | 11 => i < N 8 0 ∧ j = 0
  | 12 => B i j = true
  | 13 => B i j = true
  | _ => False
/-- the class's world -/
def z_C (G : z_G) (F : Nat → Prop) (A : Nat → Nat → Nat → Nat) (I : z_TI) (N : z_TN) (O : z_TO) (B : z_TB) (w : z_W) : Prop := z_tw (z_lv N B) A (z_ct G A I N O B) F w
def z_own (f i j : Nat) : Nat × Nat × Nat := if f < 3 then (5, i, 0) else if f = 3 then (6, i, 0) else if f = 4 then (7, i, 0) else if f = 5 then (8, i, 0) else if f < 8 then (9, i, 0) else if f = 8 then (10, i, 0) else if f < 11 then (11, i, 0) else (12, i, j)
section CS
variable {G : z_G} {F : Nat → Prop} {A : Nat → Nat → Nat → Nat} {I : z_TI} {N : z_TN} {O : z_TO} {B : z_TB} {w : z_W}
theorem z_ct_I {f i j : Nat} {v : Int32} (hf : f < 14) (hj : f ∈ [0, 1, 2, 6, 7, 9, 10] → j = 0) {k' i' j' : Nat} (hl : z_lv N B k' i' j') (hn : ¬ (k' = (z_own f i j).1 ∧ i' = (z_own f i j).2.1 ∧ j' = (z_own f i j).2.2)) : z_ct G A (z_sI I f i j v) N O B k' i' j' = z_ct G A I N O B k' i' j' := by
  have h : f = 0 ∨ f = 1 ∨ f = 2 ∨ f = 3 ∨ f = 4 ∨ f = 5 ∨ f = 6 ∨ f = 7 ∨ f = 8 ∨ f = 9 ∨ f = 10 ∨ f = 11 ∨ f = 12 ∨ f = 13 := by omega
  rcases h with rfl | rfl | rfl | rfl | rfl | rfl | rfl | rfl | rfl | rfl | rfl | rfl | rfl | rfl <;>
  (unfold z_ct; split <;> first
    | rfl
    | (have hi : i' ≠ i := fun q => hn ⟨rfl, q, hl.2⟩
       simp [z_sI, hi])
    | (have hi : ¬ (i' = i ∧ j' = j) := fun q => hn ⟨rfl, q.1, q.2⟩
       have e : ∀ f f', z_sI I f i j v f' i' j' = I f' i' j' := fun f f' => z_sI_ne I v (fun q => hi ⟨q.2.1, q.2.2⟩)
       simp only [e]))
/-- an int field of the state, put -/
theorem z_C.putI (h : z_C G F A I N O B w) {f i j : Nat} {v : Int32} {e : va_E} (hf : f < 14) (hj : f ∈ [0, 1, 2, 6, 7, 9, 10] → j = 0) (hl : z_lv N B (z_own f i j).1 (z_own f i j).2.1 (z_own f i j).2.2) (he : z_ct G A (z_sI I f i j v) N O B (z_own f i j).1 (z_own f i j).2.1 (z_own f i j).2.2 = e) :
    z_C G F A (z_sI I f i j v) N O B (z_up w (A (z_own f i j).1 (z_own f i j).2.1 (z_own f i j).2.2) e) ∧ z_fr F w (z_up w (A (z_own f i j).1 (z_own f i j).2.1 (z_own f i j).2.2) e) :=
  z_tw.put h hl he (fun _ _ _ q hn => z_ct_I hf hj q hn)
end CS
end
section
/-! the cells of the class, by kind; how a field of each is put -/
section CELLS
variable {G : z_G} {F : Nat → Prop} {A : Nat → Nat → Nat → Nat} {I : z_TI} {N : z_TN} {O : z_TO} {B : z_TB} {w : z_W}
theorem z_C.k0 (h : z_C G F A I N O B w)  : w (A 0 0 0) = some (.inr (5, [.ref (A 1 0 0), .int (nI (N 0 0)), .ref (A 2 0 0), .int (nI (N 1 0)), va_rf ((O 0 0).map (fun g => A 9 g 0)), .ref (A 3 0 0), .int (nI (N 2 0)), .ref (A 4 0 0)])) := z_tw.at h (k := 0) ⟨rfl, rfl⟩
theorem z_C.k1 (h : z_C G F A I N O B w)  : w (A 1 0 0) = some (.inl (G.2.1 4, 8, z_rs (fun p => if p < N 6 0 then some (A 5 p 0) else none))) := z_tw.at h (k := 1) ⟨rfl, rfl⟩
theorem z_C.k2 (h : z_C G F A I N O B w)  : w (A 2 0 0) = some (.inl (G.2.1 5, 60, z_rs (fun g => if g < N 7 0 then some (A 9 g 0) else none))) := z_tw.at h (k := 2) ⟨rfl, rfl⟩
theorem z_C.k3 (h : z_C G F A I N O B w)  : w (A 3 0 0) = some (.inl (G.2.1 6, 40, z_rs (fun z => if z < N 8 0 then some (A 11 z 0) else none))) := z_tw.at h (k := 3) ⟨rfl, rfl⟩
theorem z_C.k4 (h : z_C G F A I N O B w)  : w (A 4 0 0) = some (.inr (0, [.ref (A 12 0 0)])) := z_tw.at h (k := 4) ⟨rfl, rfl⟩
theorem z_C.k5 (h : z_C G F A I N O B w) {p : Nat} (hp : p < N 6 0) : w (A 5 p 0) = some (.inr (3, [.int (nI p), .ref (A 6 p 0), .ref (A 7 p 0), .ref (A 8 p 0), .int (I 0 p 0), .int (I 1 p 0), .int (I 2 p 0), va_rf ((O 1 p).map (fun p => A 5 p 0))])) := z_tw.at h (k := 5) ⟨hp, rfl⟩
theorem z_C.k6 (h : z_C G F A I N O B w) {p : Nat} (hp : p < N 6 0) : w (A 6 p 0) = some (.inl (G.2.1 0, 5, .inl (I 3 p))) := z_tw.at h (k := 6) ⟨hp, rfl⟩
theorem z_C.k7 (h : z_C G F A I N O B w) {p : Nat} (hp : p < N 6 0) : w (A 7 p 0) = some (.inl (G.2.1 1, 40, .inl (I 4 p))) := z_tw.at h (k := 7) ⟨hp, rfl⟩
theorem z_C.k8 (h : z_C G F A I N O B w) {p : Nat} (hp : p < N 6 0) : w (A 8 p 0) = some (.inl (G.2.1 1, 8, .inl (I 5 p))) := z_tw.at h (k := 8) ⟨hp, rfl⟩
theorem z_C.k9 (h : z_C G F A I N O B w) {g : Nat} (hp : g < N 7 0) : w (A 9 g 0) = some (.inr (1, [.ref (A 5 (N 3 g) 0), .ref (A 5 (N 4 g) 0), .ref (A 10 g 0), .int (nI (N 5 g)), .int (I 6 g 0), .int (I 7 g 0)])) := z_tw.at h (k := 9) ⟨hp, rfl⟩
theorem z_C.k10 (h : z_C G F A I N O B w) {g : Nat} (hp : g < N 7 0) : w (A 10 g 0) = some (.inl (G.2.1 0, 12, .inl (I 8 g))) := z_tw.at h (k := 10) ⟨hp, rfl⟩
theorem z_C.k11 (h : z_C G F A I N O B w) {z : Nat} (hp : z < N 8 0) : w (A 11 z 0) = some (.inr (4, [.int (I 9 z 0), .int (I 9 z 0 - I 9 z 0 / 5 * 5), .int (I 10 z 0)])) := z_tw.at h (k := 11) ⟨hp, rfl⟩
theorem z_C.k12 (h : z_C G F A I N O B w) {i j : Nat} (hp : B i j = true) : w (A 12 i j) = some (.inr (2, [.ref (A 13 i j), .int (I 11 i j), .int (I 12 i j), .int (I 13 i j)])) := z_tw.at h (k := 12) hp
theorem z_C.k13 (h : z_C G F A I N O B w) {i j : Nat} (hp : B i j = true) : w (A 13 i j) = some (.inl (G.2.1 7, 4, z_rs (fun m => if B (i + 1) (j + m * 4 ^ i) then some (A 12 (i + 1) (j + m * 4 ^ i)) else none))) := z_tw.at h (k := 13) hp
theorem z_C.p0 (h : z_C G F A I N O B w) {p : Nat} (hp : p < N 6 0) (v : Int32) : z_C G F A (z_sI I 0 p 0 v) N O B (z_up w (A 5 p 0) (.inr (3, [.int (nI p), .ref (A 6 p 0), .ref (A 7 p 0), .ref (A 8 p 0), .int v, .int (I 1 p 0), .int (I 2 p 0), va_rf ((O 1 p).map (fun p => A 5 p 0))]))) ∧ z_fr F w (z_up w (A 5 p 0) (.inr (3, [.int (nI p), .ref (A 6 p 0), .ref (A 7 p 0), .ref (A 8 p 0), .int v, .int (I 1 p 0), .int (I 2 p 0), va_rf ((O 1 p).map (fun p => A 5 p 0))]))) :=
  h.putI (f := 0) (i := p) (j := 0) (by decide) (by intro _; rfl) ⟨hp, rfl⟩ (by simp [z_own, z_ct, z_sI])
theorem z_C.p1 (h : z_C G F A I N O B w) {p : Nat} (hp : p < N 6 0) (v : Int32) : z_C G F A (z_sI I 1 p 0 v) N O B (z_up w (A 5 p 0) (.inr (3, [.int (nI p), .ref (A 6 p 0), .ref (A 7 p 0), .ref (A 8 p 0), .int (I 0 p 0), .int v, .int (I 2 p 0), va_rf ((O 1 p).map (fun p => A 5 p 0))]))) ∧ z_fr F w (z_up w (A 5 p 0) (.inr (3, [.int (nI p), .ref (A 6 p 0), .ref (A 7 p 0), .ref (A 8 p 0), .int (I 0 p 0), .int v, .int (I 2 p 0), va_rf ((O 1 p).map (fun p => A 5 p 0))]))) :=
  h.putI (f := 1) (i := p) (j := 0) (by decide) (by intro _; rfl) ⟨hp, rfl⟩ (by simp [z_own, z_ct, z_sI])
theorem z_C.p2 (h : z_C G F A I N O B w) {p : Nat} (hp : p < N 6 0) (v : Int32) : z_C G F A (z_sI I 2 p 0 v) N O B (z_up w (A 5 p 0) (.inr (3, [.int (nI p), .ref (A 6 p 0), .ref (A 7 p 0), .ref (A 8 p 0), .int (I 0 p 0), .int (I 1 p 0), .int v, va_rf ((O 1 p).map (fun p => A 5 p 0))]))) ∧ z_fr F w (z_up w (A 5 p 0) (.inr (3, [.int (nI p), .ref (A 6 p 0), .ref (A 7 p 0), .ref (A 8 p 0), .int (I 0 p 0), .int (I 1 p 0), .int v, va_rf ((O 1 p).map (fun p => A 5 p 0))]))) :=
  h.putI (f := 2) (i := p) (j := 0) (by decide) (by intro _; rfl) ⟨hp, rfl⟩ (by simp [z_own, z_ct, z_sI])
theorem z_C.p3 (h : z_C G F A I N O B w) {p : Nat} (hp : p < N 6 0) (j : Nat) (v : Int32) : z_C G F A (z_sI I 3 p j v) N O B (z_up w (A 6 p 0) (.inl (G.2.1 0, 5, .inl (upd (I 3 p) j v)))) ∧ z_fr F w (z_up w (A 6 p 0) (.inl (G.2.1 0, 5, .inl (upd (I 3 p) j v)))) :=
  h.putI (f := 3) (i := p) (j := j) (by decide) (by intro q; simp at q) ⟨hp, rfl⟩ (by show (Sum.inl (G.2.1 0, 5, Sum.inl (z_sI I 3 p j v 3 p)) : va_E) = _; rw [z_sI_u])
theorem z_C.p4 (h : z_C G F A I N O B w) {p : Nat} (hp : p < N 6 0) (j : Nat) (v : Int32) : z_C G F A (z_sI I 4 p j v) N O B (z_up w (A 7 p 0) (.inl (G.2.1 1, 40, .inl (upd (I 4 p) j v)))) ∧ z_fr F w (z_up w (A 7 p 0) (.inl (G.2.1 1, 40, .inl (upd (I 4 p) j v)))) :=
  h.putI (f := 4) (i := p) (j := j) (by decide) (by intro q; simp at q) ⟨hp, rfl⟩ (by show (Sum.inl (G.2.1 1, 40, Sum.inl (z_sI I 4 p j v 4 p)) : va_E) = _; rw [z_sI_u])
theorem z_C.p5 (h : z_C G F A I N O B w) {p : Nat} (hp : p < N 6 0) (j : Nat) (v : Int32) : z_C G F A (z_sI I 5 p j v) N O B (z_up w (A 8 p 0) (.inl (G.2.1 1, 8, .inl (upd (I 5 p) j v)))) ∧ z_fr F w (z_up w (A 8 p 0) (.inl (G.2.1 1, 8, .inl (upd (I 5 p) j v)))) :=
  h.putI (f := 5) (i := p) (j := j) (by decide) (by intro q; simp at q) ⟨hp, rfl⟩ (by show (Sum.inl (G.2.1 1, 8, Sum.inl (z_sI I 5 p j v 5 p)) : va_E) = _; rw [z_sI_u])
theorem z_C.p6 (h : z_C G F A I N O B w) {g : Nat} (hp : g < N 7 0) (v : Int32) : z_C G F A (z_sI I 6 g 0 v) N O B (z_up w (A 9 g 0) (.inr (1, [.ref (A 5 (N 3 g) 0), .ref (A 5 (N 4 g) 0), .ref (A 10 g 0), .int (nI (N 5 g)), .int v, .int (I 7 g 0)]))) ∧ z_fr F w (z_up w (A 9 g 0) (.inr (1, [.ref (A 5 (N 3 g) 0), .ref (A 5 (N 4 g) 0), .ref (A 10 g 0), .int (nI (N 5 g)), .int v, .int (I 7 g 0)]))) :=
  h.putI (f := 6) (i := g) (j := 0) (by decide) (by intro _; rfl) ⟨hp, rfl⟩ (by simp [z_own, z_ct, z_sI])
theorem z_C.p7 (h : z_C G F A I N O B w) {g : Nat} (hp : g < N 7 0) (v : Int32) : z_C G F A (z_sI I 7 g 0 v) N O B (z_up w (A 9 g 0) (.inr (1, [.ref (A 5 (N 3 g) 0), .ref (A 5 (N 4 g) 0), .ref (A 10 g 0), .int (nI (N 5 g)), .int (I 6 g 0), .int v]))) ∧ z_fr F w (z_up w (A 9 g 0) (.inr (1, [.ref (A 5 (N 3 g) 0), .ref (A 5 (N 4 g) 0), .ref (A 10 g 0), .int (nI (N 5 g)), .int (I 6 g 0), .int v]))) :=
  h.putI (f := 7) (i := g) (j := 0) (by decide) (by intro _; rfl) ⟨hp, rfl⟩ (by simp [z_own, z_ct, z_sI])
theorem z_C.p8 (h : z_C G F A I N O B w) {g : Nat} (hp : g < N 7 0) (j : Nat) (v : Int32) : z_C G F A (z_sI I 8 g j v) N O B (z_up w (A 10 g 0) (.inl (G.2.1 0, 12, .inl (upd (I 8 g) j v)))) ∧ z_fr F w (z_up w (A 10 g 0) (.inl (G.2.1 0, 12, .inl (upd (I 8 g) j v)))) :=
  h.putI (f := 8) (i := g) (j := j) (by decide) (by intro q; simp at q) ⟨hp, rfl⟩ (by show (Sum.inl (G.2.1 0, 12, Sum.inl (z_sI I 8 g j v 8 g)) : va_E) = _; rw [z_sI_u])
theorem z_C.p11 (h : z_C G F A I N O B w) {i j : Nat} (hp : B i j = true) (v : Int32) : z_C G F A (z_sI I 11 i j v) N O B (z_up w (A 12 i j) (.inr (2, [.ref (A 13 i j), .int v, .int (I 12 i j), .int (I 13 i j)]))) ∧ z_fr F w (z_up w (A 12 i j) (.inr (2, [.ref (A 13 i j), .int v, .int (I 12 i j), .int (I 13 i j)]))) :=
  h.putI (f := 11) (i := i) (j := j) (by decide) (by intro q; simp at q) hp (by simp [z_own, z_ct, z_sI])
theorem z_C.p12 (h : z_C G F A I N O B w) {i j : Nat} (hp : B i j = true) (v : Int32) : z_C G F A (z_sI I 12 i j v) N O B (z_up w (A 12 i j) (.inr (2, [.ref (A 13 i j), .int (I 11 i j), .int v, .int (I 13 i j)]))) ∧ z_fr F w (z_up w (A 12 i j) (.inr (2, [.ref (A 13 i j), .int (I 11 i j), .int v, .int (I 13 i j)]))) :=
  h.putI (f := 12) (i := i) (j := j) (by decide) (by intro q; simp at q) hp (by simp [z_own, z_ct, z_sI])
theorem z_C.p13 (h : z_C G F A I N O B w) {i j : Nat} (hp : B i j = true) (v : Int32) : z_C G F A (z_sI I 13 i j v) N O B (z_up w (A 12 i j) (.inr (2, [.ref (A 13 i j), .int (I 11 i j), .int (I 12 i j), .int v]))) ∧ z_fr F w (z_up w (A 12 i j) (.inr (2, [.ref (A 13 i j), .int (I 11 i j), .int (I 12 i j), .int v]))) :=
  h.putI (f := 13) (i := i) (j := j) (by decide) (by intro q; simp at q) hp (by simp [z_own, z_ct, z_sI])
theorem z_genC {Y : z_Mi} {d : Nat} {Z : z_Gq} {pc : Nat} {L : List (Option Value)} {st : List Value} {w0 : z_W} {k n : Nat} (h : z_C G F A I N O B w ∧ z_fr F w0 w) (kk : ∀ w', z_C G F A I N O B w' → z_fr F w0 w' → z_E G Y d Z pc L st w' k n) : z_E G Y d Z pc L st w k n := kk w h.1 h.2
def z_st (G : z_G) (F : Nat → Prop) (A : Nat → Nat → Nat → Nat) (I : z_TI) (N : z_TN) (O : z_TO) (B : z_TB) (w0 : z_W) (r : Option Value) : Option Value → z_W → Prop := fun v w' => v = r ∧ z_C G F A I N O B w' ∧ z_fr F w0 w'
end CELLS
section ZMM
variable {G : z_G} {Y : z_Mi} {d : Nat} {Z : z_Gq} {pc : Nat} {L : List (Option Value)} {st : List Value} {w : z_W} {k n : Nat}
theorem z_mmax {idx : Nat} {x y : Int32} (hl : Cond.methodLink Y.1.cls idx Lib.Math.max.name ∈ z_T) (hs : Cond.static Lib.Math.max.name ∈ z_T) (hi : Cond.initialized "java/lang/Math" ∈ z_T) (hc : Cond.code Lib.Math.max.name Lib.Math.max.code 2 (some .int) ∈ z_T) (hdd : 1 ≤ d) (hst : (st.map fun v => v.category).sum ≤ 8) (d0 : decode Y.2.1 pc = .ok (.invokestatic idx, 3)) (kk : z_E G Y d Z (pc + 3) L (.int (if x < y then y else x) :: st) w k n) : z_E G Y d Z pc L (.int y :: .int x :: st) w k n := by
  intro p e R s m args below meth c H locs cells slots ls mc ms C hR hS hL hd hk
  have hd2 : 33 * d ≤ R.locals := hd.2
  exact va_mmax C.1 C.2.1 (C.2.2.1.trans hL.2.1.symm) C.2.2.2.1 (C.2.2.2.2.1 _ hl) (C.2.2.2.2.1 _ hs) (C.2.2.2.2.1 _ hi) (C.2.2.2.2.1 _ hc) (Nat.le_trans hdd hd.1) (by omega) (by omega) (by omega) d0 (kk p e R s m args below meth c H locs cells slots ls mc ms C hR hS hL hd hk)
theorem z_mmin {idx : Nat} {x y : Int32} (hl : Cond.methodLink Y.1.cls idx Lib.Math.min.name ∈ z_T) (hs : Cond.static Lib.Math.min.name ∈ z_T) (hi : Cond.initialized "java/lang/Math" ∈ z_T) (hc : Cond.code Lib.Math.min.name Lib.Math.min.code 2 (some .int) ∈ z_T) (hdd : 1 ≤ d) (hst : (st.map fun v => v.category).sum ≤ 8) (d0 : decode Y.2.1 pc = .ok (.invokestatic idx, 3)) (kk : z_E G Y d Z (pc + 3) L (.int (if y < x then y else x) :: st) w k n) : z_E G Y d Z pc L (.int y :: .int x :: st) w k n := by
  intro p e R s m args below meth c H locs cells slots ls mc ms C hR hS hL hd hk
  have hd2 : 33 * d ≤ R.locals := hd.2
  exact va_mmin C.1 C.2.1 (C.2.2.1.trans hL.2.1.symm) C.2.2.2.1 (C.2.2.2.2.1 _ hl) (C.2.2.2.2.1 _ hs) (C.2.2.2.2.1 _ hi) (C.2.2.2.2.1 _ hc) (Nat.le_trans hdd hd.1) (by omega) (by omega) (by omega) d0 (kk p e R s m args below meth c H locs cells slots ls mc ms C hR hS hL hd hk)
end ZMM
theorem mmX3_47 {G : z_G} {Y : z_Mi} (hY : Y.1.cls = RX3) {d : Nat} {Z : z_Gq} {pc : Nat} {L : List (Option Value)} {st : List Value} {w : z_W} {k n : Nat} {x y : Int32} (d0 : decode Y.2.1 pc = .ok (.invokestatic 47, 3)) (hdd : 1 ≤ d) (hst : (st.map fun v => v.category).sum ≤ 8) (kk : z_E G Y d Z (pc + 3) L (.int (if x < y then y else x) :: st) w k n) : z_E G Y d Z pc L (.int y :: .int x :: st) w k n :=
  z_mmax (by rw [hY]; exact (z_Tof (List.mem_of_getElem? (i := 508) (by decide +kernel)) (by decide +kernel))) (z_Tof (List.mem_of_getElem? (i := 509) (by decide +kernel)) (by decide +kernel)) (z_Tof (List.mem_of_getElem? (i := 39) (by decide +kernel)) (by decide +kernel)) (z_Tof (List.mem_of_getElem? (i := 510) (by decide +kernel)) (by decide +kernel)) hdd hst d0 kk
theorem mmX3_53 {G : z_G} {Y : z_Mi} (hY : Y.1.cls = RX3) {d : Nat} {Z : z_Gq} {pc : Nat} {L : List (Option Value)} {st : List Value} {w : z_W} {k n : Nat} {x y : Int32} (d0 : decode Y.2.1 pc = .ok (.invokestatic 53, 3)) (hdd : 1 ≤ d) (hst : (st.map fun v => v.category).sum ≤ 8) (kk : z_E G Y d Z (pc + 3) L (.int (if y < x then y else x) :: st) w k n) : z_E G Y d Z pc L (.int y :: .int x :: st) w k n :=
  z_mmin (by rw [hY]; exact (z_Tof (List.mem_of_getElem? (i := 511) (by decide +kernel)) (by decide +kernel))) (z_Tof (List.mem_of_getElem? (i := 401) (by decide +kernel)) (by decide +kernel)) (z_Tof (List.mem_of_getElem? (i := 39) (by decide +kernel)) (by decide +kernel)) (z_Tof (List.mem_of_getElem? (i := 402) (by decide +kernel)) (by decide +kernel)) hdd hst d0 kk
theorem mmX0_24 {G : z_G} {Y : z_Mi} (hY : Y.1.cls = RX0) {d : Nat} {Z : z_Gq} {pc : Nat} {L : List (Option Value)} {st : List Value} {w : z_W} {k n : Nat} {x y : Int32} (d0 : decode Y.2.1 pc = .ok (.invokestatic 24, 3)) (hdd : 1 ≤ d) (hst : (st.map fun v => v.category).sum ≤ 8) (kk : z_E G Y d Z (pc + 3) L (.int (if y < x then y else x) :: st) w k n) : z_E G Y d Z pc L (.int y :: .int x :: st) w k n :=
  z_mmin (by rw [hY]; exact (z_Tof (List.mem_of_getElem? (i := 400) (by decide +kernel)) (by decide +kernel))) (z_Tof (List.mem_of_getElem? (i := 401) (by decide +kernel)) (by decide +kernel)) (z_Tof (List.mem_of_getElem? (i := 39) (by decide +kernel)) (by decide +kernel)) (z_Tof (List.mem_of_getElem? (i := 402) (by decide +kernel)) (by decide +kernel)) hdd hst d0 kk
end
section
/-! the player's methods -/
def rb (r s : Int32) : Int32 :=
  let e := if (0 : Int32) < r - 1000 then r - 1000 else 0
  let c := if s = 0 then (-16) else 32 - e / 50
  let m := if (100 : Int32) < r + c then r + c else 100
  if m < 3000 then m else 3000
section PL
variable {G : z_G} {F : Nat → Prop} {A : Nat → Nat → Nat → Nat} {I : z_TI} {N : z_TN} {O : z_TO} {B : z_TB} {w : z_W}
theorem mX3_colourBalance (hC : z_C G F A I N O B w) {p : Nat} (hp : p < N 6 0) : z_M G zX3_colourBalance 0 [.ref (A 5 p 0)] w 0 0 (z_rp (.int (I 0 p 0 - I 1 p 0)) w) z_nx := by
  refine z_M.of (by decide +kernel) rfl (by intro v hv; simp only [List.mem_cons, List.not_mem_nil, or_false] at hv; rcases hv with rfl <;> first | rfl | exact z_isr_cat (z_isr_rf _)) (Nat.le_of_ble_eq_true rfl) ?_
  show z_E _ zX3_colourBalance _ _ 0 [some (.ref (A 5 p 0))] [] _ _ _
  refine z_aload_n (pc := 0) dX3_colourBalance_0 rfl (by first | rfl | exact z_isr_rf _) ?_
  refine gfX3_26 (pc := 1) rfl dX3_colourBalance_1 (hC.k5 hp) rfl ?_
  refine z_aload_n (pc := 4) dX3_colourBalance_4 rfl (by first | rfl | exact z_isr_rf _) ?_
  refine gfX3_33 (pc := 5) rfl dX3_colourBalance_5 (hC.k5 hp) rfl ?_
  refine z_isub (pc := 8) dX3_colourBalance_8 ?_
  refine z_iret (pc := 9) dX3_colourBalance_9 rfl (⟨rfl, rfl⟩)
theorem mX3_hasMet (hC : z_C G F A I N O B w) {p q : Nat} (hp : p < N 6 0) (hq : q < N 6 0) (h8 : N 6 0 ≤ 8) : z_M G zX3_hasMet 0 [.ref (A 5 p 0), .ref (A 5 q 0)] w 0 0 (z_rp (.int (if I 5 p q = 0 then 0 else 1)) w) z_nx := by
  refine z_M.of (by decide +kernel) rfl (by intro v hv; simp only [List.mem_cons, List.not_mem_nil, or_false] at hv; rcases hv with rfl | rfl <;> first | rfl | exact z_isr_cat (z_isr_rf _)) (Nat.le_of_ble_eq_true rfl) ?_
  show z_E _ zX3_hasMet _ _ 0 [some (.ref (A 5 p 0)), some (.ref (A 5 q 0))] [] _ _ _
  have hq3 : q < 2 ^ 31 := by omega
  refine z_aload_n (pc := 0) dX3_hasMet_0 rfl (by first | rfl | exact z_isr_rf _) ?_
  refine gfX3_22 (pc := 1) rfl dX3_hasMet_1 (hC.k5 hq) rfl ?_
  refine z_if_lt (pc := 4) (tgt := 35) dX3_hasMet_4 (by decide) (fun hn => absurd hn (nI_pos hq3)) (fun _ => ?_)
  refine z_aload_n (pc := 7) dX3_hasMet_7 rfl (by first | rfl | exact z_isr_rf _) ?_
  refine gfX3_22 (pc := 8) rfl dX3_hasMet_8 (hC.k5 hq) rfl ?_
  refine z_aload_n (pc := 11) dX3_hasMet_11 rfl (by first | rfl | exact z_isr_rf _) ?_
  refine gfX3_19 (pc := 12) rfl dX3_hasMet_12 (hC.k5 hp) rfl ?_
  refine z_alen (pc := 15) dX3_hasMet_15 (hC.k8 hp) rfl rfl ?_
  refine z_icmp_ge (pc := 16) (tgt := 35) dX3_hasMet_16 (by decide) (fun hn => absurd hn (nI_ge (by omega) (by omega))) (fun _ => ?_)
  refine z_aload_n (pc := 19) dX3_hasMet_19 rfl (by first | rfl | exact z_isr_rf _) ?_
  refine gfX3_19 (pc := 20) rfl dX3_hasMet_20 (hC.k5 hp) rfl ?_
  refine z_aload_n (pc := 23) dX3_hasMet_23 rfl (by first | rfl | exact z_isr_rf _) ?_
  refine gfX3_22 (pc := 24) rfl dX3_hasMet_24 (hC.k5 hq) rfl ?_
  refine z_zald (pc := 27) dX3_hasMet_27 (hC.k8 hp) (vp_in_nI (by omega) (by omega)) ?_
  rw [nI_clamp hq3]
  refine z_if_eq (pc := 28) (tgt := 35) dX3_hasMet_28 (by decide) (fun hc => ?_) (fun hc => ?_)
  · refine z_iconst_0 (pc := 35) dX3_hasMet_35 ?_
    refine z_zret (pc := 36) dX3_hasMet_36 rfl (Or.inl rfl ) ( ⟨by rw [if_pos hc], rfl⟩)
  · refine z_iconst_1 (pc := 31) dX3_hasMet_31 ?_
    refine z_goto (pc := 32) (tgt := 36) dX3_hasMet_32 (by decide) ?_
    refine z_zret (pc := 36) dX3_hasMet_36 rfl (Or.inr rfl ) ( ⟨by rw [if_neg hc], rfl⟩)
/-- who stands ahead: a higher score, or the same and a lower number; everyone ahead of nobody -/
def ah (I : z_TI) (p : Nat) (q : Option Nat) : Prop := match q with
  | none => True
  | some q => I 2 q 0 < I 2 p 0 ∨ (I 2 p 0 = I 2 q 0 ∧ p < q)
theorem mX3_standsAheadOf (hC : z_C G F A I N O B w) {p : Nat} {q : Option Nat} (hp : p < N 6 0) (hq : ∀ q', q = some q' → q' < N 6 0) (h8 : N 6 0 ≤ 8) [Decidable (ah I p q)] : z_M G zX3_standsAheadOf 0 [.ref (A 5 p 0), va_rf (q.map (fun p => A 5 p 0))] w 0 0 (z_rp (.int (if ah I p q then 1 else 0)) w) z_nx := by
  cases q with
  | none =>
    rw [if_pos (show ah I p none from trivial)]
    show z_M G zX3_standsAheadOf 0 [.ref (A 5 p 0), .null] w 0 0 _ z_nx
    refine z_M.of (by decide +kernel) rfl (by intro v hv; simp only [List.mem_cons, List.not_mem_nil, or_false] at hv; rcases hv with rfl | rfl <;> first | rfl | exact z_isr_cat (z_isr_rf _)) (Nat.le_of_ble_eq_true rfl) ?_
    show z_E _ zX3_standsAheadOf _ _ 0 [some (.ref (A 5 p 0)), some (.null)] [] _ _ _
    refine z_aload_n (pc := 0) dX3_standsAheadOf_0 rfl (by first | rfl | exact z_isr_rf _) ?_
    refine z_ifnull (pc := 1) (tgt := 15) dX3_standsAheadOf_1 (by decide) (by first | rfl | exact z_isr_rf _) (fun _ => ?_) (fun _ hn => by cases hn)
    refine z_iconst_1 (pc := 15) dX3_standsAheadOf_15 ?_
    refine z_zret (pc := 16) dX3_standsAheadOf_16 rfl (Or.inr rfl ) ( ⟨rfl, rfl⟩)
  | some q =>
    have hq := hq q rfl
    show z_M G zX3_standsAheadOf 0 [.ref (A 5 p 0), .ref (A 5 q 0)] w 0 0 _ z_nx
    refine z_M.of (by decide +kernel) rfl (by intro v hv; simp only [List.mem_cons, List.not_mem_nil, or_false] at hv; rcases hv with rfl | rfl <;> first | rfl | exact z_isr_cat (z_isr_rf _)) (Nat.le_of_ble_eq_true rfl) ?_
    show z_E _ zX3_standsAheadOf _ _ 0 [some (.ref (A 5 p 0)), some (.ref (A 5 q 0))] [] _ _ _
    refine z_aload_n (pc := 0) dX3_standsAheadOf_0 rfl (by first | rfl | exact z_isr_rf _) ?_
    refine z_ifnull (pc := 1) (tgt := 15) dX3_standsAheadOf_1 (by decide) (by first | rfl | exact z_isr_rf _) (fun hn => by cases hn) (fun _ _ => ?_)
    refine z_aload_n (pc := 4) dX3_standsAheadOf_4 rfl (by first | rfl | exact z_isr_rf _) ?_
    refine gfX3_36 (pc := 5) rfl dX3_standsAheadOf_5 (hC.k5 hp) rfl ?_
    refine z_aload_n (pc := 8) dX3_standsAheadOf_8 rfl (by first | rfl | exact z_isr_rf _) ?_
    refine gfX3_36 (pc := 9) rfl dX3_standsAheadOf_9 (hC.k5 hq) rfl ?_
    refine z_icmp_le (pc := 12) (tgt := 17) dX3_standsAheadOf_12 (by decide) (fun hc => ?_) (fun hc => ?_)
    · refine z_aload_n (pc := 17) dX3_standsAheadOf_17 rfl (by first | rfl | exact z_isr_rf _) ?_
      refine gfX3_36 (pc := 18) rfl dX3_standsAheadOf_18 (hC.k5 hp) rfl ?_
      refine z_aload_n (pc := 21) dX3_standsAheadOf_21 rfl (by first | rfl | exact z_isr_rf _) ?_
      refine gfX3_36 (pc := 22) rfl dX3_standsAheadOf_22 (hC.k5 hq) rfl ?_
      refine z_icmp_ne (pc := 25) (tgt := 43) dX3_standsAheadOf_25 (by decide) (fun hd1 => ?_) (fun hd1 => ?_)
      · refine z_iconst_0 (pc := 43) dX3_standsAheadOf_43 ?_
        refine z_zret (pc := 44) dX3_standsAheadOf_44 rfl (Or.inl rfl ) ( ⟨by rw [if_neg]; rintro (h | h); exact Int32.not_lt.mpr hc h; exact hd1 h.1, rfl⟩)
      · refine z_aload_n (pc := 28) dX3_standsAheadOf_28 rfl (by first | rfl | exact z_isr_rf _) ?_
        refine gfX3_22 (pc := 29) rfl dX3_standsAheadOf_29 (hC.k5 hp) rfl ?_
        refine z_aload_n (pc := 32) dX3_standsAheadOf_32 rfl (by first | rfl | exact z_isr_rf _) ?_
        refine gfX3_22 (pc := 33) rfl dX3_standsAheadOf_33 (hC.k5 hq) rfl ?_
        refine z_icmp_ge (pc := 36) (tgt := 43) dX3_standsAheadOf_36 (by decide) (fun hd => ?_) (fun hd => ?_)
        · refine z_iconst_0 (pc := 43) dX3_standsAheadOf_43 ?_
          refine z_zret (pc := 44) dX3_standsAheadOf_44 rfl (Or.inl rfl ) ( ⟨by rw [if_neg]; rintro (h | h); exact Int32.not_lt.mpr hc h; exact Nat.not_lt.mpr ((nI_leI (by omega) (by omega)).mp hd) h.2, rfl⟩)
        · refine z_iconst_1 (pc := 39) dX3_standsAheadOf_39 ?_
          refine z_goto (pc := 40) (tgt := 44) dX3_standsAheadOf_40 (by decide) ?_
          refine z_zret (pc := 44) dX3_standsAheadOf_44 rfl (Or.inr rfl ) ( ⟨by rw [if_pos]; refine Or.inr ⟨hd1, ?_⟩; rw [nI_leI (by omega) (by omega)] at hd; omega, rfl⟩)
    · refine z_iconst_1 (pc := 15) dX3_standsAheadOf_15 ?_
      refine z_zret (pc := 16) dX3_standsAheadOf_16 rfl (Or.inr rfl ) ( ⟨by rw [if_pos]; exact Or.inl (Int32.not_le.mp hc), rfl⟩)
theorem mX3_hasTried (hC : z_C G F A I N O B w) {p z : Nat} (hp : p < N 6 0) (hz : z < 40) : z_M G zX3_hasTried 0 [.ref (A 5 p 0), .int (nI z)] w 0 0 (z_rp (.int (if I 4 p z = 0 then 0 else 1)) w) z_nx := by
  refine z_M.of (by decide +kernel) rfl (by intro v hv; simp only [List.mem_cons, List.not_mem_nil, or_false] at hv; rcases hv with rfl | rfl <;> first | rfl | exact z_isr_cat (z_isr_rf _)) (Nat.le_of_ble_eq_true rfl) ?_
  show z_E _ zX3_hasTried _ _ 0 [some (.ref (A 5 p 0)), some (.int (nI z))] [] _ _ _
  have hz3 : z < 2 ^ 31 := by omega
  refine z_iload_n (pc := 0) dX3_hasTried_0 rfl ?_
  refine z_if_lt (pc := 1) (tgt := 26) dX3_hasTried_1 (by decide) (fun hn => absurd hn (nI_pos hz3)) (fun _ => ?_)
  refine z_iload_n (pc := 4) dX3_hasTried_4 rfl ?_
  refine z_aload_n (pc := 5) dX3_hasTried_5 rfl (by first | rfl | exact z_isr_rf _) ?_
  refine gfX3_15 (pc := 6) rfl dX3_hasTried_6 (hC.k5 hp) rfl ?_
  refine z_alen (pc := 9) dX3_hasTried_9 (hC.k7 hp) rfl rfl ?_
  refine z_icmp_ge (pc := 10) (tgt := 26) dX3_hasTried_10 (by decide) (fun hn => absurd hn (nI_ge hz (by omega))) (fun _ => ?_)
  refine z_aload_n (pc := 13) dX3_hasTried_13 rfl (by first | rfl | exact z_isr_rf _) ?_
  refine gfX3_15 (pc := 14) rfl dX3_hasTried_14 (hC.k5 hp) rfl ?_
  refine z_iload_n (pc := 17) dX3_hasTried_17 rfl ?_
  refine z_zald (pc := 18) dX3_hasTried_18 (hC.k7 hp) (vp_in_nI hz (by omega)) ?_
  rw [nI_clamp hz3]
  refine z_if_eq (pc := 19) (tgt := 26) dX3_hasTried_19 (by decide) (fun hc => ?_) (fun hc => ?_)
  · refine z_iconst_0 (pc := 26) dX3_hasTried_26 ?_
    refine z_zret (pc := 27) dX3_hasTried_27 rfl (Or.inl rfl ) ( ⟨by rw [if_pos hc], rfl⟩)
  · refine z_iconst_1 (pc := 22) dX3_hasTried_22 ?_
    refine z_goto (pc := 23) (tgt := 27) dX3_hasTried_23 (by decide) ?_
    refine z_zret (pc := 27) dX3_hasTried_27 rfl (Or.inr rfl ) ( ⟨by rw [if_neg hc], rfl⟩)
theorem mX3_markTried (hC : z_C G F A I N O B w) {p z : Nat} (hp : p < N 6 0) (hz : z < 40) : z_M G zX3_markTried 0 [.ref (A 5 p 0), .int (nI z)] w 0 0 (z_st G F A (z_sI I 4 p z 1) N O B w none) z_nx := by
  refine z_M.of (by decide +kernel) rfl (by intro v hv; simp only [List.mem_cons, List.not_mem_nil, or_false] at hv; rcases hv with rfl | rfl <;> first | rfl | exact z_isr_cat (z_isr_rf _)) (Nat.le_of_ble_eq_true rfl) ?_
  show z_E _ zX3_markTried _ _ 0 [some (.ref (A 5 p 0)), some (.int (nI z))] [] _ _ _
  have hz3 : z < 2 ^ 31 := by omega
  refine z_iload_n (pc := 0) dX3_markTried_0 rfl ?_
  refine z_if_lt (pc := 1) (tgt := 20) dX3_markTried_1 (by decide) (fun hn => absurd hn (nI_pos hz3)) (fun _ => ?_)
  refine z_iload_n (pc := 4) dX3_markTried_4 rfl ?_
  refine z_aload_n (pc := 5) dX3_markTried_5 rfl (by first | rfl | exact z_isr_rf _) ?_
  refine gfX3_15 (pc := 6) rfl dX3_markTried_6 (hC.k5 hp) rfl ?_
  refine z_alen (pc := 9) dX3_markTried_9 (hC.k7 hp) rfl rfl ?_
  refine z_icmp_ge (pc := 10) (tgt := 20) dX3_markTried_10 (by decide) (fun hn => absurd hn (nI_ge hz (by omega))) (fun _ => ?_)
  refine z_aload_n (pc := 13) dX3_markTried_13 rfl (by first | rfl | exact z_isr_rf _) ?_
  refine gfX3_15 (pc := 14) rfl dX3_markTried_14 (hC.k5 hp) rfl ?_
  refine z_iload_n (pc := 17) dX3_markTried_17 rfl ?_
  refine z_iconst_1 (pc := 18) dX3_markTried_18 ?_
  refine z_zast (pc := 19) dX3_markTried_19 (hC.k7 hp) (vp_in_nI hz (by omega)) ?_
  rw [nI_clamp hz3]
  refine z_genC (hC.p4 hp z 1) (fun w2 hC2 hf2 => ?_)
  refine z_vret (pc := 20) dX3_markTried_20 rfl (⟨rfl, hC2, hf2⟩)
theorem mX3_ratingIn (hC : z_C G F A I N O B w) {p t : Nat} (hp : p < N 6 0) (ht : t < 5) : z_M G zX3_ratingIn 0 [.ref (A 5 p 0), .int (nI t)] w 0 0 (z_rp (.int (I 3 p t)) w) z_nx := by
  refine z_M.of (by decide +kernel) rfl (by intro v hv; simp only [List.mem_cons, List.not_mem_nil, or_false] at hv; rcases hv with rfl | rfl <;> first | rfl | exact z_isr_cat (z_isr_rf _)) (Nat.le_of_ble_eq_true rfl) ?_
  show z_E _ zX3_ratingIn _ _ 0 [some (.ref (A 5 p 0)), some (.int (nI t))] [] _ _ _
  have ht3 : t < 2 ^ 31 := by omega
  refine z_iload_n (pc := 0) dX3_ratingIn_0 rfl ?_
  refine z_if_lt (pc := 1) (tgt := 22) dX3_ratingIn_1 (by decide) (fun hn => absurd hn (nI_pos ht3)) (fun _ => ?_)
  refine z_iload_n (pc := 4) dX3_ratingIn_4 rfl ?_
  refine z_aload_n (pc := 5) dX3_ratingIn_5 rfl (by first | rfl | exact z_isr_rf _) ?_
  refine gfX3_9 (pc := 6) rfl dX3_ratingIn_6 (hC.k5 hp) rfl ?_
  refine z_alen (pc := 9) dX3_ratingIn_9 (hC.k6 hp) rfl rfl ?_
  refine z_icmp_ge (pc := 10) (tgt := 22) dX3_ratingIn_10 (by decide) (fun hn => absurd hn (nI_ge ht (by omega))) (fun _ => ?_)
  refine z_aload_n (pc := 13) dX3_ratingIn_13 rfl (by first | rfl | exact z_isr_rf _) ?_
  refine gfX3_9 (pc := 14) rfl dX3_ratingIn_14 (hC.k5 hp) rfl ?_
  refine z_iload_n (pc := 17) dX3_ratingIn_17 rfl ?_
  refine z_iald (pc := 18) dX3_ratingIn_18 (hC.k6 hp) (vp_in_nI ht (by omega)) ?_
  refine z_goto (pc := 19) (tgt := 25) dX3_ratingIn_19 (by decide) ?_
  refine z_iret (pc := 25) dX3_ratingIn_25 rfl (⟨by rw [nI_clamp ht3], rfl⟩)
def nm (I : z_TI) (p t u : Nat) : Prop := I 3 p t < I 3 p u ∨ (I 3 p t = I 3 p u ∧ t < u)
theorem mX3_needsMore (hC : z_C G F A I N O B w) {p t u : Nat} (hp : p < N 6 0) (ht : t < 5) (hu : u < 5) [Decidable (nm I p t u)] : z_M G zX3_needsMore 1 [.ref (A 5 p 0), .int (nI t), .int (nI u)] w 0 0 (z_rp (.int (if nm I p t u then 1 else 0)) w) z_nx := by
  refine z_M.of (by decide +kernel) rfl (by intro v hv; simp only [List.mem_cons, List.not_mem_nil, or_false] at hv; rcases hv with rfl | rfl | rfl <;> first | rfl | exact z_isr_cat (z_isr_rf _)) (Nat.le_of_ble_eq_true rfl) ?_
  show z_E _ zX3_needsMore _ _ 0 [some (.ref (A 5 p 0)), some (.int (nI t)), some (.int (nI u)), none, none] [] _ _ _
  refine z_aload_n (pc := 0) dX3_needsMore_0 rfl (by first | rfl | exact z_isr_rf _) ?_
  refine z_iload_n (pc := 1) dX3_needsMore_1 rfl ?_
  refine z_callVp (pc := 2) (mX3_ratingIn hC hp ht) dX3_needsMore_2 cwX3_39 okX3_ratingIn rfl (hC.k5 hp) rfl rfl (by omega) rfl (Nat.le_of_ble_eq_true rfl) ?_
  refine z_istore3 (pc := 5) dX3_needsMore_5 ?_
  refine z_aload_n (pc := 6) dX3_needsMore_6 rfl (by first | rfl | exact z_isr_rf _) ?_
  refine z_iload_n (pc := 7) dX3_needsMore_7 rfl ?_
  refine z_callVp (pc := 8) (mX3_ratingIn hC hp hu) dX3_needsMore_8 cwX3_39 okX3_ratingIn rfl (hC.k5 hp) rfl rfl (by omega) rfl (Nat.le_of_ble_eq_true rfl) ?_
  refine z_istore4 (pc := 11) dX3_needsMore_11 ?_
  refine z_iload_n (pc := 13) dX3_needsMore_13 rfl ?_
  refine z_iload (pc := 14) dX3_needsMore_14 rfl ?_
  refine z_icmp_lt (pc := 16) (tgt := 30) dX3_needsMore_16 (by decide) (fun hc => ?_) (fun hc => ?_)
  · refine z_iconst_1 (pc := 30) dX3_needsMore_30 ?_
    refine z_goto (pc := 31) (tgt := 35) dX3_needsMore_31 (by decide) ?_
    refine z_zret (pc := 35) dX3_needsMore_35 rfl (Or.inr rfl ) ( ⟨by rw [if_pos]; exact Or.inl hc, rfl⟩)
  · refine z_iload_n (pc := 19) dX3_needsMore_19 rfl ?_
    refine z_iload (pc := 20) dX3_needsMore_20 rfl ?_
    refine z_icmp_ne (pc := 22) (tgt := 34) dX3_needsMore_22 (by decide) (fun hd => ?_) (fun hd => ?_)
    · refine z_iconst_0 (pc := 34) dX3_needsMore_34 ?_
      refine z_zret (pc := 35) dX3_needsMore_35 rfl (Or.inl rfl ) ( ⟨by rw [if_neg]; rintro (h | h); exact hc h; exact hd h.1, rfl⟩)
    · refine z_iload_n (pc := 25) dX3_needsMore_25 rfl ?_
      refine z_iload_n (pc := 26) dX3_needsMore_26 rfl ?_
      refine z_icmp_ge (pc := 27) (tgt := 34) dX3_needsMore_27 (by decide) (fun he => ?_) (fun he => ?_)
      · refine z_iconst_0 (pc := 34) dX3_needsMore_34 ?_
        refine z_zret (pc := 35) dX3_needsMore_35 rfl (Or.inl rfl ) ( ⟨by rw [if_neg]; rintro (h | h); exact hc h; exact Nat.not_lt.mpr ((nI_leI (by omega) (by omega)).mp he) h.2, rfl⟩)
      · refine z_iconst_1 (pc := 30) dX3_needsMore_30 ?_
        refine z_goto (pc := 31) (tgt := 35) dX3_needsMore_31 (by decide) ?_
        refine z_zret (pc := 35) dX3_needsMore_35 rfl (Or.inr rfl ) ( ⟨by rw [if_pos]; refine Or.inr ⟨hd, ?_⟩; rw [nI_leI (by omega) (by omega)] at he; omega, rfl⟩)
theorem mX3_ratingBehindTry (r s : Int32) : z_M G zX3_ratingBehindTry 1 [.int r, .int s] w 0 0 (z_rp (.int (rb r s)) w) z_nx := by
  refine z_M.of (by decide +kernel) rfl (by intro v hv; simp only [List.mem_cons, List.not_mem_nil, or_false] at hv; rcases hv with rfl | rfl <;> first | rfl | exact z_isr_cat (z_isr_rf _)) (Nat.le_of_ble_eq_true rfl) ?_
  show z_E _ zX3_ratingBehindTry _ _ 0 [some (.int r), some (.int s), none, none] [] _ _ _
  refine z_iconst_0 (pc := 0) dX3_ratingBehindTry_0 ?_
  refine z_iload_n (pc := 1) dX3_ratingBehindTry_1 rfl ?_
  refine z_sipush_1000 (pc := 2) dX3_ratingBehindTry_2 ?_
  refine z_isub (pc := 5) dX3_ratingBehindTry_5 ?_
  refine mmX3_47 (pc := 6) rfl dX3_ratingBehindTry_6 (by omega) (Nat.le_of_ble_eq_true rfl) ?_
  refine z_istore2 (pc := 9) dX3_ratingBehindTry_9 ?_
  refine z_iload_n (pc := 10) dX3_ratingBehindTry_10 rfl ?_
  refine z_if_eq (pc := 11) (tgt := 24) dX3_ratingBehindTry_11 (by decide) (fun hc => ?_) (fun hc => ?_)
  · refine z_bipush_m16 (pc := 24) dX3_ratingBehindTry_24 ?_
    refine z_istore3 (pc := 26) dX3_ratingBehindTry_26 ?_
    refine z_sipush_3000 (pc := 27) dX3_ratingBehindTry_27 ?_
    refine z_bipush_100 (pc := 30) dX3_ratingBehindTry_30 ?_
    refine z_iload_n (pc := 32) dX3_ratingBehindTry_32 rfl ?_
    refine z_iload_n (pc := 33) dX3_ratingBehindTry_33 rfl ?_
    refine z_iadd (pc := 34) dX3_ratingBehindTry_34 ?_
    refine mmX3_47 (pc := 35) rfl dX3_ratingBehindTry_35 (by omega) (Nat.le_of_ble_eq_true rfl) ?_
    refine mmX3_53 (pc := 38) rfl dX3_ratingBehindTry_38 (by omega) (Nat.le_of_ble_eq_true rfl) ?_
    refine z_iret (pc := 41) dX3_ratingBehindTry_41 rfl (⟨by simp only [rb, if_pos hc], rfl⟩)
  · refine z_bipush_32 (pc := 14) dX3_ratingBehindTry_14 ?_
    refine z_iload_n (pc := 16) dX3_ratingBehindTry_16 rfl ?_
    refine z_bipush_50 (pc := 17) dX3_ratingBehindTry_17 ?_
    refine z_idiv (pc := 19) dX3_ratingBehindTry_19 (by decide) ?_
    refine z_isub (pc := 20) dX3_ratingBehindTry_20 ?_
    refine z_goto (pc := 21) (tgt := 26) dX3_ratingBehindTry_21 (by decide) ?_
    refine z_istore3 (pc := 26) dX3_ratingBehindTry_26 ?_
    refine z_sipush_3000 (pc := 27) dX3_ratingBehindTry_27 ?_
    refine z_bipush_100 (pc := 30) dX3_ratingBehindTry_30 ?_
    refine z_iload_n (pc := 32) dX3_ratingBehindTry_32 rfl ?_
    refine z_iload_n (pc := 33) dX3_ratingBehindTry_33 rfl ?_
    refine z_iadd (pc := 34) dX3_ratingBehindTry_34 ?_
    refine mmX3_47 (pc := 35) rfl dX3_ratingBehindTry_35 (by omega) (Nat.le_of_ble_eq_true rfl) ?_
    refine mmX3_53 (pc := 38) rfl dX3_ratingBehindTry_38 (by omega) (Nat.le_of_ble_eq_true rfl) ?_
    refine z_iret (pc := 41) dX3_ratingBehindTry_41 rfl (⟨by simp only [rb, if_neg hc], rfl⟩)
theorem mX3_changeRating (hC : z_C G F A I N O B w) {p t : Nat} {s : Int32} (hp : p < N 6 0) (ht : t < 5) : z_M G zX3_changeRating 2 [.ref (A 5 p 0), .int (nI t), .int s] w 0 0 (z_st G F A (z_sI I 3 p t (rb (I 3 p t) s)) N O B w none) z_nx := by
  refine z_M.of (by decide +kernel) rfl (by intro v hv; simp only [List.mem_cons, List.not_mem_nil, or_false] at hv; rcases hv with rfl | rfl | rfl <;> first | rfl | exact z_isr_cat (z_isr_rf _)) (Nat.le_of_ble_eq_true rfl) ?_
  show z_E _ zX3_changeRating _ _ 0 [some (.ref (A 5 p 0)), some (.int (nI t)), some (.int s)] [] _ _ _
  have ht3 : t < 2 ^ 31 := by omega
  refine z_iload_n (pc := 0) dX3_changeRating_0 rfl ?_
  refine z_if_lt (pc := 1) (tgt := 29) dX3_changeRating_1 (by decide) (fun hn => absurd hn (nI_pos ht3)) (fun _ => ?_)
  refine z_iload_n (pc := 4) dX3_changeRating_4 rfl ?_
  refine z_aload_n (pc := 5) dX3_changeRating_5 rfl (by first | rfl | exact z_isr_rf _) ?_
  refine gfX3_9 (pc := 6) rfl dX3_changeRating_6 (hC.k5 hp) rfl ?_
  refine z_alen (pc := 9) dX3_changeRating_9 (hC.k6 hp) rfl rfl ?_
  refine z_icmp_ge (pc := 10) (tgt := 29) dX3_changeRating_10 (by decide) (fun hn => absurd hn (nI_ge ht (by omega))) (fun _ => ?_)
  refine z_aload_n (pc := 13) dX3_changeRating_13 rfl (by first | rfl | exact z_isr_rf _) ?_
  refine gfX3_9 (pc := 14) rfl dX3_changeRating_14 (hC.k5 hp) rfl ?_
  refine z_iload_n (pc := 17) dX3_changeRating_17 rfl ?_
  refine z_aload_n (pc := 18) dX3_changeRating_18 rfl (by first | rfl | exact z_isr_rf _) ?_
  refine gfX3_9 (pc := 19) rfl dX3_changeRating_19 (hC.k5 hp) rfl ?_
  refine z_iload_n (pc := 22) dX3_changeRating_22 rfl ?_
  refine z_iald (pc := 23) dX3_changeRating_23 (hC.k6 hp) (vp_in_nI ht (by omega)) ?_
  refine z_iload_n (pc := 24) dX3_changeRating_24 rfl ?_
  rw [nI_clamp ht3]
  refine z_callSp (pc := 25) (mX3_ratingBehindTry (I 3 p t) s) dX3_changeRating_25 cwX3_43 okX3_ratingBehindTry rfl (by omega) rfl (Nat.le_of_ble_eq_true rfl) ?_
  refine z_iast (pc := 28) dX3_changeRating_28 (hC.k6 hp) (vp_in_nI ht (by omega)) ?_
  rw [nI_clamp ht3]
  refine z_genC (hC.p3 hp t _) (fun w2 hC2 hf2 => ?_)
  refine z_vret (pc := 29) dX3_changeRating_29 rfl (⟨rfl, hC2, hf2⟩)
/-- a game's end for a player p against q -/
def eg (I : z_TI) (p q : Nat) (v : Int32) : z_TI := z_sI (z_sI I 2 p 0 (I 2 p 0 + v)) 5 p q 1
theorem mX3_endGame (hC : z_C G F A I N O B w) {p q : Nat} {v : Int32} (hp : p < N 6 0) (hq : q < N 6 0) (h8 : N 6 0 ≤ 8) : z_M G zX3_endGame 0 [.ref (A 5 p 0), .ref (A 5 q 0), .int v] w 0 0 (z_st G F A (eg I p q v) N O B w none) z_nx := by
  refine z_M.of (by decide +kernel) rfl (by intro v hv; simp only [List.mem_cons, List.not_mem_nil, or_false] at hv; rcases hv with rfl | rfl | rfl <;> first | rfl | exact z_isr_cat (z_isr_rf _)) (Nat.le_of_ble_eq_true rfl) ?_
  show z_E _ zX3_endGame _ _ 0 [some (.ref (A 5 p 0)), some (.ref (A 5 q 0)), some (.int v)] [] _ _ _
  have hq3 : q < 2 ^ 31 := by omega
  refine z_aload_n (pc := 0) dX3_endGame_0 rfl (by first | rfl | exact z_isr_rf _) ?_
  refine z_dup (pc := 1) dX3_endGame_1 (by first | rfl | exact z_isr_cat (z_isr_rf _)) ?_
  refine gfX3_36 (pc := 2) rfl dX3_endGame_2 (hC.k5 hp) rfl ?_
  refine z_iload_n (pc := 5) dX3_endGame_5 rfl ?_
  refine z_iadd (pc := 6) dX3_endGame_6 ?_
  refine pfX3_36 (pc := 7) rfl dX3_endGame_7 (hC.k5 hp) (Nat.le_of_ble_eq_true rfl) ?_
  refine z_genC (hC.p2 hp (I 2 p 0 + v)) (fun w2 hC2 hf2 => ?_)
  refine z_aload_n (pc := 10) dX3_endGame_10 rfl (by first | rfl | exact z_isr_rf _) ?_
  refine gfX3_22 (pc := 11) rfl dX3_endGame_11 (hC2.k5 hq) rfl ?_
  refine z_if_lt (pc := 14) (tgt := 39) dX3_endGame_14 (by decide) (fun hn => absurd hn (nI_pos hq3)) (fun _ => ?_)
  refine z_aload_n (pc := 17) dX3_endGame_17 rfl (by first | rfl | exact z_isr_rf _) ?_
  refine gfX3_22 (pc := 18) rfl dX3_endGame_18 (hC2.k5 hq) rfl ?_
  refine z_aload_n (pc := 21) dX3_endGame_21 rfl (by first | rfl | exact z_isr_rf _) ?_
  refine gfX3_19 (pc := 22) rfl dX3_endGame_22 (hC2.k5 hp) rfl ?_
  refine z_alen (pc := 25) dX3_endGame_25 (hC2.k8 hp) rfl rfl ?_
  refine z_icmp_ge (pc := 26) (tgt := 39) dX3_endGame_26 (by decide) (fun hn => absurd hn (nI_ge (by omega) (by omega))) (fun _ => ?_)
  refine z_aload_n (pc := 29) dX3_endGame_29 rfl (by first | rfl | exact z_isr_rf _) ?_
  refine gfX3_19 (pc := 30) rfl dX3_endGame_30 (hC2.k5 hp) rfl ?_
  refine z_aload_n (pc := 33) dX3_endGame_33 rfl (by first | rfl | exact z_isr_rf _) ?_
  refine gfX3_22 (pc := 34) rfl dX3_endGame_34 (hC2.k5 hq) rfl ?_
  refine z_iconst_1 (pc := 37) dX3_endGame_37 ?_
  refine z_zast (pc := 38) dX3_endGame_38 (hC2.k8 hp) (vp_in_nI (by omega) (by omega)) ?_
  rw [nI_clamp hq3]
  refine z_genC (hC2.p5 hp q 1) (fun w3 hC3 hf3 => ?_)
  refine z_vret (pc := 39) dX3_endGame_39 rfl (⟨rfl, hC3, hf2.tr hf3⟩)
theorem mX3_endGameAsWhite (hC : z_C G F A I N O B w) {p q : Nat} {v : Int32} (hp : p < N 6 0) (hq : q < N 6 0) (h8 : N 6 0 ≤ 8) : z_M G zX3_endGameAsWhite 1 [.ref (A 5 p 0), .ref (A 5 q 0), .int v] w 0 0 (z_st G F A (eg (z_sI I 0 p 0 (I 0 p 0 + 1)) p q v) N O B w none) z_nx := by
  refine z_M.of (by decide +kernel) rfl (by intro v hv; simp only [List.mem_cons, List.not_mem_nil, or_false] at hv; rcases hv with rfl | rfl | rfl <;> first | rfl | exact z_isr_cat (z_isr_rf _)) (Nat.le_of_ble_eq_true rfl) ?_
  show z_E _ zX3_endGameAsWhite _ _ 0 [some (.ref (A 5 p 0)), some (.ref (A 5 q 0)), some (.int v)] [] _ _ _
  refine z_aload_n (pc := 0) dX3_endGameAsWhite_0 rfl (by first | rfl | exact z_isr_rf _) ?_
  refine z_dup (pc := 1) dX3_endGameAsWhite_1 (by first | rfl | exact z_isr_cat (z_isr_rf _)) ?_
  refine gfX3_26 (pc := 2) rfl dX3_endGameAsWhite_2 (hC.k5 hp) rfl ?_
  refine z_iconst_1 (pc := 5) dX3_endGameAsWhite_5 ?_
  refine z_iadd (pc := 6) dX3_endGameAsWhite_6 ?_
  refine pfX3_26 (pc := 7) rfl dX3_endGameAsWhite_7 (hC.k5 hp) (Nat.le_of_ble_eq_true rfl) ?_
  refine z_genC (hC.p0 hp (I 0 p 0 + 1)) (fun w2 hC2 hf2 => ?_)
  refine z_aload_n (pc := 10) dX3_endGameAsWhite_10 rfl (by first | rfl | exact z_isr_rf _) ?_
  refine z_aload_n (pc := 11) dX3_endGameAsWhite_11 rfl (by first | rfl | exact z_isr_rf _) ?_
  refine z_iload_n (pc := 12) dX3_endGameAsWhite_12 rfl ?_
  refine z_callV (pc := 13) (mX3_endGame hC2 hp hq h8) dX3_endGameAsWhite_13 cwX3_29 okX3_endGame rfl (hC2.k5 hp) rfl rfl (by omega) rfl (Nat.le_of_ble_eq_true rfl) (by omega) (by omega) (fun _ _ h => h.elim) (fun v wN hN => ?_)
  obtain ⟨rfl, hC3, hf3⟩ := hN
  refine z_vret (pc := 16) dX3_endGameAsWhite_16 rfl (⟨rfl, hC3, hf2.tr hf3⟩)
theorem mX3_endGameAsBlack (hC : z_C G F A I N O B w) {p q : Nat} {v : Int32} (hp : p < N 6 0) (hq : q < N 6 0) (h8 : N 6 0 ≤ 8) : z_M G zX3_endGameAsBlack 1 [.ref (A 5 p 0), .ref (A 5 q 0), .int v] w 0 0 (z_st G F A (eg (z_sI I 1 p 0 (I 1 p 0 + 1)) p q v) N O B w none) z_nx := by
  refine z_M.of (by decide +kernel) rfl (by intro v hv; simp only [List.mem_cons, List.not_mem_nil, or_false] at hv; rcases hv with rfl | rfl | rfl <;> first | rfl | exact z_isr_cat (z_isr_rf _)) (Nat.le_of_ble_eq_true rfl) ?_
  show z_E _ zX3_endGameAsBlack _ _ 0 [some (.ref (A 5 p 0)), some (.ref (A 5 q 0)), some (.int v)] [] _ _ _
  refine z_aload_n (pc := 0) dX3_endGameAsBlack_0 rfl (by first | rfl | exact z_isr_rf _) ?_
  refine z_dup (pc := 1) dX3_endGameAsBlack_1 (by first | rfl | exact z_isr_cat (z_isr_rf _)) ?_
  refine gfX3_33 (pc := 2) rfl dX3_endGameAsBlack_2 (hC.k5 hp) rfl ?_
  refine z_iconst_1 (pc := 5) dX3_endGameAsBlack_5 ?_
  refine z_iadd (pc := 6) dX3_endGameAsBlack_6 ?_
  refine pfX3_33 (pc := 7) rfl dX3_endGameAsBlack_7 (hC.k5 hp) (Nat.le_of_ble_eq_true rfl) ?_
  refine z_genC (hC.p1 hp (I 1 p 0 + 1)) (fun w2 hC2 hf2 => ?_)
  refine z_aload_n (pc := 10) dX3_endGameAsBlack_10 rfl (by first | rfl | exact z_isr_rf _) ?_
  refine z_aload_n (pc := 11) dX3_endGameAsBlack_11 rfl (by first | rfl | exact z_isr_rf _) ?_
  refine z_iload_n (pc := 12) dX3_endGameAsBlack_12 rfl ?_
  refine z_callV (pc := 13) (mX3_endGame hC2 hp hq h8) dX3_endGameAsBlack_13 cwX3_29 okX3_endGame rfl (hC2.k5 hp) rfl rfl (by omega) rfl (Nat.le_of_ble_eq_true rfl) (by omega) (by omega) (fun _ _ h => h.elim) (fun v wN hN => ?_)
  obtain ⟨rfl, hC3, hf3⟩ := hN
  refine z_vret (pc := 16) dX3_endGameAsBlack_16 rfl (⟨rfl, hC3, hf2.tr hf3⟩)
end PL
end
section
/-! ranges, and the checks of arguments -/
def z_rg (x : Int32) (n : Nat) : Prop := ∃ j : Nat, j < n ∧ x = nI j
theorem z_rg_lt {x : Int32} {n : Nat} (hn : n < 2 ^ 31) (h : x < 0) : ¬ z_rg x n := by
  rintro ⟨j, h1, rfl⟩
  exact nI_pos (by omega) h
theorem z_rg_ge {x : Int32} {n : Nat} (hn : n < 2 ^ 31) (h : nI n ≤ x) : ¬ z_rg x n := by
  rintro ⟨j, h1, rfl⟩
  exact nI_ge h1 hn h
theorem z_rg_in {x : Int32} {n : Nat} (hn : n < 2 ^ 31) (h : ¬ x < 0) (h2 : ¬ nI n ≤ x) : z_rg x n := by
  obtain ⟨j, h3, rfl⟩ := nI_of h
  rw [nI_leI hn h3] at h2
  exact ⟨j, by omega, rfl⟩
theorem z_rg_in' {x : Int32} {n : Nat} (hn : n < 2 ^ 31) (h : ¬ x < 0) (h2 : x < nI n) : z_rg x n :=
  z_rg_in hn h (fun h3 => Int32.not_lt.mpr h3 h2)
theorem nI_inj {a b : Nat} (ha : a < 2 ^ 31) (hb : b < 2 ^ 31) (h : nI a = nI b) : a = b := (nI_eq ha hb).mp h
def IAE : String := "java/lang/IllegalArgumentException"
def ISE : String := "java/lang/IllegalStateException"
def IOE : String := "java/lang/IndexOutOfBoundsException"
/-- a check: it returns where P holds, throws E where it doesn't -/
def z_ck (P : Prop) (w : z_W) : Option Value → z_W → Prop := fun v w' => v = none ∧ w = w' ∧ P
def z_cx (E : String) (P : Prop) (w : z_W) : String → z_W → Prop := fun E' w' => E' = E ∧ w = w' ∧ ¬ P
/-- where nothing changes: the answer r where P holds -/
def z_an (r : Value) (P : Prop) (w : z_W) : Option Value → z_W → Prop := fun v w' => v = some r ∧ w = w' ∧ P
section CHK
variable (G : z_G) (w : z_W)
theorem mX5_checkPosition (x : Int32) : z_M G zX5_checkPosition 6 [.int x] w 1 6 (z_ck (z_rg x 1000) w) (z_cx IAE (z_rg x 1000) w) := by
  refine z_M.of (by decide +kernel) rfl (by intro v hv; simp only [List.mem_cons, List.not_mem_nil, or_false] at hv; rcases hv with rfl <;> first | rfl | exact z_isr_cat (z_isr_rf _)) (Nat.le_of_ble_eq_true rfl) ?_
  show z_E _ zX5_checkPosition _ _ 0 [some (.int x)] [] _ _ _
  refine z_iload_n (pc := 0) dX5_checkPosition_0 rfl ?_
  refine z_if_lt (pc := 1) (tgt := 11) dX5_checkPosition_1 (by decide) (fun hc => ?_) (fun hc => ?_)
  · refine z_throw (pc := 11) rfl rfl th69 sr210 (by omega) (Nat.le_of_ble_eq_true rfl) (by omega) (by omega) dX5_checkPosition_11 dX5_checkPosition_14 dX5_checkPosition_15 dX5_checkPosition_17 dX5_checkPosition_20 (⟨rfl, rfl, z_rg_lt (by decide) hc⟩)
  · refine z_iload_n (pc := 4) dX5_checkPosition_4 rfl ?_
    refine z_sipush_1000 (pc := 5) dX5_checkPosition_5 ?_
    refine z_icmp_lt (pc := 8) (tgt := 21) dX5_checkPosition_8 (by decide) (fun hd => ?_) (fun hd => ?_)
    · refine z_vret (pc := 21) dX5_checkPosition_21 rfl (⟨rfl, rfl, z_rg_in' (by decide) hc hd⟩)
    · refine z_throw (pc := 11) rfl rfl th69 sr210 (by omega) (Nat.le_of_ble_eq_true rfl) (by omega) (by omega) dX5_checkPosition_11 dX5_checkPosition_14 dX5_checkPosition_15 dX5_checkPosition_17 dX5_checkPosition_20 (⟨rfl, rfl, z_rg_ge (by decide) (Int32.not_lt.mp hd)⟩)
theorem mX5_checkMove (x : Int32) : z_M G zX5_checkMove 6 [.int x] w 1 6 (z_ck (z_rg x 4) w) (z_cx IAE (z_rg x 4) w) := by
  refine z_M.of (by decide +kernel) rfl (by intro v hv; simp only [List.mem_cons, List.not_mem_nil, or_false] at hv; rcases hv with rfl <;> first | rfl | exact z_isr_cat (z_isr_rf _)) (Nat.le_of_ble_eq_true rfl) ?_
  show z_E _ zX5_checkMove _ _ 0 [some (.int x)] [] _ _ _
  refine z_iload_n (pc := 0) dX5_checkMove_0 rfl ?_
  refine z_if_lt (pc := 1) (tgt := 9) dX5_checkMove_1 (by decide) (fun hc => ?_) (fun hc => ?_)
  · refine z_throw (pc := 9) rfl rfl th69 sr212 (by omega) (Nat.le_of_ble_eq_true rfl) (by omega) (by omega) dX5_checkMove_9 dX5_checkMove_12 dX5_checkMove_13 dX5_checkMove_15 dX5_checkMove_18 (⟨rfl, rfl, z_rg_lt (by decide) hc⟩)
  · refine z_iload_n (pc := 4) dX5_checkMove_4 rfl ?_
    refine z_iconst_4 (pc := 5) dX5_checkMove_5 ?_
    refine z_icmp_lt (pc := 6) (tgt := 19) dX5_checkMove_6 (by decide) (fun hd => ?_) (fun hd => ?_)
    · refine z_vret (pc := 19) dX5_checkMove_19 rfl (⟨rfl, rfl, z_rg_in' (by decide) hc hd⟩)
    · refine z_throw (pc := 9) rfl rfl th69 sr212 (by omega) (Nat.le_of_ble_eq_true rfl) (by omega) (by omega) dX5_checkMove_9 dX5_checkMove_12 dX5_checkMove_13 dX5_checkMove_15 dX5_checkMove_18 (⟨rfl, rfl, z_rg_ge (by decide) (Int32.not_lt.mp hd)⟩)
/-- a line and its number of moves -/
def z_ln (x y : Int32) : Prop := ∃ l n : Nat, 1 ≤ n ∧ n ≤ 6 ∧ l < 4 ^ n ∧ x = nI l ∧ y = nI n
theorem z_shl : ∀ n, n < 7 → (1 : Int32) <<< ((2 * nI n) &&& 31) = nI (4 ^ n) := by decide +kernel
theorem z_p4 : ∀ n, n < 7 → 4 ^ n < 2 ^ 31 := by decide +kernel
theorem mX5_checkLine (x y : Int32) : z_M G zX5_checkLine 6 [.int x, .int y] w 1 6 (z_ck (z_ln x y) w) (z_cx IAE (z_ln x y) w) := by
  refine z_M.of (by decide +kernel) rfl (by intro v hv; simp only [List.mem_cons, List.not_mem_nil, or_false] at hv; rcases hv with rfl | rfl <;> first | rfl | exact z_isr_cat (z_isr_rf _)) (Nat.le_of_ble_eq_true rfl) ?_
  show z_E _ zX5_checkLine _ _ 0 [some (.int x), some (.int y)] [] _ _ _
  refine z_iload_n (pc := 0) dX5_checkLine_0 rfl ?_
  refine z_iconst_1 (pc := 1) dX5_checkLine_1 ?_
  refine z_icmp_lt (pc := 2) (tgt := 11) dX5_checkLine_2 (by decide) (fun hc => ?_) (fun hc => ?_)
  · refine z_throw (pc := 11) rfl rfl th69 sr214 (by omega) (Nat.le_of_ble_eq_true rfl) (by omega) (by omega) dX5_checkLine_11 dX5_checkLine_14 dX5_checkLine_15 dX5_checkLine_17 dX5_checkLine_20 (⟨rfl, rfl, ?_⟩)
    rintro ⟨l, n, h1, h2, h3, h4, rfl⟩
    exact (nI_nlt (a := n) (b := 1) h1 (by omega)) hc
  · refine z_iload_n (pc := 5) dX5_checkLine_5 rfl ?_
    refine z_bipush_6 (pc := 6) dX5_checkLine_6 ?_
    refine z_icmp_le (pc := 8) (tgt := 21) dX5_checkLine_8 (by decide) (fun hd => ?_) (fun hd => ?_)
    · have hy : ∃ n : Nat, 1 ≤ n ∧ n ≤ 6 ∧ y = nI n := by
        have h0 : ¬ y < 0 := fun h => hc (Int32.lt_trans h (by decide))
        obtain ⟨j, h3, rfl⟩ := nI_of h0
        have h6 : j ≤ 6 := (nI_leI (a := j) (b := 6) h3 (by decide)).mp hd
        refine ⟨j, ?_, h6, rfl⟩
        have h1 := Int32.not_lt.mp hc
        exact (nI_leI (a := 1) (b := j) (by decide) h3).mp h1
      obtain ⟨n, hn1, hn6, rfl⟩ := hy
      refine z_iload_n (pc := 21) dX5_checkLine_21 rfl ?_
      refine z_if_lt (pc := 22) (tgt := 34) dX5_checkLine_22 (by decide) (fun he => ?_) (fun he => ?_)
      · refine z_throw (pc := 34) rfl rfl th69 sr216 (by omega) (Nat.le_of_ble_eq_true rfl) (by omega) (by omega) dX5_checkLine_34 dX5_checkLine_37 dX5_checkLine_38 dX5_checkLine_40 dX5_checkLine_43 (⟨rfl, rfl, ?_⟩)
        rintro ⟨l, n', h1, h2, h3, rfl, h5⟩
        exact nI_pos (Nat.lt_of_lt_of_le h3 (Nat.le_of_lt (z_p4 n' (by omega)))) he
      · refine z_iload_n (pc := 25) dX5_checkLine_25 rfl ?_
        refine z_iconst_1 (pc := 26) dX5_checkLine_26 ?_
        refine z_iconst_2 (pc := 27) dX5_checkLine_27 ?_
        refine z_iload_n (pc := 28) dX5_checkLine_28 rfl ?_
        refine z_imul (pc := 29) dX5_checkLine_29 ?_
        refine z_ishl (pc := 30) dX5_checkLine_30 ?_
        rw [z_shl n (by omega)]
        refine z_icmp_lt (pc := 31) (tgt := 44) dX5_checkLine_31 (by decide) (fun hf => ?_) (fun hf => ?_)
        · obtain ⟨l, hl, rfl⟩ := z_rg_in' (z_p4 n (by omega)) he hf
          refine z_vret (pc := 44) dX5_checkLine_44 rfl (⟨rfl, rfl, l, n, hn1, hn6, hl, rfl, rfl⟩)
        · refine z_throw (pc := 34) rfl rfl th69 sr216 (by omega) (Nat.le_of_ble_eq_true rfl) (by omega) (by omega) dX5_checkLine_34 dX5_checkLine_37 dX5_checkLine_38 dX5_checkLine_40 dX5_checkLine_43 (⟨rfl, rfl, ?_⟩)
          rintro ⟨l, n', h1, h2, h3, rfl, h5⟩
          have := nI_inj (by omega) (by omega) h5
          subst this
          exact hf (nI_lt h3 (z_p4 n (by omega)))
    · refine z_throw (pc := 11) rfl rfl th69 sr214 (by omega) (Nat.le_of_ble_eq_true rfl) (by omega) (by omega) dX5_checkLine_11 dX5_checkLine_14 dX5_checkLine_15 dX5_checkLine_17 dX5_checkLine_20 (⟨rfl, rfl, ?_⟩)
      rintro ⟨l, n, h1, h2, h3, h4, rfl⟩
      exact hd (nI_le (a := n) (b := 6) h2 (by decide))
end CHK
end
section
/-! games, lines, the book as it is read; the calls of the face that only ask -/
theorem z_upF {α : Type} (f : Nat → α) (k : Nat) (v : α) : vf_upd f k v = va_up f k v := rfl
/-- the shape of the state -/
def z_S (N : z_TN) (O : z_TO) (B : z_TB) : Prop :=
  N 6 0 = N 0 0 ∧ N 7 0 = N 1 0 ∧ N 8 0 = N 2 0 ∧ N 0 0 ≤ 8 ∧ N 1 0 ≤ 60 ∧ N 2 0 ≤ 40 ∧ (∀ g, g < N 1 0 → N 3 g < N 0 0 ∧ N 4 g < N 0 0 ∧ N 5 g ≤ 12) ∧ (∀ g, O 0 0 = some g → g + 1 = N 1 0) ∧ (∀ p q, p < N 0 0 → O 1 p = some q → q < N 0 0) ∧ B 0 0 = true ∧ (∀ i j, B i j = true → i ≤ 6 ∧ j < 4 ^ i) ∧ (∀ i j, B (i + 1) j = true → B i (j % 4 ^ i) = true)
theorem z_ml : ∀ i, i < 7 → ((((2 * nI i) &&& 31).toBitVec.smod 32).toNat = 2 * i) := by decide +kernel
theorem z_moveOf {l i : Nat} (hl : l < 2 ^ 31) (hi : i < 7) : (nI l >>> ((2 * nI i) &&& 31)) &&& 3 = nI (l / 4 ^ i % 4) := by
  rw [pk_shrN hl _ (2 * i) (z_ml i hi), pk_andN (Nat.lt_of_le_of_lt (Nat.div_le_self _ _) (by omega)) 2 (by decide), Nat.pow_mul]
section PURE2
variable (G : z_G) (w : z_W)
theorem mX5_moveOfLine {l i : Nat} (hl : l < 2 ^ 31) (hi : i < 7) : z_M G zX5_moveOfLine 0 [.int (nI l), .int (nI i)] w 0 0 (z_rp (.int (nI (l / 4 ^ i % 4))) w) z_nx := by
  refine z_M.of (by decide +kernel) rfl (by intro v hv; simp only [List.mem_cons, List.not_mem_nil, or_false] at hv; rcases hv with rfl | rfl <;> first | rfl | exact z_isr_cat (z_isr_rf _)) (Nat.le_of_ble_eq_true rfl) ?_
  show z_E _ zX5_moveOfLine _ _ 0 [some (.int (nI l)), some (.int (nI i))] [] _ _ _
  refine z_iload_n (pc := 0) dX5_moveOfLine_0 rfl ?_
  refine z_iconst_2 (pc := 1) dX5_moveOfLine_1 ?_
  refine z_iload_n (pc := 2) dX5_moveOfLine_2 rfl ?_
  refine z_imul (pc := 3) dX5_moveOfLine_3 ?_
  refine z_ishr (pc := 4) dX5_moveOfLine_4 ?_
  refine z_iconst_3 (pc := 5) dX5_moveOfLine_5 ?_
  refine z_iand (pc := 6) dX5_moveOfLine_6 ?_
  refine z_iret (pc := 7) dX5_moveOfLine_7 rfl (⟨by rw [z_moveOf hl hi], rfl⟩)
end PURE2
def bad (c s o : Int32) : Prop := 3 ≤ c ∧ 3 * (if o = 0 then 2 * c - s else s) < 2 * c
section GM
variable {G : z_G} {F : Nat → Prop} {A : Nat → Nat → Nat → Nat} {I : z_TI} {N : z_TN} {O : z_TO} {B : z_TB} {w : z_W}
theorem mX1_isFull (hC : z_C G F A I N O B w) {g : Nat} (hg : g < N 7 0) (h12 : N 5 g ≤ 12) : z_M G zX1_isFull 0 [.ref (A 9 g 0)] w 0 0 (z_rp (.int (if N 5 g < 12 then 0 else 1)) w) z_nx := by
  refine z_M.of (by decide +kernel) rfl (by intro v hv; simp only [List.mem_cons, List.not_mem_nil, or_false] at hv; rcases hv with rfl <;> first | rfl | exact z_isr_cat (z_isr_rf _)) (Nat.le_of_ble_eq_true rfl) ?_
  show z_E _ zX1_isFull _ _ 0 [some (.ref (A 9 g 0))] [] _ _ _
  refine z_aload_n (pc := 0) dX1_isFull_0 rfl (by first | rfl | exact z_isr_rf _) ?_
  refine gfX1_26 (pc := 1) rfl dX1_isFull_1 (hC.k9 hg) rfl ?_
  refine z_aload_n (pc := 4) dX1_isFull_4 rfl (by first | rfl | exact z_isr_rf _) ?_
  refine gfX1_9 (pc := 5) rfl dX1_isFull_5 (hC.k9 hg) rfl ?_
  refine z_alen (pc := 8) dX1_isFull_8 (hC.k10 hg) rfl rfl ?_
  refine z_icmp_lt (pc := 9) (tgt := 16) dX1_isFull_9 (by decide) (fun hc => ?_) (fun hc => ?_)
  · refine z_iconst_0 (pc := 16) dX1_isFull_16 ?_
    rw [nI_ltI (by omega) (by omega)] at hc
    refine z_zret (pc := 17) dX1_isFull_17 rfl (Or.inl rfl ) ( ⟨by rw [if_pos hc], rfl⟩)
  · refine z_iconst_1 (pc := 12) dX1_isFull_12 ?_
    refine z_goto (pc := 13) (tgt := 17) dX1_isFull_13 (by decide) ?_
    rw [nI_ltI (by omega) (by omega)] at hc
    refine z_zret (pc := 17) dX1_isFull_17 rfl (Or.inr rfl ) ( ⟨by rw [if_neg hc], rfl⟩)
theorem mX1_moveAt (hC : z_C G F A I N O B w) {g i : Nat} (hg : g < N 7 0) (hi : i < 12) : z_M G zX1_moveAt 0 [.ref (A 9 g 0), .int (nI i)] w 0 0 (z_rp (.int (I 8 g i)) w) z_nx := by
  refine z_M.of (by decide +kernel) rfl (by intro v hv; simp only [List.mem_cons, List.not_mem_nil, or_false] at hv; rcases hv with rfl | rfl <;> first | rfl | exact z_isr_cat (z_isr_rf _)) (Nat.le_of_ble_eq_true rfl) ?_
  show z_E _ zX1_moveAt _ _ 0 [some (.ref (A 9 g 0)), some (.int (nI i))] [] _ _ _
  have hi3 : i < 2 ^ 31 := by omega
  refine z_iload_n (pc := 0) dX1_moveAt_0 rfl ?_
  refine z_if_lt (pc := 1) (tgt := 22) dX1_moveAt_1 (by decide) (fun hn => absurd hn (nI_pos hi3)) (fun _ => ?_)
  refine z_iload_n (pc := 4) dX1_moveAt_4 rfl ?_
  refine z_aload_n (pc := 5) dX1_moveAt_5 rfl (by first | rfl | exact z_isr_rf _) ?_
  refine gfX1_9 (pc := 6) rfl dX1_moveAt_6 (hC.k9 hg) rfl ?_
  refine z_alen (pc := 9) dX1_moveAt_9 (hC.k10 hg) rfl rfl ?_
  refine z_icmp_ge (pc := 10) (tgt := 22) dX1_moveAt_10 (by decide) (fun hn => absurd hn (nI_ge hi (by omega))) (fun _ => ?_)
  refine z_aload_n (pc := 13) dX1_moveAt_13 rfl (by first | rfl | exact z_isr_rf _) ?_
  refine gfX1_9 (pc := 14) rfl dX1_moveAt_14 (hC.k9 hg) rfl ?_
  refine z_iload_n (pc := 17) dX1_moveAt_17 rfl ?_
  refine z_iald (pc := 18) dX1_moveAt_18 (hC.k10 hg) (vp_in_nI hi (by omega)) ?_
  refine z_goto (pc := 19) (tgt := 23) dX1_moveAt_19 (by decide) ?_
  refine z_iret (pc := 23) dX1_moveAt_23 rfl (⟨by rw [nI_clamp hi3], rfl⟩)
theorem z_C.pN5 (h : z_C G F A I N O B w) {g : Nat} (hg : g < N 7 0) (v : Nat) : z_C G F A I (z_sN N 5 g v) O B (z_up w (A 9 g 0) (.inr (1, [.ref (A 5 (N 3 g) 0), .ref (A 5 (N 4 g) 0), .ref (A 10 g 0), .int (nI v), .int (I 6 g 0), .int (I 7 g 0)]))) ∧ z_fr F w (z_up w (A 9 g 0) (.inr (1, [.ref (A 5 (N 3 g) 0), .ref (A 5 (N 4 g) 0), .ref (A 10 g 0), .int (nI v), .int (I 6 g 0), .int (I 7 g 0)]))) := by
  have hlv : z_lv (z_sN N 5 g v) B = z_lv N B := by
    funext k i j
    unfold z_lv
    split <;> rfl
  unfold z_C
  rw [hlv]
  refine z_tw.put h (k := 9) (i := g) (j := 0) ⟨hg, rfl⟩ (by simp [z_ct, z_sN]) (fun k' i' j' hl hn => ?_)
  unfold z_ct
  split <;> first
    | rfl
    | (have hi : i' ≠ g := fun q => hn ⟨rfl, q, hl.2⟩
       simp [z_sN, hi])
theorem mX1_addMove (hC : z_C G F A I N O B w) {g : Nat} {m : Int32} (hg : g < N 7 0) (h12 : N 5 g < 12) : z_M G zX1_addMove 1 [.ref (A 9 g 0), .int m] w 0 0 (z_st G F A (z_sI (z_sI I 8 g (N 5 g) m) 6 g 0 (nx (I 6 g 0) m)) (z_sN N 5 g (N 5 g + 1)) O B w none) z_nx := by
  refine z_M.of (by decide +kernel) rfl (by intro v hv; simp only [List.mem_cons, List.not_mem_nil, or_false] at hv; rcases hv with rfl | rfl <;> first | rfl | exact z_isr_cat (z_isr_rf _)) (Nat.le_of_ble_eq_true rfl) ?_
  show z_E _ zX1_addMove _ _ 0 [some (.ref (A 9 g 0)), some (.int m)] [] _ _ _
  have h3 : N 5 g < 2 ^ 31 := by omega
  refine z_aload_n (pc := 0) dX1_addMove_0 rfl (by first | rfl | exact z_isr_rf _) ?_
  refine gfX1_26 (pc := 1) rfl dX1_addMove_1 (hC.k9 hg) rfl ?_
  refine z_if_lt (pc := 4) (tgt := 51) dX1_addMove_4 (by decide) (fun hn => absurd hn (nI_pos h3)) (fun _ => ?_)
  refine z_aload_n (pc := 7) dX1_addMove_7 rfl (by first | rfl | exact z_isr_rf _) ?_
  refine gfX1_26 (pc := 8) rfl dX1_addMove_8 (hC.k9 hg) rfl ?_
  refine z_aload_n (pc := 11) dX1_addMove_11 rfl (by first | rfl | exact z_isr_rf _) ?_
  refine gfX1_9 (pc := 12) rfl dX1_addMove_12 (hC.k9 hg) rfl ?_
  refine z_alen (pc := 15) dX1_addMove_15 (hC.k10 hg) rfl rfl ?_
  refine z_icmp_ge (pc := 16) (tgt := 51) dX1_addMove_16 (by decide) (fun hn => absurd hn (nI_ge h12 (by omega))) (fun _ => ?_)
  refine z_aload_n (pc := 19) dX1_addMove_19 rfl (by first | rfl | exact z_isr_rf _) ?_
  refine gfX1_9 (pc := 20) rfl dX1_addMove_20 (hC.k9 hg) rfl ?_
  refine z_aload_n (pc := 23) dX1_addMove_23 rfl (by first | rfl | exact z_isr_rf _) ?_
  refine gfX1_26 (pc := 24) rfl dX1_addMove_24 (hC.k9 hg) rfl ?_
  refine z_iload_n (pc := 27) dX1_addMove_27 rfl ?_
  refine z_iast (pc := 28) dX1_addMove_28 (hC.k10 hg) (vp_in_nI h12 (by omega)) ?_
  rw [nI_clamp h3]
  refine z_genC (hC.p8 hg (N 5 g) m) (fun w2 hC2 hf2 => ?_)
  refine z_aload_n (pc := 29) dX1_addMove_29 rfl (by first | rfl | exact z_isr_rf _) ?_
  refine z_dup (pc := 30) dX1_addMove_30 (by first | rfl | exact z_isr_cat (z_isr_rf _)) ?_
  refine gfX1_26 (pc := 31) rfl dX1_addMove_31 (hC2.k9 hg) rfl ?_
  refine z_iconst_1 (pc := 34) dX1_addMove_34 ?_
  refine z_iadd (pc := 35) dX1_addMove_35 ?_
  rw [nI_1]
  refine pfX1_26 (pc := 36) rfl dX1_addMove_36 (hC2.k9 hg) (Nat.le_of_ble_eq_true rfl) ?_
  refine z_genC (hC2.pN5 hg (N 5 g + 1)) (fun w3 hC3 hf3 => ?_)
  refine z_aload_n (pc := 39) dX1_addMove_39 rfl (by first | rfl | exact z_isr_rf _) ?_
  refine z_aload_n (pc := 40) dX1_addMove_40 rfl (by first | rfl | exact z_isr_rf _) ?_
  refine gfX1_15 (pc := 41) rfl dX1_addMove_41 (hC3.k9 hg) rfl ?_
  refine z_iload_n (pc := 44) dX1_addMove_44 rfl ?_
  refine z_callSNp (pc := 45) (mX5_positionAfter G w3 _ m) dX1_addMove_45 cwX1_29 okX5_positionAfter rfl (by omega) rfl (Nat.le_of_ble_eq_true rfl) ?_
  refine pfX1_15 (pc := 48) rfl dX1_addMove_48 (hC3.k9 hg) (Nat.le_of_ble_eq_true rfl) ?_
  refine z_genC (hC3.p6 hg _) (fun w4 hC4 hf4 => ?_)
  refine z_vret (pc := 51) dX1_addMove_51 rfl (⟨rfl, hC4, hf2.tr (hf3.tr hf4)⟩)
end GM
end
section
/-! lines of the book as they are read -/
theorem z_01t {c : Prop} (h : c) [Decidable c] : (if c then (1 : Int32) else 0) = 1 := if_pos h
section BK
variable {G : z_G} {F : Nat → Prop} {A : Nat → Nat → Nat → Nat} {I : z_TI} {N : z_TN} {O : z_TO} {B : z_TB} {w : z_W}
theorem iX1_beginsWith {QX} (hC : z_C G F A I N O B w) {g l n : Nat} (hg : g < N 7 0) (hl : l < 2 ^ 31) (hn : n ≤ N 5 g) (h12 : N 5 g ≤ 12) (h6 : n ≤ 6) [Decidable (n ≤ N 5 g ∧ ∀ i, i < n → I 8 g i = nI (l / 4 ^ i % 4))] : ∀ m i : Nat, n - i = m → i ≤ n → (∀ i', i' < i → I 8 g i' = nI (l / 4 ^ i' % 4)) → z_E G zX1_beginsWith 2 (z_mq G (z_rp (.int (if n ≤ N 5 g ∧ ∀ i, i < n → I 8 g i = nI (l / 4 ^ i % 4) then 1 else 0)) w) QX) 12 [some (.ref (A 9 g 0)), some (.int (nI l)), some (.int (nI n)), some (.int (nI i))] [] w 0 0 := by
  intro m
  induction m with
  | zero =>
    intro i hm hi ha
    have : i = n := by omega
    subst this
    refine z_iload_n (pc := 12) dX1_beginsWith_12 rfl ?_
    refine z_iload_n (pc := 13) dX1_beginsWith_13 rfl ?_
    refine z_icmp_ge (pc := 14) (tgt := 38) dX1_beginsWith_14 (by decide) (fun _ => ?_) (fun hn => absurd (nI_le (Nat.le_refl _) (by omega)) hn)
    refine z_iconst_1 (pc := 38) dX1_beginsWith_38 ?_
    refine z_zret (pc := 39) dX1_beginsWith_39 rfl (Or.inr rfl ) ( ⟨by rw [if_pos ⟨hn, ha⟩], rfl⟩)
  | succ m ih =>
    intro i hm hi ha
    have hin : i < n := by omega
    refine z_iload_n (pc := 12) dX1_beginsWith_12 rfl ?_
    refine z_iload_n (pc := 13) dX1_beginsWith_13 rfl ?_
    refine z_icmp_ge (pc := 14) (tgt := 38) dX1_beginsWith_14 (by decide) (fun hn => absurd hn (nI_ge hin (by omega))) (fun _ => ?_)
    refine z_aload_n (pc := 17) dX1_beginsWith_17 rfl (by first | rfl | exact z_isr_rf _) ?_
    refine z_iload_n (pc := 18) dX1_beginsWith_18 rfl ?_
    refine z_callVp (pc := 19) (mX1_moveAt hC hg (show i < 12 by omega)) dX1_beginsWith_19 cwX1_33 okX1_moveAt rfl (hC.k9 hg) rfl rfl (by omega) rfl (Nat.le_of_ble_eq_true rfl) ?_
    refine z_iload_n (pc := 22) dX1_beginsWith_22 rfl ?_
    refine z_iload_n (pc := 23) dX1_beginsWith_23 rfl ?_
    refine z_callSNp (pc := 24) (mX5_moveOfLine G w hl (show i < 7 by omega)) dX1_beginsWith_24 cwX1_37 okX5_moveOfLine rfl (by omega) rfl (Nat.le_of_ble_eq_true rfl) ?_
    refine z_icmp_eq (pc := 27) (tgt := 32) dX1_beginsWith_27 (by decide) (fun hc => ?_) (fun hc => ?_)
    · refine z_iinc3 (pc := 32) dX1_beginsWith_32 ?_
      refine z_goto (pc := 35) (tgt := 12) dX1_beginsWith_35 (by decide) ?_
      rw [nI_1]
      exact ih (i + 1) (by omega) (by omega) (fun i' h => by
        rcases Nat.lt_succ_iff_lt_or_eq.mp h with q | q
        · exact ha i' q
        · rw [q]; exact hc)
    · refine z_iconst_0 (pc := 30) dX1_beginsWith_30 ?_
      refine z_zret (pc := 31) dX1_beginsWith_31 rfl (Or.inl rfl ) ( ⟨by rw [if_neg (fun q => hc (q.2 i hin))], rfl⟩)
theorem mX1_beginsWith (hC : z_C G F A I N O B w) {g l n : Nat} (hg : g < N 7 0) (hl : l < 2 ^ 31) (h12 : N 5 g ≤ 12) (h6 : n ≤ 6) [Decidable (n ≤ N 5 g ∧ ∀ i, i < n → I 8 g i = nI (l / 4 ^ i % 4))] : z_M G zX1_beginsWith 2 [.ref (A 9 g 0), .int (nI l), .int (nI n)] w 0 0 (z_rp (.int (if n ≤ N 5 g ∧ ∀ i, i < n → I 8 g i = nI (l / 4 ^ i % 4) then 1 else 0)) w) z_nx := by
  refine z_M.of (by decide +kernel) rfl (by intro v hv; simp only [List.mem_cons, List.not_mem_nil, or_false] at hv; rcases hv with rfl | rfl | rfl <;> first | rfl | exact z_isr_cat (z_isr_rf _)) (Nat.le_of_ble_eq_true rfl) ?_
  show z_E _ zX1_beginsWith _ _ 0 [some (.ref (A 9 g 0)), some (.int (nI l)), some (.int (nI n)), none] [] _ _ _
  refine z_aload_n (pc := 0) dX1_beginsWith_0 rfl (by first | rfl | exact z_isr_rf _) ?_
  refine gfX1_26 (pc := 1) rfl dX1_beginsWith_1 (hC.k9 hg) rfl ?_
  refine z_iload_n (pc := 4) dX1_beginsWith_4 rfl ?_
  refine z_icmp_ge (pc := 5) (tgt := 10) dX1_beginsWith_5 (by decide) (fun hc => ?_) (fun hc => ?_)
  · refine z_iconst_0 (pc := 10) dX1_beginsWith_10 ?_
    refine z_istore3 (pc := 11) dX1_beginsWith_11 ?_
    rw [nI_leI (by omega) (by omega)] at hc
    exact iX1_beginsWith hC hg hl hc h12 h6 _ 0 rfl (Nat.zero_le _) (fun _ h => absurd h (Nat.not_lt_zero _))
  · refine z_iconst_0 (pc := 8) dX1_beginsWith_8 ?_
    rw [nI_leI (by omega) (by omega)] at hc
    refine z_zret (pc := 9) dX1_beginsWith_9 rfl (Or.inl rfl ) ( ⟨by rw [if_neg (fun q => hc q.1)], rfl⟩)
theorem mX2_goingOnWith (hC : z_C G F A I N O B w) {i j m : Nat} (hB : B i j = true) (hm : m < 4) : z_M G zX2_goingOnWith 0 [.ref (A 12 i j), .int (nI m)] w 0 0 (z_rp (va_rf (if B (i + 1) (j + m * 4 ^ i) then some (A 12 (i + 1) (j + m * 4 ^ i)) else none)) w) z_nx := by
  refine z_M.of (by decide +kernel) rfl (by intro v hv; simp only [List.mem_cons, List.not_mem_nil, or_false] at hv; rcases hv with rfl | rfl <;> first | rfl | exact z_isr_cat (z_isr_rf _)) (Nat.le_of_ble_eq_true rfl) ?_
  show z_E _ zX2_goingOnWith _ _ 0 [some (.ref (A 12 i j)), some (.int (nI m))] [] _ _ _
  have hm3 : m < 2 ^ 31 := by omega
  refine z_iload_n (pc := 0) dX2_goingOnWith_0 rfl ?_
  refine z_if_lt (pc := 1) (tgt := 22) dX2_goingOnWith_1 (by decide) (fun hn => absurd hn (nI_pos hm3)) (fun _ => ?_)
  refine z_iload_n (pc := 4) dX2_goingOnWith_4 rfl ?_
  refine z_aload_n (pc := 5) dX2_goingOnWith_5 rfl (by first | rfl | exact z_isr_rf _) ?_
  refine gfX2_11 (pc := 6) rfl dX2_goingOnWith_6 (hC.k12 hB) rfl ?_
  refine z_alen (pc := 9) dX2_goingOnWith_9 (hC.k13 hB) rfl rfl ?_
  refine z_icmp_ge (pc := 10) (tgt := 22) dX2_goingOnWith_10 (by decide) (fun hn => absurd hn (nI_ge hm (by omega))) (fun _ => ?_)
  refine z_aload_n (pc := 13) dX2_goingOnWith_13 rfl (by first | rfl | exact z_isr_rf _) ?_
  refine gfX2_11 (pc := 14) rfl dX2_goingOnWith_14 (hC.k12 hB) rfl ?_
  refine z_iload_n (pc := 17) dX2_goingOnWith_17 rfl ?_
  refine z_aaldN (pc := 18) dX2_goingOnWith_18 (hC.k13 hB) (vp_in_nI hm (by omega)) ?_
  refine z_goto (pc := 19) (tgt := 23) dX2_goingOnWith_19 (by decide) ?_
  rw [nI_clamp hm3]
  refine z_aret (pc := 23) dX2_goingOnWith_23 rfl (by first | rfl | exact z_isr_rf _) (⟨rfl, rfl⟩)
theorem mX2_doesBadly (hC : z_C G F A I N O B w) {i j : Nat} {o : Int32} (hB : B i j = true) [Decidable (bad (I 11 i j) (I 12 i j) o)] : z_M G zX2_doesBadly 0 [.ref (A 12 i j), .int o] w 0 0 (z_rp (.int (if bad (I 11 i j) (I 12 i j) o then 1 else 0)) w) z_nx := by
  refine z_M.of (by decide +kernel) rfl (by intro v hv; simp only [List.mem_cons, List.not_mem_nil, or_false] at hv; rcases hv with rfl | rfl <;> first | rfl | exact z_isr_cat (z_isr_rf _)) (Nat.le_of_ble_eq_true rfl) ?_
  show z_E _ zX2_doesBadly _ _ 0 [some (.ref (A 12 i j)), some (.int o), none] [] _ _ _
  have e : ∀ {Z : z_Gq} (v : Int32), v = (if o = 0 then 2 * I 11 i j - I 12 i j else I 12 i j) → (Z = z_mq G (z_rp (.int (if bad (I 11 i j) (I 12 i j) o then 1 else 0)) w) z_nx) → z_E G zX2_doesBadly 0 Z 22 [some (.ref (A 12 i j)), some (.int o), none] [.int v] w 0 0 := by
    intro Z v hv hZ
    subst hZ
    refine z_istore2 (pc := 22) dX2_doesBadly_22 ?_
    refine z_aload_n (pc := 23) dX2_doesBadly_23 rfl (by first | rfl | exact z_isr_rf _) ?_
    refine gfX2_20 (pc := 24) rfl dX2_doesBadly_24 (hC.k12 hB) rfl ?_
    refine z_iconst_3 (pc := 27) dX2_doesBadly_27 ?_
    refine z_icmp_lt (pc := 28) (tgt := 47) dX2_doesBadly_28 (by decide) (fun hc => ?_) (fun hc => ?_)
    · refine z_iconst_0 (pc := 47) dX2_doesBadly_47 ?_
      refine z_zret (pc := 48) dX2_doesBadly_48 rfl (Or.inl rfl ) ( ⟨by rw [if_neg (fun q => Int32.not_le.mpr hc q.1)], rfl⟩)
    · refine z_iconst_3 (pc := 31) dX2_doesBadly_31 ?_
      refine z_iload_n (pc := 32) dX2_doesBadly_32 rfl ?_
      refine z_imul (pc := 33) dX2_doesBadly_33 ?_
      refine z_iconst_2 (pc := 34) dX2_doesBadly_34 ?_
      refine z_aload_n (pc := 35) dX2_doesBadly_35 rfl (by first | rfl | exact z_isr_rf _) ?_
      refine gfX2_20 (pc := 36) rfl dX2_doesBadly_36 (hC.k12 hB) rfl ?_
      refine z_imul (pc := 39) dX2_doesBadly_39 ?_
      refine z_icmp_ge (pc := 40) (tgt := 47) dX2_doesBadly_40 (by decide) (fun hd => ?_) (fun hd => ?_)
      · refine z_iconst_0 (pc := 47) dX2_doesBadly_47 ?_
        refine z_zret (pc := 48) dX2_doesBadly_48 rfl (Or.inl rfl ) ( ⟨by rw [if_neg (fun q => Int32.not_lt.mpr hd (by rw [hv]; exact q.2))], rfl⟩)
      · refine z_iconst_1 (pc := 43) dX2_doesBadly_43 ?_
        refine z_goto (pc := 44) (tgt := 48) dX2_doesBadly_44 (by decide) ?_
        refine z_zret (pc := 48) dX2_doesBadly_48 rfl (Or.inr rfl ) ( ⟨by rw [if_pos ⟨Int32.not_lt.mp hc, by rw [← hv]; exact Int32.not_le.mp hd⟩], rfl⟩)
  refine z_iload_n (pc := 0) dX2_doesBadly_0 rfl ?_
  refine z_if_eq (pc := 1) (tgt := 11) dX2_doesBadly_1 (by decide) (fun ho => ?_) (fun ho => ?_)
  · refine z_iconst_2 (pc := 11) dX2_doesBadly_11 ?_
    refine z_aload_n (pc := 12) dX2_doesBadly_12 rfl (by first | rfl | exact z_isr_rf _) ?_
    refine gfX2_20 (pc := 13) rfl dX2_doesBadly_13 (hC.k12 hB) rfl ?_
    refine z_imul (pc := 16) dX2_doesBadly_16 ?_
    refine z_aload_n (pc := 17) dX2_doesBadly_17 rfl (by first | rfl | exact z_isr_rf _) ?_
    refine gfX2_16 (pc := 18) rfl dX2_doesBadly_18 (hC.k12 hB) rfl ?_
    refine z_isub (pc := 21) dX2_doesBadly_21 ?_
    exact e _ (by rw [if_pos ho]) rfl
  · refine z_aload_n (pc := 4) dX2_doesBadly_4 rfl (by first | rfl | exact z_isr_rf _) ?_
    refine gfX2_16 (pc := 5) rfl dX2_doesBadly_5 (hC.k12 hB) rfl ?_
    refine z_goto (pc := 8) (tgt := 22) dX2_doesBadly_8 (by decide) ?_
    exact e _ (by rw [if_neg ho]) rfl
theorem z_pre (l i : Nat) : l % 4 ^ i + l / 4 ^ i % 4 * 4 ^ i = l % 4 ^ (i + 1) := by
  rw [Nat.pow_succ, Nat.mod_mul, Nat.mul_comm]
theorem z_up_B (hS : z_S N O B) {l i : Nat} : ∀ m, B (i + m) (l % 4 ^ (i + m)) = true → B i (l % 4 ^ i) = true
  | 0, h => h
  | m + 1, h => by
    have h1 := hS.2.2.2.2.2.2.2.2.2.2.2 (i + m) _ h
    rw [Nat.mod_mod_of_dvd _ (Nat.pow_dvd_pow 4 (show i + m ≤ i + (m + 1) by omega))] at h1
    exact z_up_B hS m h1
theorem iX0_find {QX} (hC : z_C G F A I N O B w) (hS : z_S N O B) {l n : Nat} (hl : l < 4 ^ n) (hl3 : l < 2 ^ 31) (h6 : n ≤ 6) : ∀ m i : Nat, n - i = m → i ≤ n → z_E G zX0_find 1 (z_mq G (z_rp (va_rf (if B n l then some (A 12 n l) else none)) w) QX) 8 [some (.ref (A 4 0 0)), some (.int (nI l)), some (.int (nI n)), some (va_rf (if B i (l % 4 ^ i) then some (A 12 i (l % 4 ^ i)) else none)), some (.int (nI i))] [] w 0 0 := by
  intro m
  induction m with
  | zero =>
    intro i hm hi
    have : i = n := by omega
    subst this
    rw [Nat.mod_eq_of_lt hl]
    refine z_iload (pc := 8) dX0_find_8 rfl ?_
    refine z_iload_n (pc := 10) dX0_find_10 rfl ?_
    refine z_icmp_ge (pc := 11) (tgt := 35) dX0_find_11 (by decide) (fun _ => ?_) (fun hn => absurd (nI_le (Nat.le_refl _) (by omega)) hn)
    refine z_aload_n (pc := 35) dX0_find_35 rfl (by first | rfl | exact z_isr_rf _) ?_
    refine z_aret (pc := 36) dX0_find_36 rfl (by first | rfl | exact z_isr_rf _) (⟨rfl, rfl⟩)
  | succ m ih =>
    intro i hm hi
    have hin : i < n := by omega
    by_cases hB : B i (l % 4 ^ i) = true
    · rw [if_pos hB]
      refine z_iload (pc := 8) dX0_find_8 rfl ?_
      refine z_iload_n (pc := 10) dX0_find_10 rfl ?_
      refine z_icmp_ge (pc := 11) (tgt := 35) dX0_find_11 (by decide) (fun hn => absurd hn (nI_ge hin (by omega))) (fun _ => ?_)
      refine z_aload_n (pc := 14) dX0_find_14 rfl (by first | rfl | exact z_isr_rf _) ?_
      refine z_ifnull (pc := 15) (tgt := 35) dX0_find_15 (by decide) (by first | rfl | exact z_isr_rf _) (fun hn => by cases hn) (fun _ _ => ?_)
      refine z_aload_n (pc := 18) dX0_find_18 rfl (by first | rfl | exact z_isr_rf _) ?_
      refine z_iload_n (pc := 19) dX0_find_19 rfl ?_
      refine z_iload (pc := 20) dX0_find_20 rfl ?_
      refine z_callSNp (pc := 22) (mX5_moveOfLine G w hl3 (show i < 7 by omega)) dX0_find_22 cwX0_65 okX5_moveOfLine rfl (by omega) rfl (Nat.le_of_ble_eq_true rfl) ?_
      refine z_callVp (pc := 25) (mX2_goingOnWith hC hB (Nat.mod_lt _ (by omega))) dX0_find_25 cwX0_58 okX2_goingOnWith rfl (hC.k12 hB) rfl rfl (by omega) rfl (Nat.le_of_ble_eq_true rfl) ?_
      rw [z_pre]
      refine z_astore3 (pc := 28) dX0_find_28 (by first | rfl | exact z_isr_rf _) ?_
      refine z_iinc4 (pc := 29) dX0_find_29 ?_
      refine z_goto (pc := 32) (tgt := 8) dX0_find_32 (by decide) ?_
      rw [nI_1]
      exact ih (i + 1) (by omega) (by omega)
    · rw [if_neg hB, if_neg (fun q => hB (z_up_B hS (i := i) (l := l) (n - i) (by rw [Nat.add_sub_cancel' (by omega), Nat.mod_eq_of_lt hl]; exact q)))]
      refine z_iload (pc := 8) dX0_find_8 rfl ?_
      refine z_iload_n (pc := 10) dX0_find_10 rfl ?_
      refine z_icmp_ge (pc := 11) (tgt := 35) dX0_find_11 (by decide) (fun hn => absurd hn (nI_ge hin (by omega))) (fun _ => ?_)
      refine z_aload_n (pc := 14) dX0_find_14 rfl (by first | rfl | exact z_isr_rf _) ?_
      refine z_ifnull (pc := 15) (tgt := 35) dX0_find_15 (by decide) (by first | rfl | exact z_isr_rf _) (fun _ => ?_) (fun _ hn => by cases hn)
      refine z_aload_n (pc := 35) dX0_find_35 rfl (by first | rfl | exact z_isr_rf _) ?_
      refine z_aret (pc := 36) dX0_find_36 rfl (by first | rfl | exact z_isr_rf _) (⟨rfl, rfl⟩)
theorem mX0_find (hC : z_C G F A I N O B w) (hS : z_S N O B) {l n : Nat} (hl : l < 4 ^ n) (hl3 : l < 2 ^ 31) (h6 : n ≤ 6) : z_M G zX0_find 1 [.ref (A 4 0 0), .int (nI l), .int (nI n)] w 0 0 (z_rp (va_rf (if B n l then some (A 12 n l) else none)) w) z_nx := by
  refine z_M.of (by decide +kernel) rfl (by intro v hv; simp only [List.mem_cons, List.not_mem_nil, or_false] at hv; rcases hv with rfl | rfl | rfl <;> first | rfl | exact z_isr_cat (z_isr_rf _)) (Nat.le_of_ble_eq_true rfl) ?_
  show z_E _ zX0_find _ _ 0 [some (.ref (A 4 0 0)), some (.int (nI l)), some (.int (nI n)), none, none] [] _ _ _
  refine z_aload_n (pc := 0) dX0_find_0 rfl (by first | rfl | exact z_isr_rf _) ?_
  refine gfX0_12 (pc := 1) rfl dX0_find_1 (hC.k4) rfl ?_
  refine z_astore3 (pc := 4) dX0_find_4 (by first | rfl | exact z_isr_rf _) ?_
  refine z_iconst_0 (pc := 5) dX0_find_5 ?_
  refine z_istore4 (pc := 6) dX0_find_6 ?_
  have := iX0_find (QX := z_nx) hC hS hl hl3 h6 _ 0 rfl (Nat.zero_le _)
  rw [Nat.pow_zero, Nat.mod_one, if_pos hS.2.2.2.2.2.2.2.2.2.1] at this
  exact this
/-- whether one of the first k beginnings is dropped -/
def z_hd (I : z_TI) (B : z_TB) (l : Nat) : Nat → Bool
  | 0 => false
  | k + 1 => z_hd I B l k || (B (k + 1) (l % 4 ^ (k + 1)) && decide (I 13 (k + 1) (l % 4 ^ (k + 1)) ≠ 0))
theorem z_hd_up {l : Nat} : ∀ {i n : Nat}, i ≤ n → z_hd I B l i = true → z_hd I B l n = true := by
  intro i n h
  induction h with
  | refl => exact id
  | step _ ih => intro q; unfold z_hd; rw [ih q]; rfl
theorem z_hd_no (hS : z_S N O B) {l i n : Nat} (hB : ¬ B i (l % 4 ^ i) = true) (h : z_hd I B l i = false) (hi : i ≤ n) : z_hd I B l n = false := by
  induction hi with
  | refl => exact h
  | @step m hm ih =>
    unfold z_hd
    rw [ih]
    have : B (m + 1) (l % 4 ^ (m + 1)) = false := by
      cases q : B (m + 1) (l % 4 ^ (m + 1)) with
      | false => rfl
      | true =>
        have hm' : i ≤ m := hm
        exact absurd (z_up_B hS (i := i) (l := l) (m + 1 - i) (by rw [Nat.add_sub_cancel' (by omega)]; exact q)) hB
    rw [this]; rfl
theorem iX0_holdsDropped {QX} (hC : z_C G F A I N O B w) (hS : z_S N O B) {l n : Nat} (hl3 : l < 2 ^ 31) (h6 : n ≤ 6) : ∀ m i : Nat, n - i = m → i ≤ n → z_hd I B l i = false → z_E G zX0_holdsDropped 1 (z_mq G (z_rp (.int (if z_hd I B l n then 1 else 0)) w) QX) 8 [some (.ref (A 4 0 0)), some (.int (nI l)), some (.int (nI n)), some (va_rf (if B i (l % 4 ^ i) then some (A 12 i (l % 4 ^ i)) else none)), some (.int (nI i))] [] w 0 0 := by
  intro m
  induction m with
  | zero =>
    intro i hm hi hh
    have : i = n := by omega
    subst this
    refine z_iload (pc := 8) dX0_holdsDropped_8 rfl ?_
    refine z_iload_n (pc := 10) dX0_holdsDropped_10 rfl ?_
    refine z_icmp_ge (pc := 11) (tgt := 48) dX0_holdsDropped_11 (by decide) (fun _ => ?_) (fun hn => absurd (nI_le (Nat.le_refl _) (by omega)) hn)
    refine z_iconst_0 (pc := 48) dX0_holdsDropped_48 ?_
    refine z_zret (pc := 49) dX0_holdsDropped_49 rfl (Or.inl rfl ) ( ⟨by rw [hh]; rfl, rfl⟩)
  | succ m ih =>
    intro i hm hi hh
    have hin : i < n := by omega
    by_cases hB : B i (l % 4 ^ i) = true
    · rw [if_pos hB]
      refine z_iload (pc := 8) dX0_holdsDropped_8 rfl ?_
      refine z_iload_n (pc := 10) dX0_holdsDropped_10 rfl ?_
      refine z_icmp_ge (pc := 11) (tgt := 48) dX0_holdsDropped_11 (by decide) (fun hn => absurd hn (nI_ge hin (by omega))) (fun _ => ?_)
      refine z_aload_n (pc := 14) dX0_holdsDropped_14 rfl (by first | rfl | exact z_isr_rf _) ?_
      refine z_ifnull (pc := 15) (tgt := 48) dX0_holdsDropped_15 (by decide) (by first | rfl | exact z_isr_rf _) (fun hn => by cases hn) (fun _ _ => ?_)
      refine z_aload_n (pc := 18) dX0_holdsDropped_18 rfl (by first | rfl | exact z_isr_rf _) ?_
      refine z_iload_n (pc := 19) dX0_holdsDropped_19 rfl ?_
      refine z_iload (pc := 20) dX0_holdsDropped_20 rfl ?_
      refine z_callSNp (pc := 22) (mX5_moveOfLine G w hl3 (show i < 7 by omega)) dX0_holdsDropped_22 cwX0_65 okX5_moveOfLine rfl (by omega) rfl (Nat.le_of_ble_eq_true rfl) ?_
      refine z_callVp (pc := 25) (mX2_goingOnWith hC hB (Nat.mod_lt _ (by omega))) dX0_holdsDropped_25 cwX0_58 okX2_goingOnWith rfl (hC.k12 hB) rfl rfl (by omega) rfl (Nat.le_of_ble_eq_true rfl) ?_
      rw [z_pre]
      refine z_astore3 (pc := 28) dX0_holdsDropped_28 (by first | rfl | exact z_isr_rf _) ?_
      refine z_aload_n (pc := 29) dX0_holdsDropped_29 rfl (by first | rfl | exact z_isr_rf _) ?_
      have ih2 := ih (i + 1) (by omega) (by omega)
      by_cases hB2 : B (i + 1) (l % 4 ^ (i + 1)) = true
      · rw [if_pos hB2] at ih2 ⊢
        refine z_ifnull (pc := 30) (tgt := 42) dX0_holdsDropped_30 (by decide) (by first | rfl | exact z_isr_rf _) (fun hn => by cases hn) (fun _ _ => ?_)
        refine z_aload_n (pc := 33) dX0_holdsDropped_33 rfl (by first | rfl | exact z_isr_rf _) ?_
        refine gfX0_45 (pc := 34) rfl dX0_holdsDropped_34 (hC.k12 hB2) rfl ?_
        refine z_if_eq (pc := 37) (tgt := 42) dX0_holdsDropped_37 (by decide) (fun hd => ?_) (fun hd => ?_)
        · refine z_iinc4 (pc := 42) dX0_holdsDropped_42 ?_
          refine z_goto (pc := 45) (tgt := 8) dX0_holdsDropped_45 (by decide) ?_
          rw [nI_1]
          exact ih2 (by unfold z_hd; rw [hh, decide_eq_false (by simpa using hd)]; simp)
        · refine z_iconst_1 (pc := 40) dX0_holdsDropped_40 ?_
          refine z_zret (pc := 41) dX0_holdsDropped_41 rfl (Or.inr rfl ) ( ⟨by rw [if_pos (z_hd_up (i := i + 1) (by omega) (by unfold z_hd; rw [hB2, decide_eq_true hd]; simp))], rfl⟩)
      · rw [if_neg hB2] at ih2 ⊢
        refine z_ifnull (pc := 30) (tgt := 42) dX0_holdsDropped_30 (by decide) (by first | rfl | exact z_isr_rf _) (fun _ => ?_) (fun _ hn => by cases hn)
        refine z_iinc4 (pc := 42) dX0_holdsDropped_42 ?_
        refine z_goto (pc := 45) (tgt := 8) dX0_holdsDropped_45 (by decide) ?_
        rw [nI_1]
        exact ih2 (by unfold z_hd; rw [hh, Bool.eq_false_iff.mpr hB2]; rfl)
    · rw [if_neg hB]
      refine z_iload (pc := 8) dX0_holdsDropped_8 rfl ?_
      refine z_iload_n (pc := 10) dX0_holdsDropped_10 rfl ?_
      refine z_icmp_ge (pc := 11) (tgt := 48) dX0_holdsDropped_11 (by decide) (fun hn => absurd hn (nI_ge hin (by omega))) (fun _ => ?_)
      refine z_aload_n (pc := 14) dX0_holdsDropped_14 rfl (by first | rfl | exact z_isr_rf _) ?_
      refine z_ifnull (pc := 15) (tgt := 48) dX0_holdsDropped_15 (by decide) (by first | rfl | exact z_isr_rf _) (fun _ => ?_) (fun _ hn => by cases hn)
      refine z_iconst_0 (pc := 48) dX0_holdsDropped_48 ?_
      refine z_zret (pc := 49) dX0_holdsDropped_49 rfl (Or.inl rfl ) ( ⟨by rw [z_hd_no hS hB hh (by omega)]; rfl, rfl⟩)
theorem mX0_holdsDropped (hC : z_C G F A I N O B w) (hS : z_S N O B) {l n : Nat} (hl3 : l < 2 ^ 31) (h6 : n ≤ 6) : z_M G zX0_holdsDropped 1 [.ref (A 4 0 0), .int (nI l), .int (nI n)] w 0 0 (z_rp (.int (if z_hd I B l n then 1 else 0)) w) z_nx := by
  refine z_M.of (by decide +kernel) rfl (by intro v hv; simp only [List.mem_cons, List.not_mem_nil, or_false] at hv; rcases hv with rfl | rfl | rfl <;> first | rfl | exact z_isr_cat (z_isr_rf _)) (Nat.le_of_ble_eq_true rfl) ?_
  show z_E _ zX0_holdsDropped _ _ 0 [some (.ref (A 4 0 0)), some (.int (nI l)), some (.int (nI n)), none, none] [] _ _ _
  refine z_aload_n (pc := 0) dX0_holdsDropped_0 rfl (by first | rfl | exact z_isr_rf _) ?_
  refine gfX0_12 (pc := 1) rfl dX0_holdsDropped_1 (hC.k4) rfl ?_
  refine z_astore3 (pc := 4) dX0_holdsDropped_4 (by first | rfl | exact z_isr_rf _) ?_
  refine z_iconst_0 (pc := 5) dX0_holdsDropped_5 ?_
  refine z_istore4 (pc := 6) dX0_holdsDropped_6 ?_
  have := iX0_holdsDropped (QX := z_nx) hC hS hl3 h6 _ 0 rfl (Nat.zero_le _) (l := l) rfl
  rw [Nat.pow_zero, Nat.mod_one, if_pos hS.2.2.2.2.2.2.2.2.2.1] at this
  exact this
end BK
end
section
/-! the class's calls that only ask -/
/-- throws: the first of the conditions that doesn't hold -/
def z_cx2 (E1 : String) (P1 : Prop) (E2 : String) (P2 : Prop) (w : z_W) : String → z_W → Prop := fun E' w' => w = w' ∧ ((E' = E1 ∧ ¬ P1) ∨ (E' = E2 ∧ P1 ∧ ¬ P2))
section ASK
variable {G : z_G} {F : Nat → Prop} {A : Nat → Nat → Nat → Nat} {I : z_TI} {N : z_TN} {O : z_TO} {B : z_TB} {w : z_W}
theorem mX5_knownPlayer (hC : z_C G F A I N O B w) (hS : z_S N O B) (x : Int32) : z_M G zX5_knownPlayer 6 [.ref (A 0 0 0), .int x] w 1 6 (fun v w' => w = w' ∧ ∃ p, p < N 6 0 ∧ x = nI p ∧ v = some (.ref (A 5 p 0))) (z_cx IOE (z_rg x (N 6 0)) w) := by
  have h8 : N 6 0 ≤ 8 := by rw [hS.1]; exact hS.2.2.2.1
  refine z_M.of (by decide +kernel) rfl (by intro v hv; simp only [List.mem_cons, List.not_mem_nil, or_false] at hv; rcases hv with rfl | rfl <;> first | rfl | exact z_isr_cat (z_isr_rf _)) (Nat.le_of_ble_eq_true rfl) ?_
  show z_E _ zX5_knownPlayer _ _ 0 [some (.ref (A 0 0 0)), some (.int x), none] [] _ _ _
  have e : ∀ {Z : z_Gq}, (Z = z_mq G (fun v w' => w = w' ∧ ∃ p, p < N 6 0 ∧ x = nI p ∧ v = some (.ref (A 5 p 0))) (z_cx IOE (z_rg x (N 6 0)) w)) → ¬ z_rg x (N 6 0) → z_E G zX5_knownPlayer 6 Z 23 [some (.ref (A 0 0 0)), some (.int x), none] [.null] w 1 6 := by
    intro Z hZ hn
    subst hZ
    refine z_astore2 (pc := 23) dX5_knownPlayer_23 (by first | rfl | exact z_isr_rf _) ?_
    refine z_aload_n (pc := 24) dX5_knownPlayer_24 rfl (by first | rfl | exact z_isr_rf _) ?_
    refine z_ifnonnull (pc := 25) (tgt := 38) dX5_knownPlayer_25 (by decide) (by first | rfl | exact z_isr_rf _) (fun _ hn => by cases hn) (fun _ => ?_)
    refine z_throw (pc := 28) rfl rfl th218 sr220 (by omega) (Nat.le_of_ble_eq_true rfl) (by omega) (by omega) dX5_knownPlayer_28 dX5_knownPlayer_31 dX5_knownPlayer_32 dX5_knownPlayer_34 dX5_knownPlayer_37 (⟨rfl, rfl, hn⟩)
  refine z_iload_n (pc := 0) dX5_knownPlayer_0 rfl ?_
  refine z_if_lt (pc := 1) (tgt := 22) dX5_knownPlayer_1 (by decide) (fun hc => ?_) (fun hc => ?_)
  · refine z_null (pc := 22) dX5_knownPlayer_22 ?_
    exact e rfl (z_rg_lt (by omega) hc)
  · obtain ⟨p, hp3, rfl⟩ := nI_of hc
    refine z_iload_n (pc := 4) dX5_knownPlayer_4 rfl ?_
    refine z_aload_n (pc := 5) dX5_knownPlayer_5 rfl (by first | rfl | exact z_isr_rf _) ?_
    refine gfX5_11 (pc := 6) rfl dX5_knownPlayer_6 (hC.k0) rfl ?_
    refine z_alen (pc := 9) dX5_knownPlayer_9 (hC.k1) rfl rfl ?_
    refine z_icmp_ge (pc := 10) (tgt := 22) dX5_knownPlayer_10 (by decide) (fun hd => ?_) (fun hd => ?_)
    · rw [nI_leI (by omega) hp3] at hd
      refine z_null (pc := 22) dX5_knownPlayer_22 ?_
      exact e rfl (fun ⟨j, h1, h2⟩ => by have := nI_inj hp3 (by omega) h2; omega)
    · rw [nI_leI (by omega) hp3] at hd
      refine z_aload_n (pc := 13) dX5_knownPlayer_13 rfl (by first | rfl | exact z_isr_rf _) ?_
      refine gfX5_11 (pc := 14) rfl dX5_knownPlayer_14 (hC.k0) rfl ?_
      refine z_iload_n (pc := 17) dX5_knownPlayer_17 rfl ?_
      refine z_aaldP (pc := 18) dX5_knownPlayer_18 (hC.k1) (vp_in_nI (by omega) (by omega)) ?_
      rw [nI_clamp hp3]
      by_cases hp : p < N 6 0
      · rw [if_pos hp]
        refine z_goto (pc := 19) (tgt := 23) dX5_knownPlayer_19 (by decide) ?_
        refine z_astore2 (pc := 23) dX5_knownPlayer_23 (by first | rfl | exact z_isr_rf _) ?_
        refine z_aload_n (pc := 24) dX5_knownPlayer_24 rfl (by first | rfl | exact z_isr_rf _) ?_
        refine z_ifnonnull (pc := 25) (tgt := 38) dX5_knownPlayer_25 (by decide) (by first | rfl | exact z_isr_rf _) (fun _ _ => ?_) (fun hn => by cases hn)
        refine z_aload_n (pc := 38) dX5_knownPlayer_38 rfl (by first | rfl | exact z_isr_rf _) ?_
        refine z_aret (pc := 39) dX5_knownPlayer_39 rfl (by first | rfl | exact z_isr_rf _) (⟨rfl, p, hp, rfl, rfl⟩)
      · rw [if_neg hp]
        refine z_goto (pc := 19) (tgt := 23) dX5_knownPlayer_19 (by decide) ?_
        exact e rfl (fun ⟨j, h1, h2⟩ => by have := nI_inj hp3 (by omega) h2; omega)
theorem mX5_knownPuzzle (hC : z_C G F A I N O B w) (hS : z_S N O B) (x : Int32) : z_M G zX5_knownPuzzle 6 [.ref (A 0 0 0), .int x] w 1 6 (fun v w' => w = w' ∧ ∃ p, p < N 8 0 ∧ x = nI p ∧ v = some (.ref (A 11 p 0))) (z_cx IOE (z_rg x (N 8 0)) w) := by
  have h8 : N 8 0 ≤ 40 := by rw [hS.2.2.1]; exact hS.2.2.2.2.2.1
  refine z_M.of (by decide +kernel) rfl (by intro v hv; simp only [List.mem_cons, List.not_mem_nil, or_false] at hv; rcases hv with rfl | rfl <;> first | rfl | exact z_isr_cat (z_isr_rf _)) (Nat.le_of_ble_eq_true rfl) ?_
  show z_E _ zX5_knownPuzzle _ _ 0 [some (.ref (A 0 0 0)), some (.int x), none] [] _ _ _
  have e : ∀ {Z : z_Gq}, (Z = z_mq G (fun v w' => w = w' ∧ ∃ p, p < N 8 0 ∧ x = nI p ∧ v = some (.ref (A 11 p 0))) (z_cx IOE (z_rg x (N 8 0)) w)) → ¬ z_rg x (N 8 0) → z_E G zX5_knownPuzzle 6 Z 23 [some (.ref (A 0 0 0)), some (.int x), none] [.null] w 1 6 := by
    intro Z hZ hn
    subst hZ
    refine z_astore2 (pc := 23) dX5_knownPuzzle_23 (by first | rfl | exact z_isr_rf _) ?_
    refine z_aload_n (pc := 24) dX5_knownPuzzle_24 rfl (by first | rfl | exact z_isr_rf _) ?_
    refine z_ifnonnull (pc := 25) (tgt := 38) dX5_knownPuzzle_25 (by decide) (by first | rfl | exact z_isr_rf _) (fun _ hn => by cases hn) (fun _ => ?_)
    refine z_throw (pc := 28) rfl rfl th218 sr223 (by omega) (Nat.le_of_ble_eq_true rfl) (by omega) (by omega) dX5_knownPuzzle_28 dX5_knownPuzzle_31 dX5_knownPuzzle_32 dX5_knownPuzzle_34 dX5_knownPuzzle_37 (⟨rfl, rfl, hn⟩)
  refine z_iload_n (pc := 0) dX5_knownPuzzle_0 rfl ?_
  refine z_if_lt (pc := 1) (tgt := 22) dX5_knownPuzzle_1 (by decide) (fun hc => ?_) (fun hc => ?_)
  · refine z_null (pc := 22) dX5_knownPuzzle_22 ?_
    exact e rfl (z_rg_lt (by omega) hc)
  · obtain ⟨p, hp3, rfl⟩ := nI_of hc
    refine z_iload_n (pc := 4) dX5_knownPuzzle_4 rfl ?_
    refine z_aload_n (pc := 5) dX5_knownPuzzle_5 rfl (by first | rfl | exact z_isr_rf _) ?_
    refine gfX5_23 (pc := 6) rfl dX5_knownPuzzle_6 (hC.k0) rfl ?_
    refine z_alen (pc := 9) dX5_knownPuzzle_9 (hC.k3) rfl rfl ?_
    refine z_icmp_ge (pc := 10) (tgt := 22) dX5_knownPuzzle_10 (by decide) (fun hd => ?_) (fun hd => ?_)
    · rw [nI_leI (by omega) hp3] at hd
      refine z_null (pc := 22) dX5_knownPuzzle_22 ?_
      exact e rfl (fun ⟨j, h1, h2⟩ => by have := nI_inj hp3 (by omega) h2; omega)
    · rw [nI_leI (by omega) hp3] at hd
      refine z_aload_n (pc := 13) dX5_knownPuzzle_13 rfl (by first | rfl | exact z_isr_rf _) ?_
      refine gfX5_23 (pc := 14) rfl dX5_knownPuzzle_14 (hC.k0) rfl ?_
      refine z_iload_n (pc := 17) dX5_knownPuzzle_17 rfl ?_
      refine z_aaldZ (pc := 18) dX5_knownPuzzle_18 (hC.k3) (vp_in_nI (by omega) (by omega)) ?_
      rw [nI_clamp hp3]
      by_cases hp : p < N 8 0
      · rw [if_pos hp]
        refine z_goto (pc := 19) (tgt := 23) dX5_knownPuzzle_19 (by decide) ?_
        refine z_astore2 (pc := 23) dX5_knownPuzzle_23 (by first | rfl | exact z_isr_rf _) ?_
        refine z_aload_n (pc := 24) dX5_knownPuzzle_24 rfl (by first | rfl | exact z_isr_rf _) ?_
        refine z_ifnonnull (pc := 25) (tgt := 38) dX5_knownPuzzle_25 (by decide) (by first | rfl | exact z_isr_rf _) (fun _ _ => ?_) (fun hn => by cases hn)
        refine z_aload_n (pc := 38) dX5_knownPuzzle_38 rfl (by first | rfl | exact z_isr_rf _) ?_
        refine z_aret (pc := 39) dX5_knownPuzzle_39 rfl (by first | rfl | exact z_isr_rf _) (⟨rfl, p, hp, rfl, rfl⟩)
      · rw [if_neg hp]
        refine z_goto (pc := 19) (tgt := 23) dX5_knownPuzzle_19 (by decide) ?_
        exact e rfl (fun ⟨j, h1, h2⟩ => by have := nI_inj hp3 (by omega) h2; omega)
theorem mX5_after (x y : Int32) : z_M G zX5_after 7 [.ref (A 0 0 0), .int x, .int y] w 2 12 (z_an (.int (nx x y)) (z_rg x 1000 ∧ z_rg y 4) w) (z_cx IAE (z_rg x 1000 ∧ z_rg y 4) w) := by
  refine z_M.of (by decide +kernel) rfl (by intro v hv; simp only [List.mem_cons, List.not_mem_nil, or_false] at hv; rcases hv with rfl | rfl | rfl <;> first | rfl | exact z_isr_cat (z_isr_rf _)) (Nat.le_of_ble_eq_true rfl) ?_
  show z_E _ zX5_after _ _ 0 [some (.ref (A 0 0 0)), some (.int x), some (.int y)] [] _ _ _
  refine z_iload_n (pc := 0) dX5_after_0 rfl ?_
  refine z_callS (pc := 1) (mX5_checkPosition G w x) dX5_after_1 cwX5_34 okX5_checkPosition rfl (by omega) rfl (Nat.le_of_ble_eq_true rfl) (by omega) (by omega) (fun E wN hN => z_Xout rfl (⟨hN.1, hN.2.1, fun h => hN.2.2 h.1⟩)) (fun v wN hN => ?_)
  obtain ⟨rfl, rfl, h1⟩ := hN
  refine z_iload_n (pc := 4) dX5_after_4 rfl ?_
  refine z_callS (pc := 5) (mX5_checkMove G w y) dX5_after_5 cwX5_38 okX5_checkMove rfl (by omega) rfl (Nat.le_of_ble_eq_true rfl) (by omega) (by omega) (fun E wN hN => z_Xout rfl (⟨hN.1, hN.2.1, fun h => hN.2.2 h.2⟩)) (fun v wN hN => ?_)
  obtain ⟨rfl, rfl, h2⟩ := hN
  refine z_iload_n (pc := 8) dX5_after_8 rfl ?_
  refine z_iload_n (pc := 9) dX5_after_9 rfl ?_
  refine z_callSp (pc := 10) (mX5_positionAfter G w x y) dX5_after_10 cwX5_41 okX5_positionAfter rfl (by omega) rfl (Nat.le_of_ble_eq_true rfl) ?_
  refine z_iret (pc := 13) dX5_after_13 rfl (⟨rfl, rfl, h1, h2⟩)
theorem mX5_worth (x : Int32) : z_M G zX5_worth 7 [.ref (A 0 0 0), .int x] w 2 12 (z_an (.int (wo x)) (z_rg x 1000) w) (z_cx IAE (z_rg x 1000) w) := by
  refine z_M.of (by decide +kernel) rfl (by intro v hv; simp only [List.mem_cons, List.not_mem_nil, or_false] at hv; rcases hv with rfl | rfl <;> first | rfl | exact z_isr_cat (z_isr_rf _)) (Nat.le_of_ble_eq_true rfl) ?_
  show z_E _ zX5_worth _ _ 0 [some (.ref (A 0 0 0)), some (.int x)] [] _ _ _
  refine z_iload_n (pc := 0) dX5_worth_0 rfl ?_
  refine z_callS (pc := 1) (mX5_checkPosition G w x) dX5_worth_1 cwX5_34 okX5_checkPosition rfl (by omega) rfl (Nat.le_of_ble_eq_true rfl) (by omega) (by omega) (fun E wN hN => z_Xout rfl (hN)) (fun v wN hN => ?_)
  obtain ⟨rfl, rfl, h1⟩ := hN
  refine z_iload_n (pc := 4) dX5_worth_4 rfl ?_
  refine z_callSp (pc := 5) (mX5_worthOf G w x) dX5_worth_5 cwX5_45 okX5_worthOf rfl (by omega) rfl (Nat.le_of_ble_eq_true rfl) ?_
  refine z_iret (pc := 8) dX5_worth_8 rfl (⟨rfl, rfl, h1⟩)
theorem mX5_best (x : Int32) : z_M G zX5_best 7 [.ref (A 0 0 0), .int x] w 2 12 (z_an (.int (bst x)) (z_rg x 1000) w) (z_cx IAE (z_rg x 1000) w) := by
  refine z_M.of (by decide +kernel) rfl (by intro v hv; simp only [List.mem_cons, List.not_mem_nil, or_false] at hv; rcases hv with rfl | rfl <;> first | rfl | exact z_isr_cat (z_isr_rf _)) (Nat.le_of_ble_eq_true rfl) ?_
  show z_E _ zX5_best _ _ 0 [some (.ref (A 0 0 0)), some (.int x)] [] _ _ _
  refine z_iload_n (pc := 0) dX5_best_0 rfl ?_
  refine z_callS (pc := 1) (mX5_checkPosition G w x) dX5_best_1 cwX5_34 okX5_checkPosition rfl (by omega) rfl (Nat.le_of_ble_eq_true rfl) (by omega) (by omega) (fun E wN hN => z_Xout rfl (hN)) (fun v wN hN => ?_)
  obtain ⟨rfl, rfl, h1⟩ := hN
  refine z_iload_n (pc := 4) dX5_best_4 rfl ?_
  refine z_callSp (pc := 5) (mX5_bestMove G w x) dX5_best_5 cwX5_49 okX5_bestMove rfl (by omega) rfl (Nat.le_of_ble_eq_true rfl) ?_
  refine z_iret (pc := 8) dX5_best_8 rfl (⟨rfl, rfl, h1⟩)
theorem mX5_position (hC : z_C G F A I N O B w) (hS : z_S N O B) : z_M G zX5_position 0 [.ref (A 0 0 0)] w 0 0 (z_rp (.int (match O 0 0 with | none => -1 | some g => I 6 g 0)) w) z_nx := by
  refine z_M.of (by decide +kernel) rfl (by intro v hv; simp only [List.mem_cons, List.not_mem_nil, or_false] at hv; rcases hv with rfl <;> first | rfl | exact z_isr_cat (z_isr_rf _)) (Nat.le_of_ble_eq_true rfl) ?_
  show z_E _ zX5_position _ _ 0 [some (.ref (A 0 0 0)), none] [] _ _ _
  have k0 := hC.k0
  have hO := hS.2.2.2.2.2.2.2.1
  cases hq : O 0 0 with
  | none =>
    rw [hq] at k0
    refine z_aload_n (pc := 0) dX5_position_0 rfl (by first | rfl | exact z_isr_rf _) ?_
    refine gfX5_74 (pc := 1) rfl dX5_position_1 (k0) rfl ?_
    refine z_astore1 (pc := 4) dX5_position_4 (by first | rfl | exact z_isr_rf _) ?_
    refine z_aload_n (pc := 5) dX5_position_5 rfl (by first | rfl | exact z_isr_rf _) ?_
    refine z_ifnonnull (pc := 6) (tgt := 13) dX5_position_6 (by decide) (by first | rfl | exact z_isr_rf _) (fun _ hn => by cases hn) (fun _ => ?_)
    refine z_iconst_m1 (pc := 9) dX5_position_9 ?_
    refine z_goto (pc := 10) (tgt := 17) dX5_position_10 (by decide) ?_
    refine z_iret (pc := 17) dX5_position_17 rfl (⟨rfl, rfl⟩)
  | some g =>
    rw [hq] at k0
    have hg : g < N 7 0 := by have := hO g hq; have := hS.2.1; omega
    refine z_aload_n (pc := 0) dX5_position_0 rfl (by first | rfl | exact z_isr_rf _) ?_
    refine gfX5_74 (pc := 1) rfl dX5_position_1 (k0) rfl ?_
    refine z_astore1 (pc := 4) dX5_position_4 (by first | rfl | exact z_isr_rf _) ?_
    refine z_aload_n (pc := 5) dX5_position_5 rfl (by first | rfl | exact z_isr_rf _) ?_
    refine z_ifnonnull (pc := 6) (tgt := 13) dX5_position_6 (by decide) (by first | rfl | exact z_isr_rf _) (fun _ _ => ?_) (fun hn => by cases hn)
    refine z_aload_n (pc := 13) dX5_position_13 rfl (by first | rfl | exact z_isr_rf _) ?_
    refine gfX5_96 (pc := 14) rfl dX5_position_14 (hC.k9 hg) rfl ?_
    refine z_iret (pc := 17) dX5_position_17 rfl (⟨rfl, rfl⟩)
theorem mX5_games (hC : z_C G F A I N O B w) : z_M G zX5_games 0 [.ref (A 0 0 0)] w 0 0 (z_rp (.int (match O 0 0 with | none => nI (N 1 0) | some _ => nI (N 1 0) - 1)) w) z_nx := by
  refine z_M.of (by decide +kernel) rfl (by intro v hv; simp only [List.mem_cons, List.not_mem_nil, or_false] at hv; rcases hv with rfl <;> first | rfl | exact z_isr_cat (z_isr_rf _)) (Nat.le_of_ble_eq_true rfl) ?_
  show z_E _ zX5_games _ _ 0 [some (.ref (A 0 0 0))] [] _ _ _
  have k0 := hC.k0
  cases hq : O 0 0 with
  | none =>
    rw [hq] at k0
    refine z_aload_n (pc := 0) dX5_games_0 rfl (by first | rfl | exact z_isr_rf _) ?_
    refine gfX5_74 (pc := 1) rfl dX5_games_1 (k0) rfl ?_
    refine z_ifnonnull (pc := 4) (tgt := 14) dX5_games_4 (by decide) (by first | rfl | exact z_isr_rf _) (fun _ hn => by cases hn) (fun _ => ?_)
    refine z_aload_n (pc := 7) dX5_games_7 rfl (by first | rfl | exact z_isr_rf _) ?_
    refine gfX5_80 (pc := 8) rfl dX5_games_8 (k0) rfl ?_
    refine z_goto (pc := 11) (tgt := 20) dX5_games_11 (by decide) ?_
    refine z_iret (pc := 20) dX5_games_20 rfl (⟨rfl, rfl⟩)
  | some g =>
    rw [hq] at k0
    refine z_aload_n (pc := 0) dX5_games_0 rfl (by first | rfl | exact z_isr_rf _) ?_
    refine gfX5_74 (pc := 1) rfl dX5_games_1 (k0) rfl ?_
    refine z_ifnonnull (pc := 4) (tgt := 14) dX5_games_4 (by decide) (by first | rfl | exact z_isr_rf _) (fun _ _ => ?_) (fun hn => by cases hn)
    refine z_aload_n (pc := 14) dX5_games_14 rfl (by first | rfl | exact z_isr_rf _) ?_
    refine gfX5_80 (pc := 15) rfl dX5_games_15 (k0) rfl ?_
    refine z_iconst_1 (pc := 18) dX5_games_18 ?_
    refine z_isub (pc := 19) dX5_games_19 ?_
    refine z_iret (pc := 20) dX5_games_20 rfl (⟨rfl, rfl⟩)
theorem mX5_score (hC : z_C G F A I N O B w) (hS : z_S N O B) (x : Int32) : z_M G zX5_score 7 [.ref (A 0 0 0), .int x] w 1 6 (fun v w' => w = w' ∧ ∃ p, p < N 6 0 ∧ x = nI p ∧ v = some (.int (I 2 p 0))) (z_cx IOE (z_rg x (N 6 0)) w) := by
  refine z_M.of (by decide +kernel) rfl (by intro v hv; simp only [List.mem_cons, List.not_mem_nil, or_false] at hv; rcases hv with rfl | rfl <;> first | rfl | exact z_isr_cat (z_isr_rf _)) (Nat.le_of_ble_eq_true rfl) ?_
  show z_E _ zX5_score _ _ 0 [some (.ref (A 0 0 0)), some (.int x)] [] _ _ _
  refine z_aload_n (pc := 0) dX5_score_0 rfl (by first | rfl | exact z_isr_rf _) ?_
  refine z_iload_n (pc := 1) dX5_score_1 rfl ?_
  refine z_callV (pc := 2) (mX5_knownPlayer hC hS x) dX5_score_2 cwX5_65 okX5_knownPlayer rfl (hC.k0) rfl rfl (by omega) rfl (Nat.le_of_ble_eq_true rfl) (by omega) (by omega) (fun E wN hN => z_Xout rfl (hN)) (fun v wN hN => ?_)
  obtain ⟨rfl, p, hp, rfl, rfl⟩ := hN
  refine gfX5_133 (pc := 5) rfl dX5_score_5 (hC.k5 hp) rfl ?_
  refine z_iret (pc := 8) dX5_score_8 rfl (⟨rfl, p, hp, rfl, rfl⟩)
theorem mX5_puzzles (hC : z_C G F A I N O B w) : z_M G zX5_puzzles 0 [.ref (A 0 0 0)] w 0 0 (z_rp (.int (nI (N 2 0))) w) z_nx := by
  refine z_M.of (by decide +kernel) rfl (by intro v hv; simp only [List.mem_cons, List.not_mem_nil, or_false] at hv; rcases hv with rfl <;> first | rfl | exact z_isr_cat (z_isr_rf _)) (Nat.le_of_ble_eq_true rfl) ?_
  show z_E _ zX5_puzzles _ _ 0 [some (.ref (A 0 0 0))] [] _ _ _
  refine z_aload_n (pc := 0) dX5_puzzles_0 rfl (by first | rfl | exact z_isr_rf _) ?_
  refine gfX5_136 (pc := 1) rfl dX5_puzzles_1 (hC.k0) rfl ?_
  refine z_iret (pc := 4) dX5_puzzles_4 rfl (⟨rfl, rfl⟩)
theorem mX5_puzzle (hC : z_C G F A I N O B w) (hS : z_S N O B) (x : Int32) : z_M G zX5_puzzle 7 [.ref (A 0 0 0), .int x] w 1 6 (fun v w' => w = w' ∧ ∃ p, p < N 8 0 ∧ x = nI p ∧ v = some (.int (I 9 p 0))) (z_cx IOE (z_rg x (N 8 0)) w) := by
  refine z_M.of (by decide +kernel) rfl (by intro v hv; simp only [List.mem_cons, List.not_mem_nil, or_false] at hv; rcases hv with rfl | rfl <;> first | rfl | exact z_isr_cat (z_isr_rf _)) (Nat.le_of_ble_eq_true rfl) ?_
  show z_E _ zX5_puzzle _ _ 0 [some (.ref (A 0 0 0)), some (.int x)] [] _ _ _
  refine z_aload_n (pc := 0) dX5_puzzle_0 rfl (by first | rfl | exact z_isr_rf _) ?_
  refine z_iload_n (pc := 1) dX5_puzzle_1 rfl ?_
  refine z_callV (pc := 2) (mX5_knownPuzzle hC hS x) dX5_puzzle_2 cwX5_139 okX5_knownPuzzle rfl (hC.k0) rfl rfl (by omega) rfl (Nat.le_of_ble_eq_true rfl) (by omega) (by omega) (fun E wN hN => z_Xout rfl (hN)) (fun v wN hN => ?_)
  obtain ⟨rfl, p, hp, rfl, rfl⟩ := hN
  refine gfX5_143 (pc := 5) rfl dX5_puzzle_5 (hC.k11 hp) rfl ?_
  refine z_iret (pc := 8) dX5_puzzle_8 rfl (⟨rfl, p, hp, rfl, rfl⟩)
theorem mX5_source (hC : z_C G F A I N O B w) (hS : z_S N O B) (x : Int32) : z_M G zX5_source 7 [.ref (A 0 0 0), .int x] w 1 6 (fun v w' => w = w' ∧ ∃ p, p < N 8 0 ∧ x = nI p ∧ v = some (.int (I 10 p 0))) (z_cx IOE (z_rg x (N 8 0)) w) := by
  refine z_M.of (by decide +kernel) rfl (by intro v hv; simp only [List.mem_cons, List.not_mem_nil, or_false] at hv; rcases hv with rfl | rfl <;> first | rfl | exact z_isr_cat (z_isr_rf _)) (Nat.le_of_ble_eq_true rfl) ?_
  show z_E _ zX5_source _ _ 0 [some (.ref (A 0 0 0)), some (.int x)] [] _ _ _
  refine z_aload_n (pc := 0) dX5_source_0 rfl (by first | rfl | exact z_isr_rf _) ?_
  refine z_iload_n (pc := 1) dX5_source_1 rfl ?_
  refine z_callV (pc := 2) (mX5_knownPuzzle hC hS x) dX5_source_2 cwX5_139 okX5_knownPuzzle rfl (hC.k0) rfl rfl (by omega) rfl (Nat.le_of_ble_eq_true rfl) (by omega) (by omega) (fun E wN hN => z_Xout rfl (hN)) (fun v wN hN => ?_)
  obtain ⟨rfl, p, hp, rfl, rfl⟩ := hN
  refine gfX5_146 (pc := 5) rfl dX5_source_5 (hC.k11 hp) rfl ?_
  refine z_iret (pc := 8) dX5_source_8 rfl (⟨rfl, p, hp, rfl, rfl⟩)
theorem mX5_rating (hC : z_C G F A I N O B w) (hS : z_S N O B) (x y : Int32) : z_M G zX5_rating 7 [.ref (A 0 0 0), .int x, .int y] w 2 12 (fun v w' => w = w' ∧ ∃ p t, p < N 6 0 ∧ x = nI p ∧ t < 5 ∧ y = nI t ∧ v = some (.int (I 3 p t))) (z_cx2 IOE (z_rg x (N 6 0)) IAE (z_rg y 5) w) := by
  refine z_M.of (by decide +kernel) rfl (by intro v hv; simp only [List.mem_cons, List.not_mem_nil, or_false] at hv; rcases hv with rfl | rfl | rfl <;> first | rfl | exact z_isr_cat (z_isr_rf _)) (Nat.le_of_ble_eq_true rfl) ?_
  show z_E _ zX5_rating _ _ 0 [some (.ref (A 0 0 0)), some (.int x), some (.int y), none] [] _ _ _
  refine z_aload_n (pc := 0) dX5_rating_0 rfl (by first | rfl | exact z_isr_rf _) ?_
  refine z_iload_n (pc := 1) dX5_rating_1 rfl ?_
  refine z_callV (pc := 2) (mX5_knownPlayer hC hS x) dX5_rating_2 cwX5_65 okX5_knownPlayer rfl (hC.k0) rfl rfl (by omega) rfl (Nat.le_of_ble_eq_true rfl) (by omega) (by omega) (fun E wN hN => z_Xout rfl (⟨hN.2.1, Or.inl ⟨hN.1, hN.2.2⟩⟩)) (fun v wN hN => ?_)
  obtain ⟨rfl, p, hp, rfl, rfl⟩ := hN
  have hr : z_rg (nI p) (N 6 0) := ⟨p, hp, rfl⟩
  refine z_astore3 (pc := 5) dX5_rating_5 (by first | rfl | exact z_isr_rf _) ?_
  refine z_iload_n (pc := 6) dX5_rating_6 rfl ?_
  refine z_if_lt (pc := 7) (tgt := 15) dX5_rating_7 (by decide) (fun hc => ?_) (fun hc => ?_)
  · refine z_throw (pc := 15) rfl rfl th69 sr168 (by omega) (Nat.le_of_ble_eq_true rfl) (by omega) (by omega) dX5_rating_15 dX5_rating_18 dX5_rating_19 dX5_rating_21 dX5_rating_24 (⟨rfl, Or.inr ⟨rfl, hr, z_rg_lt (by decide) hc⟩⟩)
  · refine z_iload_n (pc := 10) dX5_rating_10 rfl ?_
    refine z_iconst_5 (pc := 11) dX5_rating_11 ?_
    refine z_icmp_lt (pc := 12) (tgt := 25) dX5_rating_12 (by decide) (fun hd => ?_) (fun hd => ?_)
    · obtain ⟨t, ht, rfl⟩ := z_rg_in' (n := 5) (by decide) hc hd
      refine z_aload_n (pc := 25) dX5_rating_25 rfl (by first | rfl | exact z_isr_rf _) ?_
      refine z_iload_n (pc := 26) dX5_rating_26 rfl ?_
      refine z_callVp (pc := 27) (mX3_ratingIn hC hp ht) dX5_rating_27 cwX5_170 okX3_ratingIn rfl (hC.k5 hp) rfl rfl (by omega) rfl (Nat.le_of_ble_eq_true rfl) ?_
      refine z_iret (pc := 30) dX5_rating_30 rfl (⟨rfl, p, t, hp, rfl, ht, rfl, rfl⟩)
    · refine z_throw (pc := 15) rfl rfl th69 sr168 (by omega) (Nat.le_of_ble_eq_true rfl) (by omega) (by omega) dX5_rating_15 dX5_rating_18 dX5_rating_19 dX5_rating_21 dX5_rating_24 (⟨rfl, Or.inr ⟨rfl, hr, z_rg_ge (by decide) (Int32.not_lt.mp hd)⟩⟩)
theorem mX5_results (hC : z_C G F A I N O B w) (hS : z_S N O B) (x y : Int32) : z_M G zX5_results 7 [.ref (A 0 0 0), .int x, .int y] w 1 6 (fun v w' => w = w' ∧ ∃ l n : Nat, 1 ≤ n ∧ n ≤ 6 ∧ l < 4 ^ n ∧ x = nI l ∧ y = nI n ∧ v = some (.int (if B n l then I 11 n l else 0))) (z_cx IAE (z_ln x y) w) := by
  refine z_M.of (by decide +kernel) rfl (by intro v hv; simp only [List.mem_cons, List.not_mem_nil, or_false] at hv; rcases hv with rfl | rfl | rfl <;> first | rfl | exact z_isr_cat (z_isr_rf _)) (Nat.le_of_ble_eq_true rfl) ?_
  show z_E _ zX5_results _ _ 0 [some (.ref (A 0 0 0)), some (.int x), some (.int y), none] [] _ _ _
  refine z_iload_n (pc := 0) dX5_results_0 rfl ?_
  refine z_iload_n (pc := 1) dX5_results_1 rfl ?_
  refine z_callS (pc := 2) (mX5_checkLine G w x y) dX5_results_2 cwX5_173 okX5_checkLine rfl (by omega) rfl (Nat.le_of_ble_eq_true rfl) (by omega) (by omega) (fun E wN hN => z_Xout rfl (hN)) (fun v wN hN => ?_)
  obtain ⟨rfl, rfl, l, n, h1, h6, hl, rfl, rfl⟩ := hN
  refine z_aload_n (pc := 5) dX5_results_5 rfl (by first | rfl | exact z_isr_rf _) ?_
  refine gfX5_30 (pc := 6) rfl dX5_results_6 (hC.k0) rfl ?_
  refine z_iload_n (pc := 9) dX5_results_9 rfl ?_
  refine z_iload_n (pc := 10) dX5_results_10 rfl ?_
  refine z_callVp (pc := 11) (mX0_find hC hS hl (Nat.lt_trans hl (z_p4 n (by omega))) h6) dX5_results_11 cwX5_177 okX0_find rfl (hC.k4) rfl rfl (by omega) rfl (Nat.le_of_ble_eq_true rfl) ?_
  by_cases hB : B n l = true
  · rw [if_pos hB]
    refine z_astore3 (pc := 14) dX5_results_14 (by first | rfl | exact z_isr_rf _) ?_
    refine z_aload_n (pc := 15) dX5_results_15 rfl (by first | rfl | exact z_isr_rf _) ?_
    refine z_ifnonnull (pc := 16) (tgt := 23) dX5_results_16 (by decide) (by first | rfl | exact z_isr_rf _) (fun _ _ => ?_) (fun hn => by cases hn)
    refine z_aload_n (pc := 23) dX5_results_23 rfl (by first | rfl | exact z_isr_rf _) ?_
    refine gfX5_181 (pc := 24) rfl dX5_results_24 (hC.k12 hB) rfl ?_
    refine z_iret (pc := 27) dX5_results_27 rfl (⟨rfl, l, n, h1, h6, hl, rfl, rfl, by rw [if_pos hB]⟩)
  · rw [if_neg hB]
    refine z_astore3 (pc := 14) dX5_results_14 (by first | rfl | exact z_isr_rf _) ?_
    refine z_aload_n (pc := 15) dX5_results_15 rfl (by first | rfl | exact z_isr_rf _) ?_
    refine z_ifnonnull (pc := 16) (tgt := 23) dX5_results_16 (by decide) (by first | rfl | exact z_isr_rf _) (fun _ hn => by cases hn) (fun _ => ?_)
    refine z_iconst_0 (pc := 19) dX5_results_19 ?_
    refine z_goto (pc := 20) (tgt := 27) dX5_results_20 (by decide) ?_
    refine z_iret (pc := 27) dX5_results_27 rfl (⟨rfl, l, n, h1, h6, hl, rfl, rfl, by rw [if_neg hB]⟩)
theorem mX5_points (hC : z_C G F A I N O B w) (hS : z_S N O B) (x y : Int32) : z_M G zX5_points 7 [.ref (A 0 0 0), .int x, .int y] w 1 6 (fun v w' => w = w' ∧ ∃ l n : Nat, 1 ≤ n ∧ n ≤ 6 ∧ l < 4 ^ n ∧ x = nI l ∧ y = nI n ∧ v = some (.int (if B n l then I 12 n l else 0))) (z_cx IAE (z_ln x y) w) := by
  refine z_M.of (by decide +kernel) rfl (by intro v hv; simp only [List.mem_cons, List.not_mem_nil, or_false] at hv; rcases hv with rfl | rfl | rfl <;> first | rfl | exact z_isr_cat (z_isr_rf _)) (Nat.le_of_ble_eq_true rfl) ?_
  show z_E _ zX5_points _ _ 0 [some (.ref (A 0 0 0)), some (.int x), some (.int y), none] [] _ _ _
  refine z_iload_n (pc := 0) dX5_points_0 rfl ?_
  refine z_iload_n (pc := 1) dX5_points_1 rfl ?_
  refine z_callS (pc := 2) (mX5_checkLine G w x y) dX5_points_2 cwX5_173 okX5_checkLine rfl (by omega) rfl (Nat.le_of_ble_eq_true rfl) (by omega) (by omega) (fun E wN hN => z_Xout rfl (hN)) (fun v wN hN => ?_)
  obtain ⟨rfl, rfl, l, n, h1, h6, hl, rfl, rfl⟩ := hN
  refine z_aload_n (pc := 5) dX5_points_5 rfl (by first | rfl | exact z_isr_rf _) ?_
  refine gfX5_30 (pc := 6) rfl dX5_points_6 (hC.k0) rfl ?_
  refine z_iload_n (pc := 9) dX5_points_9 rfl ?_
  refine z_iload_n (pc := 10) dX5_points_10 rfl ?_
  refine z_callVp (pc := 11) (mX0_find hC hS hl (Nat.lt_trans hl (z_p4 n (by omega))) h6) dX5_points_11 cwX5_177 okX0_find rfl (hC.k4) rfl rfl (by omega) rfl (Nat.le_of_ble_eq_true rfl) ?_
  by_cases hB : B n l = true
  · rw [if_pos hB]
    refine z_astore3 (pc := 14) dX5_points_14 (by first | rfl | exact z_isr_rf _) ?_
    refine z_aload_n (pc := 15) dX5_points_15 rfl (by first | rfl | exact z_isr_rf _) ?_
    refine z_ifnonnull (pc := 16) (tgt := 23) dX5_points_16 (by decide) (by first | rfl | exact z_isr_rf _) (fun _ _ => ?_) (fun hn => by cases hn)
    refine z_aload_n (pc := 23) dX5_points_23 rfl (by first | rfl | exact z_isr_rf _) ?_
    refine gfX5_186 (pc := 24) rfl dX5_points_24 (hC.k12 hB) rfl ?_
    refine z_iret (pc := 27) dX5_points_27 rfl (⟨rfl, l, n, h1, h6, hl, rfl, rfl, by rw [if_pos hB]⟩)
  · rw [if_neg hB]
    refine z_astore3 (pc := 14) dX5_points_14 (by first | rfl | exact z_isr_rf _) ?_
    refine z_aload_n (pc := 15) dX5_points_15 rfl (by first | rfl | exact z_isr_rf _) ?_
    refine z_ifnonnull (pc := 16) (tgt := 23) dX5_points_16 (by decide) (by first | rfl | exact z_isr_rf _) (fun _ hn => by cases hn) (fun _ => ?_)
    refine z_iconst_0 (pc := 19) dX5_points_19 ?_
    refine z_goto (pc := 20) (tgt := 27) dX5_points_20 (by decide) ?_
    refine z_iret (pc := 27) dX5_points_27 rfl (⟨rfl, l, n, h1, h6, hl, rfl, rfl, by rw [if_neg hB]⟩)
theorem mX5_isDropped (hC : z_C G F A I N O B w) (hS : z_S N O B) (x y : Int32) : z_M G zX5_isDropped 7 [.ref (A 0 0 0), .int x, .int y] w 1 6 (fun v w' => w = w' ∧ ∃ l n : Nat, 1 ≤ n ∧ n ≤ 6 ∧ l < 4 ^ n ∧ x = nI l ∧ y = nI n ∧ v = some (.int (if z_hd I B l n then 1 else 0))) (z_cx IAE (z_ln x y) w) := by
  refine z_M.of (by decide +kernel) rfl (by intro v hv; simp only [List.mem_cons, List.not_mem_nil, or_false] at hv; rcases hv with rfl | rfl | rfl <;> first | rfl | exact z_isr_cat (z_isr_rf _)) (Nat.le_of_ble_eq_true rfl) ?_
  show z_E _ zX5_isDropped _ _ 0 [some (.ref (A 0 0 0)), some (.int x), some (.int y)] [] _ _ _
  refine z_iload_n (pc := 0) dX5_isDropped_0 rfl ?_
  refine z_iload_n (pc := 1) dX5_isDropped_1 rfl ?_
  refine z_callS (pc := 2) (mX5_checkLine G w x y) dX5_isDropped_2 cwX5_173 okX5_checkLine rfl (by omega) rfl (Nat.le_of_ble_eq_true rfl) (by omega) (by omega) (fun E wN hN => z_Xout rfl (hN)) (fun v wN hN => ?_)
  obtain ⟨rfl, rfl, l, n, h1, h6, hl, rfl, rfl⟩ := hN
  refine z_aload_n (pc := 5) dX5_isDropped_5 rfl (by first | rfl | exact z_isr_rf _) ?_
  refine gfX5_30 (pc := 6) rfl dX5_isDropped_6 (hC.k0) rfl ?_
  refine z_iload_n (pc := 9) dX5_isDropped_9 rfl ?_
  refine z_iload_n (pc := 10) dX5_isDropped_10 rfl ?_
  refine z_callVp (pc := 11) (mX0_holdsDropped hC hS (l := l) (Nat.lt_trans hl (z_p4 n (by omega))) h6) dX5_isDropped_11 cwX5_189 okX0_holdsDropped rfl (hC.k4) rfl rfl (by omega) rfl (Nat.le_of_ble_eq_true rfl) ?_
  refine z_zret (pc := 14) dX5_isDropped_14 rfl (z_10 _ ) ( ⟨rfl, l, n, h1, h6, hl, rfl, rfl, rfl⟩)
theorem mX5_mean (hC : z_C G F A I N O B w) (hS : z_S N O B) (x y : Int32) (hfl : ∀ n l, B n l = true → I 11 n l ≠ 0 → vf_n32 (FP.fdiv (FP.i2f (I 12 n l)) (FP.i2f (I 11 n l)))) : z_M G zX5_mean 7 [.ref (A 0 0 0), .int x, .int y] w 1 6 (fun v w' => w = w' ∧ ∃ l n : Nat, 1 ≤ n ∧ n ≤ 6 ∧ l < 4 ^ n ∧ x = nI l ∧ y = nI n ∧ v = some (.float (if B n l = true ∧ I 11 n l ≠ 0 then FP.fdiv (FP.i2f (I 12 n l)) (FP.i2f (I 11 n l)) else FP.fconst0))) (z_cx IAE (z_ln x y) w) := by
  refine z_M.of (by decide +kernel) rfl (by intro v hv; simp only [List.mem_cons, List.not_mem_nil, or_false] at hv; rcases hv with rfl | rfl | rfl <;> first | rfl | exact z_isr_cat (z_isr_rf _)) (Nat.le_of_ble_eq_true rfl) ?_
  show z_E _ zX5_mean _ _ 0 [some (.ref (A 0 0 0)), some (.int x), some (.int y), none] [] _ _ _
  refine z_iload_n (pc := 0) dX5_mean_0 rfl ?_
  refine z_iload_n (pc := 1) dX5_mean_1 rfl ?_
  refine z_callS (pc := 2) (mX5_checkLine G w x y) dX5_mean_2 cwX5_173 okX5_checkLine rfl (by omega) rfl (Nat.le_of_ble_eq_true rfl) (by omega) (by omega) (fun E wN hN => z_Xout rfl (hN)) (fun v wN hN => ?_)
  obtain ⟨rfl, rfl, l, n, h1, h6, hl, rfl, rfl⟩ := hN
  refine z_aload_n (pc := 5) dX5_mean_5 rfl (by first | rfl | exact z_isr_rf _) ?_
  refine gfX5_30 (pc := 6) rfl dX5_mean_6 (hC.k0) rfl ?_
  refine z_iload_n (pc := 9) dX5_mean_9 rfl ?_
  refine z_iload_n (pc := 10) dX5_mean_10 rfl ?_
  refine z_callVp (pc := 11) (mX0_find hC hS hl (Nat.lt_trans hl (z_p4 n (by omega))) h6) dX5_mean_11 cwX5_177 okX0_find rfl (hC.k4) rfl rfl (by omega) rfl (Nat.le_of_ble_eq_true rfl) ?_
  by_cases hB : B n l = true
  · rw [if_pos hB]
    refine z_astore3 (pc := 14) dX5_mean_14 (by first | rfl | exact z_isr_rf _) ?_
    refine z_aload_n (pc := 15) dX5_mean_15 rfl (by first | rfl | exact z_isr_rf _) ?_
    refine z_ifnull (pc := 16) (tgt := 26) dX5_mean_16 (by decide) (by first | rfl | exact z_isr_rf _) (fun hn => by cases hn) (fun _ _ => ?_)
    refine z_aload_n (pc := 19) dX5_mean_19 rfl (by first | rfl | exact z_isr_rf _) ?_
    refine gfX5_181 (pc := 20) rfl dX5_mean_20 (hC.k12 hB) rfl ?_
    refine z_if_ne (pc := 23) (tgt := 28) dX5_mean_23 (by decide) (fun hc => ?_) (fun hc => ?_)
    · refine z_aload_n (pc := 28) dX5_mean_28 rfl (by first | rfl | exact z_isr_rf _) ?_
      refine gfX5_186 (pc := 29) rfl dX5_mean_29 (hC.k12 hB) rfl ?_
      refine z_i2f (pc := 32) dX5_mean_32 ?_
      refine z_aload_n (pc := 33) dX5_mean_33 rfl (by first | rfl | exact z_isr_rf _) ?_
      refine gfX5_181 (pc := 34) rfl dX5_mean_34 (hC.k12 hB) rfl ?_
      refine z_i2f (pc := 37) dX5_mean_37 ?_
      refine z_fdiv (pc := 38) dX5_mean_38 (hfl n l hB hc) ?_
      refine z_fret (pc := 39) dX5_mean_39 rfl (⟨rfl, l, n, h1, h6, hl, rfl, rfl, by rw [if_pos ⟨hB, hc⟩]⟩)
    · refine z_fconst0 (pc := 26) dX5_mean_26 ?_
      refine z_fret (pc := 27) dX5_mean_27 rfl (⟨rfl, l, n, h1, h6, hl, rfl, rfl, by rw [if_neg (fun q => q.2 hc)]⟩)
  · rw [if_neg hB]
    refine z_astore3 (pc := 14) dX5_mean_14 (by first | rfl | exact z_isr_rf _) ?_
    refine z_aload_n (pc := 15) dX5_mean_15 rfl (by first | rfl | exact z_isr_rf _) ?_
    refine z_ifnull (pc := 16) (tgt := 26) dX5_mean_16 (by decide) (by first | rfl | exact z_isr_rf _) (fun _ => ?_) (fun _ hn => by cases hn)
    refine z_fconst0 (pc := 26) dX5_mean_26 ?_
    refine z_fret (pc := 27) dX5_mean_27 rfl (⟨rfl, l, n, h1, h6, hl, rfl, rfl, by rw [if_neg (fun q => hB q.1)]⟩)
end ASK
end
section
/-! loops over puzzles and games -/
section LP
variable {G : z_G} {F : Nat → Prop} {A : Nat → Nat → Nat → Nat} {I : z_TI} {N : z_TN} {O : z_TO} {B : z_TB} {w : z_W}
theorem iX5_hasPuzzleFor {QX} (hC : z_C G F A I N O B w) {x : Int32} [Decidable (∃ z, z < N 8 0 ∧ I 9 z 0 = x)] (h40 : N 8 0 ≤ 40) : ∀ m i : Nat, 40 - i = m → i ≤ 40 → (∀ z, z < i → z < N 8 0 → I 9 z 0 ≠ x) → ∀ x5, z_E G zX5_hasPuzzleFor 0 (z_mq G (z_rp (.int (if ∃ z, z < N 8 0 ∧ I 9 z 0 = x then 1 else 0)) w) QX) 11 [some (.ref (A 0 0 0)), some (.int x), some (.ref (A 3 0 0)), some (.int (nI 40)), some (.int (nI i)), x5] [] w 0 0 := by
  intro m
  induction m with
  | zero =>
    intro i hm hi hh x5
    have : i = 40 := by omega
    subst this
    refine z_iload (pc := 11) dX5_hasPuzzleFor_11 rfl ?_
    refine z_iload_n (pc := 13) dX5_hasPuzzleFor_13 rfl ?_
    refine z_icmp_ge (pc := 14) (tgt := 45) dX5_hasPuzzleFor_14 (by decide) (fun _ => ?_) (fun hn => absurd (nI_le (Nat.le_refl _) (by omega)) hn)
    refine z_iconst_0 (pc := 45) dX5_hasPuzzleFor_45 ?_
    refine z_zret (pc := 46) dX5_hasPuzzleFor_46 rfl (Or.inl rfl ) ( ⟨by rw [if_neg]; rintro ⟨z, h1, h2⟩; exact hh z (by omega) h1 h2, rfl⟩)
  | succ m ih =>
    intro i hm hi hh x5
    have hin : i < 40 := by omega
    have hi3 : i < 2 ^ 31 := by omega
    refine z_iload (pc := 11) dX5_hasPuzzleFor_11 rfl ?_
    refine z_iload_n (pc := 13) dX5_hasPuzzleFor_13 rfl ?_
    refine z_icmp_ge (pc := 14) (tgt := 45) dX5_hasPuzzleFor_14 (by decide) (fun hn => absurd hn (nI_ge hin (by omega))) (fun _ => ?_)
    refine z_aload_n (pc := 17) dX5_hasPuzzleFor_17 rfl (by first | rfl | exact z_isr_rf _) ?_
    refine z_iload (pc := 18) dX5_hasPuzzleFor_18 rfl ?_
    refine z_aaldZ (pc := 20) dX5_hasPuzzleFor_20 (hC.k3) (vp_in_nI hin (by omega)) ?_
    rw [nI_clamp hi3]
    by_cases hz : i < N 8 0
    · rw [if_pos hz]
      refine z_astore5 (pc := 21) dX5_hasPuzzleFor_21 (by first | rfl | exact z_isr_rf _) ?_
      refine z_aload (pc := 23) dX5_hasPuzzleFor_23 rfl (by first | rfl | exact z_isr_rf _) ?_
      refine z_ifnull (pc := 25) (tgt := 39) dX5_hasPuzzleFor_25 (by decide) (by first | rfl | exact z_isr_rf _) (fun hn => by cases hn) (fun _ _ => ?_)
      refine z_aload (pc := 28) dX5_hasPuzzleFor_28 rfl (by first | rfl | exact z_isr_rf _) ?_
      refine gfX5_143 (pc := 30) rfl dX5_hasPuzzleFor_30 (hC.k11 hz) rfl ?_
      refine z_iload_n (pc := 33) dX5_hasPuzzleFor_33 rfl ?_
      refine z_icmp_ne (pc := 34) (tgt := 39) dX5_hasPuzzleFor_34 (by decide) (fun hc => ?_) (fun hc => ?_)
      · refine z_iinc4 (pc := 39) dX5_hasPuzzleFor_39 ?_
        refine z_goto (pc := 42) (tgt := 11) dX5_hasPuzzleFor_42 (by decide) ?_
        rw [nI_1]
        exact ih (i + 1) (by omega) (by omega) (fun z h1 h2 => by
          rcases Nat.lt_succ_iff_lt_or_eq.mp h1 with q | q
          · exact hh z q h2
          · rw [q]; exact hc) _
      · refine z_iconst_1 (pc := 37) dX5_hasPuzzleFor_37 ?_
        refine z_zret (pc := 38) dX5_hasPuzzleFor_38 rfl (Or.inr rfl ) ( ⟨by rw [if_pos ⟨i, hz, hc⟩], rfl⟩)
    · rw [if_neg hz]
      refine z_astore5 (pc := 21) dX5_hasPuzzleFor_21 (by first | rfl | exact z_isr_rf _) ?_
      refine z_aload (pc := 23) dX5_hasPuzzleFor_23 rfl (by first | rfl | exact z_isr_rf _) ?_
      refine z_ifnull (pc := 25) (tgt := 39) dX5_hasPuzzleFor_25 (by decide) (by first | rfl | exact z_isr_rf _) (fun _ => ?_) (fun _ hn => by cases hn)
      refine z_iinc4 (pc := 39) dX5_hasPuzzleFor_39 ?_
      refine z_goto (pc := 42) (tgt := 11) dX5_hasPuzzleFor_42 (by decide) ?_
      rw [nI_1]
      exact ih (i + 1) (by omega) (by omega) (fun z h1 h2 => by
        rcases Nat.lt_succ_iff_lt_or_eq.mp h1 with q | q
        · exact hh z q h2
        · rw [q] at h2; exact absurd h2 hz) _
theorem mX5_hasPuzzleFor (hC : z_C G F A I N O B w) {x : Int32} [Decidable (∃ z, z < N 8 0 ∧ I 9 z 0 = x)] (h40 : N 8 0 ≤ 40) : z_M G zX5_hasPuzzleFor 0 [.ref (A 0 0 0), .int x] w 0 0 (z_rp (.int (if ∃ z, z < N 8 0 ∧ I 9 z 0 = x then 1 else 0)) w) z_nx := by
  refine z_M.of (by decide +kernel) rfl (by intro v hv; simp only [List.mem_cons, List.not_mem_nil, or_false] at hv; rcases hv with rfl | rfl <;> first | rfl | exact z_isr_cat (z_isr_rf _)) (Nat.le_of_ble_eq_true rfl) ?_
  show z_E _ zX5_hasPuzzleFor _ _ 0 [some (.ref (A 0 0 0)), some (.int x), none, none, none, none] [] _ _ _
  refine z_aload_n (pc := 0) dX5_hasPuzzleFor_0 rfl (by first | rfl | exact z_isr_rf _) ?_
  refine gfX5_23 (pc := 1) rfl dX5_hasPuzzleFor_1 (hC.k0) rfl ?_
  refine z_astore2 (pc := 4) dX5_hasPuzzleFor_4 (by first | rfl | exact z_isr_rf _) ?_
  refine z_aload_n (pc := 5) dX5_hasPuzzleFor_5 rfl (by first | rfl | exact z_isr_rf _) ?_
  refine z_alen (pc := 6) dX5_hasPuzzleFor_6 (hC.k3) rfl rfl ?_
  refine z_istore3 (pc := 7) dX5_hasPuzzleFor_7 ?_
  refine z_iconst_0 (pc := 8) dX5_hasPuzzleFor_8 ?_
  refine z_istore4 (pc := 9) dX5_hasPuzzleFor_9 ?_
  exact iX5_hasPuzzleFor hC h40 _ 0 rfl (by omega) (fun _ h => absurd h (Nat.not_lt_zero _)) _
/-- the theme of a puzzle -/
def z_th (I : z_TI) (z : Nat) : Nat := (I 9 z 0).toNatClampNeg % 5
/-- the puzzle offered among the first k -/
def z_of (I : z_TI) (p nz : Nat) : Nat → Option Nat
  | 0 => none
  | k + 1 => if k < nz ∧ I 4 p k = 0 ∧ (∀ f, z_of I p nz k = some f → I 3 p (z_th I k) < I 3 p (z_th I f) ∨ (I 3 p (z_th I k) = I 3 p (z_th I f) ∧ z_th I k < z_th I f)) then some k else z_of I p nz k
theorem z_of_lt {p nz : Nat} : ∀ {k f : Nat}, z_of I p nz k = some f → f < k ∧ f < nz
  | 0, f, h => by simp [z_of] at h
  | k + 1, f, h => by
    unfold z_of at h
    split at h
    · rename_i q
      cases h
      exact ⟨Nat.lt_succ_self _, q.1⟩
    · have := z_of_lt h
      omega
def z_fi (o : Option Nat) : Int32 := match o with | none => -1 | some f => nI f
def z_ft (I : z_TI) (o : Option Nat) : Int32 := match o with | none => 0 | some f => nI (z_th I f)
theorem iX5_offered {QX} (hC : z_C G F A I N O B w) (hT : ∀ z, z < N 8 0 → I 9 z 0 - I 9 z 0 / 5 * 5 = nI (z_th I z)) {p : Nat} (hp : p < N 6 0) (h40 : N 8 0 ≤ 40) {x1 : Value} : ∀ m i : Nat, 40 - i = m → i ≤ 40 → ∀ x6, z_E G zX5_offered 7 (z_mq G (fun v w' => w = w' ∧ ∃ q, q < N 6 0 ∧ nI p = nI q ∧ v = some (.int (z_fi (z_of I q (N 8 0) 40)))) QX) 14 [some (.ref (A 0 0 0)), some x1, some (.ref (A 5 p 0)), some (.int (z_fi (z_of I p (N 8 0) i))), some (.int (z_ft I (z_of I p (N 8 0) i))), some (.int (nI i)), x6] [] w 0 0 := by
  intro m
  induction m with
  | zero =>
    intro i hm hi x6
    have : i = 40 := by omega
    subst this
    refine z_iload (pc := 14) dX5_offered_14 rfl ?_
    refine z_aload_n (pc := 16) dX5_offered_16 rfl (by first | rfl | exact z_isr_rf _) ?_
    refine gfX5_23 (pc := 17) rfl dX5_offered_17 (hC.k0) rfl ?_
    refine z_alen (pc := 20) dX5_offered_20 (hC.k3) rfl rfl ?_
    refine z_icmp_ge (pc := 21) (tgt := 84) dX5_offered_21 (by decide) (fun _ => ?_) (fun hn => absurd (nI_le (Nat.le_refl _) (by omega)) hn)
    refine z_iload_n (pc := 84) dX5_offered_84 rfl ?_
    refine z_iret (pc := 85) dX5_offered_85 rfl (⟨rfl, p, hp, rfl, rfl⟩)
  | succ m ih =>
    intro i hm hi x6
    have hin : i < 40 := by omega
    have hi3 : i < 2 ^ 31 := by omega
    have ih := ih (i + 1) (by omega) (by omega)
    refine z_iload (pc := 14) dX5_offered_14 rfl ?_
    refine z_aload_n (pc := 16) dX5_offered_16 rfl (by first | rfl | exact z_isr_rf _) ?_
    refine gfX5_23 (pc := 17) rfl dX5_offered_17 (hC.k0) rfl ?_
    refine z_alen (pc := 20) dX5_offered_20 (hC.k3) rfl rfl ?_
    refine z_icmp_ge (pc := 21) (tgt := 84) dX5_offered_21 (by decide) (fun hn => absurd hn (nI_ge hin (by omega))) (fun _ => ?_)
    refine z_aload_n (pc := 24) dX5_offered_24 rfl (by first | rfl | exact z_isr_rf _) ?_
    refine gfX5_23 (pc := 25) rfl dX5_offered_25 (hC.k0) rfl ?_
    refine z_iload (pc := 28) dX5_offered_28 rfl ?_
    refine z_aaldZ (pc := 30) dX5_offered_30 (hC.k3) (vp_in_nI hin (by omega)) ?_
    rw [nI_clamp hi3]
    by_cases hz : i < N 8 0
    · rw [if_pos hz]
      refine z_astore6 (pc := 31) dX5_offered_31 (by first | rfl | exact z_isr_rf _) ?_
      refine z_aload (pc := 33) dX5_offered_33 rfl (by first | rfl | exact z_isr_rf _) ?_
      refine z_ifnull (pc := 35) (tgt := 78) dX5_offered_35 (by decide) (by first | rfl | exact z_isr_rf _) (fun hn => by cases hn) (fun _ _ => ?_)
      refine z_aload_n (pc := 38) dX5_offered_38 rfl (by first | rfl | exact z_isr_rf _) ?_
      refine z_iload (pc := 39) dX5_offered_39 rfl ?_
      refine z_callVp (pc := 41) (mX3_hasTried hC hp (show i < 40 by omega)) dX5_offered_41 cwX5_149 okX3_hasTried rfl (hC.k5 hp) rfl rfl (by omega) rfl (Nat.le_of_ble_eq_true rfl) ?_
      by_cases ht : I 4 p i = 0
      · rw [if_pos ht]
        refine z_if_eq (pc := 44) (tgt := 50) dX5_offered_44 (by decide) (fun _ => ?_) (fun hn => absurd (rfl) hn)
        have hput : z_of I p (N 8 0) (i + 1) = some i → z_E G zX5_offered 7 (z_mq G (fun v w' => w = w' ∧ ∃ q, q < N 6 0 ∧ nI p = nI q ∧ v = some (.int (z_fi (z_of I q (N 8 0) 40)))) QX) 68 [some (.ref (A 0 0 0)), some x1, some (.ref (A 5 p 0)), some (.int (z_fi (z_of I p (N 8 0) i))), some (.int (z_ft I (z_of I p (N 8 0) i))), some (.int (nI i)), some (.ref (A 11 i 0))] [] w 0 0 := by
          intro he
          rw [he] at ih
          refine z_iload (pc := 68) dX5_offered_68 rfl ?_
          refine z_istore3 (pc := 70) dX5_offered_70 ?_
          refine z_aload (pc := 71) dX5_offered_71 rfl (by first | rfl | exact z_isr_rf _) ?_
          refine gfX5_158 (pc := 73) rfl dX5_offered_73 (hC.k11 hz) rfl ?_
          rw [hT i hz]
          refine z_istore4 (pc := 76) dX5_offered_76 ?_
          refine z_iinc5 (pc := 78) dX5_offered_78 ?_
          refine z_goto (pc := 81) (tgt := 14) dX5_offered_81 (by decide) ?_
          rw [nI_1]
          exact ih _
        cases hf : z_of I p (N 8 0) i with
        | none =>
          rw [hf] at hput
          have he : z_of I p (N 8 0) (i + 1) = some i := by unfold z_of; rw [if_pos ⟨hz, ht, fun f q => by rw [hf] at q; cases q⟩]
          refine z_iload_n (pc := 50) dX5_offered_50 rfl ?_
          refine z_if_lt (pc := 51) (tgt := 68) dX5_offered_51 (by decide) (fun _ => ?_) (fun hn => absurd ((by decide : (-1 : Int32) < 0)) hn)
          exact hput he
        | some f =>
          have hfl := z_of_lt hf
          rw [hf] at hput
          refine z_iload_n (pc := 50) dX5_offered_50 rfl ?_
          refine z_if_lt (pc := 51) (tgt := 68) dX5_offered_51 (by decide) (fun hn => absurd hn (nI_pos (show f < 2 ^ 31 by omega))) (fun _ => ?_)
          refine z_aload_n (pc := 54) dX5_offered_54 rfl (by first | rfl | exact z_isr_rf _) ?_
          refine z_aload (pc := 55) dX5_offered_55 rfl (by first | rfl | exact z_isr_rf _) ?_
          refine gfX5_158 (pc := 57) rfl dX5_offered_57 (hC.k11 hz) rfl ?_
          rw [hT i hz]
          haveI : Decidable (nm I p (z_th I i) (z_th I f)) := inferInstanceAs (Decidable (_ ∨ _))
          refine z_iload (pc := 60) dX5_offered_60 rfl ?_
          refine z_callVp (pc := 62) (mX3_needsMore hC hp (t := z_th I i) (u := z_th I f) (Nat.mod_lt _ (by omega)) (Nat.mod_lt _ (by omega))) dX5_offered_62 cwX5_165 okX3_needsMore rfl (hC.k5 hp) rfl rfl (by omega) rfl (Nat.le_of_ble_eq_true rfl) ?_
          by_cases hm2 : nm I p (z_th I i) (z_th I f)
          · rw [if_pos hm2]
            refine z_if_eq (pc := 65) (tgt := 78) dX5_offered_65 (by decide) (fun hn => absurd hn ((by decide : ¬ (1 : Int32) = 0))) (fun _ => ?_)
            exact hput (by unfold z_of; rw [if_pos ⟨hz, ht, fun f2 q => by rw [hf] at q; cases q; exact hm2⟩])
          · rw [if_neg hm2]
            refine z_if_eq (pc := 65) (tgt := 78) dX5_offered_65 (by decide) (fun _ => ?_) (fun hn => absurd (rfl) hn)
            have he : z_of I p (N 8 0) (i + 1) = some f := by unfold z_of; rw [if_neg (fun q => hm2 (q.2.2 f hf)), hf]
            rw [he] at ih
            refine z_iinc5 (pc := 78) dX5_offered_78 ?_
            refine z_goto (pc := 81) (tgt := 14) dX5_offered_81 (by decide) ?_
            rw [nI_1]
            exact ih _
      · rw [if_neg ht]
        refine z_if_eq (pc := 44) (tgt := 50) dX5_offered_44 (by decide) (fun hn => absurd hn ((by decide : ¬ (1 : Int32) = 0))) (fun _ => ?_)
        have he : z_of I p (N 8 0) (i + 1) = z_of I p (N 8 0) i := by rw [z_of, if_neg (fun q => ht q.2.1)]
        rw [he] at ih
        refine z_goto (pc := 47) (tgt := 78) dX5_offered_47 (by decide) ?_
        refine z_iinc5 (pc := 78) dX5_offered_78 ?_
        refine z_goto (pc := 81) (tgt := 14) dX5_offered_81 (by decide) ?_
        rw [nI_1]
        exact ih _
    · rw [if_neg hz]
      refine z_astore6 (pc := 31) dX5_offered_31 (by first | rfl | exact z_isr_rf _) ?_
      refine z_aload (pc := 33) dX5_offered_33 rfl (by first | rfl | exact z_isr_rf _) ?_
      refine z_ifnull (pc := 35) (tgt := 78) dX5_offered_35 (by decide) (by first | rfl | exact z_isr_rf _) (fun _ => ?_) (fun _ hn => by cases hn)
      have he : z_of I p (N 8 0) (i + 1) = z_of I p (N 8 0) i := by rw [z_of, if_neg (fun q => hz q.1)]
      rw [he] at ih
      refine z_iinc5 (pc := 78) dX5_offered_78 ?_
      refine z_goto (pc := 81) (tgt := 14) dX5_offered_81 (by decide) ?_
      rw [nI_1]
      exact ih _
theorem mX5_offered (hC : z_C G F A I N O B w) (hS : z_S N O B) (hT : ∀ z, z < N 8 0 → I 9 z 0 - I 9 z 0 / 5 * 5 = nI (z_th I z)) (x : Int32) : z_M G zX5_offered 7 [.ref (A 0 0 0), .int x] w 1 6 (fun v w' => w = w' ∧ ∃ p, p < N 6 0 ∧ x = nI p ∧ v = some (.int (z_fi (z_of I p (N 8 0) 40)))) (z_cx IOE (z_rg x (N 6 0)) w) := by
  refine z_M.of (by decide +kernel) rfl (by intro v hv; simp only [List.mem_cons, List.not_mem_nil, or_false] at hv; rcases hv with rfl | rfl <;> first | rfl | exact z_isr_cat (z_isr_rf _)) (Nat.le_of_ble_eq_true rfl) ?_
  show z_E _ zX5_offered _ _ 0 [some (.ref (A 0 0 0)), some (.int x), none, none, none, none, none] [] _ _ _
  refine z_aload_n (pc := 0) dX5_offered_0 rfl (by first | rfl | exact z_isr_rf _) ?_
  refine z_iload_n (pc := 1) dX5_offered_1 rfl ?_
  refine z_callV (pc := 2) (mX5_knownPlayer hC hS x) dX5_offered_2 cwX5_65 okX5_knownPlayer rfl (hC.k0) rfl rfl (by omega) rfl (Nat.le_of_ble_eq_true rfl) (by omega) (by omega) (fun E wN hN => z_Xout rfl (hN)) (fun v wN hN => ?_)
  obtain ⟨rfl, p, hp, rfl, rfl⟩ := hN
  refine z_astore2 (pc := 5) dX5_offered_5 (by first | rfl | exact z_isr_rf _) ?_
  refine z_iconst_m1 (pc := 6) dX5_offered_6 ?_
  refine z_istore3 (pc := 7) dX5_offered_7 ?_
  refine z_iconst_0 (pc := 8) dX5_offered_8 ?_
  refine z_istore4 (pc := 9) dX5_offered_9 ?_
  refine z_iconst_0 (pc := 11) dX5_offered_11 ?_
  refine z_istore5 (pc := 12) dX5_offered_12 ?_
  exact iX5_offered hC hT hp (by rw [hS.2.2.1]; exact hS.2.2.2.2.2.1) _ 0 rfl (by omega) _
/-- the results of the ended games among the first k that begin with a line -/
def z_bw (I : z_TI) (N : z_TN) (g l n : Nat) : Prop := n ≤ N 5 g ∧ ∀ i, i < n → I 8 g i = nI (l / 4 ^ i % 4)
def z_pg (I : z_TI) (N : z_TN) (O : z_TO) (l n : Nat) : Nat → Int32
  | 0 => 0
  | g + 1 => if g < N 7 0 ∧ O 0 0 ≠ some g ∧ (n ≤ N 5 g ∧ ∀ i, i < n → I 8 g i = nI (l / 4 ^ i % 4)) then z_pg I N O l n g + I 7 g 0 else z_pg I N O l n g
theorem iX5_pointsOfGames {QX} (hC : z_C G F A I N O B w) (hS : z_S N O B) {l n : Nat} (h1 : 1 ≤ n) (h6 : n ≤ 6) (hl : l < 4 ^ n) : ∀ m i : Nat, 60 - i = m → i ≤ 60 → ∀ x7, z_E G zX5_pointsOfGames 7 (z_mq G (fun v w' => w = w' ∧ ∃ l' n' : Nat, 1 ≤ n' ∧ n' ≤ 6 ∧ l' < 4 ^ n' ∧ nI l = nI l' ∧ nI n = nI n' ∧ v = some (.int (z_pg I N O l' n' 60))) QX) 21 [some (.ref (A 0 0 0)), some (.int (nI l)), some (.int (nI n)), some (.int (z_pg I N O l n i)), some (.ref (A 2 0 0)), some (.int (nI 60)), some (.int (nI i)), x7] [] w 0 0 := by
  have h60 : N 7 0 ≤ 60 := by rw [hS.2.1]; exact hS.2.2.2.2.1
  intro m
  induction m with
  | zero =>
    intro i hm hi x7
    have : i = 60 := by omega
    subst this
    refine z_iload (pc := 21) dX5_pointsOfGames_21 rfl ?_
    refine z_iload (pc := 23) dX5_pointsOfGames_23 rfl ?_
    refine z_icmp_ge (pc := 25) (tgt := 73) dX5_pointsOfGames_25 (by decide) (fun _ => ?_) (fun hn => absurd (nI_le (Nat.le_refl _) (by omega)) hn)
    refine z_iload_n (pc := 73) dX5_pointsOfGames_73 rfl ?_
    refine z_iret (pc := 74) dX5_pointsOfGames_74 rfl (⟨rfl, l, n, h1, h6, hl, rfl, rfl, rfl⟩)
  | succ m ih =>
    intro i hm hi x7
    have hin : i < 60 := by omega
    have hi3 : i < 2 ^ 31 := by omega
    have ih := ih (i + 1) (by omega) (by omega)
    refine z_iload (pc := 21) dX5_pointsOfGames_21 rfl ?_
    refine z_iload (pc := 23) dX5_pointsOfGames_23 rfl ?_
    refine z_icmp_ge (pc := 25) (tgt := 73) dX5_pointsOfGames_25 (by decide) (fun hn => absurd hn (nI_ge hin (by omega))) (fun _ => ?_)
    refine z_aload (pc := 28) dX5_pointsOfGames_28 rfl (by first | rfl | exact z_isr_rf _) ?_
    refine z_iload (pc := 30) dX5_pointsOfGames_30 rfl ?_
    refine z_aaldG (pc := 32) dX5_pointsOfGames_32 (hC.k2) (vp_in_nI hin (by omega)) ?_
    rw [nI_clamp hi3]
    by_cases hz : i < N 7 0
    · rw [if_pos hz]
      refine z_astore7 (pc := 33) dX5_pointsOfGames_33 (by first | rfl | exact z_isr_rf _) ?_
      refine z_aload (pc := 35) dX5_pointsOfGames_35 rfl (by first | rfl | exact z_isr_rf _) ?_
      refine z_ifnull (pc := 37) (tgt := 67) dX5_pointsOfGames_37 (by decide) (by first | rfl | exact z_isr_rf _) (fun hn => by cases hn) (fun _ _ => ?_)
      refine z_aload (pc := 40) dX5_pointsOfGames_40 rfl (by first | rfl | exact z_isr_rf _) ?_
      refine z_aload_n (pc := 42) dX5_pointsOfGames_42 rfl (by first | rfl | exact z_isr_rf _) ?_
      refine gfX5_74 (pc := 43) rfl dX5_pointsOfGames_43 (hC.k0) rfl ?_
      refine z_acmp_eq (pc := 46) (tgt := 67) dX5_pointsOfGames_46 (by decide) (by first | rfl | exact z_isr_rf _) (by first | rfl | exact z_isr_rf _) (fun hc => ?_) (fun hc => ?_)
      · have hO : O 0 0 = some i := by
          cases hq : O 0 0 with
          | none => rw [hq] at hc; cases hc
          | some g =>
            rw [hq] at hc
            have hg : g < N 7 0 := by have := hS.2.2.2.2.2.2.2.1 g hq; have := hS.2.1; omega
            have := hC.2.1 9 i 0 9 g 0 ⟨hz, rfl⟩ ⟨hg, rfl⟩ (by injection hc)
            rw [this.2.1]
        have he : z_pg I N O l n (i + 1) = z_pg I N O l n i := by rw [z_pg, if_neg (fun q => q.2.1 hO)]
        rw [he] at ih
        refine z_iinc6 (pc := 67) dX5_pointsOfGames_67 ?_
        refine z_goto (pc := 70) (tgt := 21) dX5_pointsOfGames_70 (by decide) ?_
        rw [nI_1]
        exact ih _
      · have hO : O 0 0 ≠ some i := fun hq => hc (by rw [hq]; rfl)
        have h12 : N 5 i ≤ 12 := (hS.2.2.2.2.2.2.1 i (by rw [← hS.2.1]; exact hz)).2.2
        refine z_aload (pc := 49) dX5_pointsOfGames_49 rfl (by first | rfl | exact z_isr_rf _) ?_
        refine z_iload_n (pc := 51) dX5_pointsOfGames_51 rfl ?_
        refine z_iload_n (pc := 52) dX5_pointsOfGames_52 rfl ?_
        refine z_callVp (pc := 53) (mX1_beginsWith hC hz (l := l) (n := n) (Nat.lt_trans hl (z_p4 n (by omega))) h12 h6) dX5_pointsOfGames_53 cwX5_192 okX1_beginsWith rfl (hC.k9 hz) rfl rfl (by omega) rfl (Nat.le_of_ble_eq_true rfl) ?_
        by_cases hb : n ≤ N 5 i ∧ ∀ j, j < n → I 8 i j = nI (l / 4 ^ j % 4)
        · rw [if_pos hb]
          refine z_if_eq (pc := 56) (tgt := 67) dX5_pointsOfGames_56 (by decide) (fun hn => absurd hn ((by decide : ¬ (1 : Int32) = 0))) (fun _ => ?_)
          have he : z_pg I N O l n (i + 1) = z_pg I N O l n i + I 7 i 0 := by rw [z_pg, if_pos ⟨hz, hO, hb⟩]
          rw [he] at ih
          refine z_iload_n (pc := 59) dX5_pointsOfGames_59 rfl ?_
          refine z_aload (pc := 60) dX5_pointsOfGames_60 rfl (by first | rfl | exact z_isr_rf _) ?_
          refine gfX5_108 (pc := 62) rfl dX5_pointsOfGames_62 (hC.k9 hz) rfl ?_
          refine z_iadd (pc := 65) dX5_pointsOfGames_65 ?_
          refine z_istore3 (pc := 66) dX5_pointsOfGames_66 ?_
          refine z_iinc6 (pc := 67) dX5_pointsOfGames_67 ?_
          refine z_goto (pc := 70) (tgt := 21) dX5_pointsOfGames_70 (by decide) ?_
          rw [nI_1]
          exact ih _
        · rw [if_neg hb]
          refine z_if_eq (pc := 56) (tgt := 67) dX5_pointsOfGames_56 (by decide) (fun _ => ?_) (fun hn => absurd (rfl) hn)
          have he : z_pg I N O l n (i + 1) = z_pg I N O l n i := by rw [z_pg, if_neg (fun q => hb q.2.2)]
          rw [he] at ih
          refine z_iinc6 (pc := 67) dX5_pointsOfGames_67 ?_
          refine z_goto (pc := 70) (tgt := 21) dX5_pointsOfGames_70 (by decide) ?_
          rw [nI_1]
          exact ih _
    · rw [if_neg hz]
      refine z_astore7 (pc := 33) dX5_pointsOfGames_33 (by first | rfl | exact z_isr_rf _) ?_
      refine z_aload (pc := 35) dX5_pointsOfGames_35 rfl (by first | rfl | exact z_isr_rf _) ?_
      refine z_ifnull (pc := 37) (tgt := 67) dX5_pointsOfGames_37 (by decide) (by first | rfl | exact z_isr_rf _) (fun _ => ?_) (fun _ hn => by cases hn)
      have he : z_pg I N O l n (i + 1) = z_pg I N O l n i := by rw [z_pg, if_neg (fun q => hz q.1)]
      rw [he] at ih
      refine z_iinc6 (pc := 67) dX5_pointsOfGames_67 ?_
      refine z_goto (pc := 70) (tgt := 21) dX5_pointsOfGames_70 (by decide) ?_
      rw [nI_1]
      exact ih _
theorem mX5_pointsOfGames (hC : z_C G F A I N O B w) (hS : z_S N O B) (x y : Int32) : z_M G zX5_pointsOfGames 7 [.ref (A 0 0 0), .int x, .int y] w 1 6 (fun v w' => w = w' ∧ ∃ l n : Nat, 1 ≤ n ∧ n ≤ 6 ∧ l < 4 ^ n ∧ x = nI l ∧ y = nI n ∧ v = some (.int (z_pg I N O l n 60))) (z_cx IAE (z_ln x y) w) := by
  refine z_M.of (by decide +kernel) rfl (by intro v hv; simp only [List.mem_cons, List.not_mem_nil, or_false] at hv; rcases hv with rfl | rfl | rfl <;> first | rfl | exact z_isr_cat (z_isr_rf _)) (Nat.le_of_ble_eq_true rfl) ?_
  show z_E _ zX5_pointsOfGames _ _ 0 [some (.ref (A 0 0 0)), some (.int x), some (.int y), none, none, none, none, none] [] _ _ _
  refine z_iload_n (pc := 0) dX5_pointsOfGames_0 rfl ?_
  refine z_iload_n (pc := 1) dX5_pointsOfGames_1 rfl ?_
  refine z_callS (pc := 2) (mX5_checkLine G w x y) dX5_pointsOfGames_2 cwX5_173 okX5_checkLine rfl (by omega) rfl (Nat.le_of_ble_eq_true rfl) (by omega) (by omega) (fun E wN hN => z_Xout rfl (hN)) (fun v wN hN => ?_)
  obtain ⟨rfl, rfl, l, n, h1, h6, hl, rfl, rfl⟩ := hN
  refine z_iconst_0 (pc := 5) dX5_pointsOfGames_5 ?_
  refine z_istore3 (pc := 6) dX5_pointsOfGames_6 ?_
  refine z_aload_n (pc := 7) dX5_pointsOfGames_7 rfl (by first | rfl | exact z_isr_rf _) ?_
  refine gfX5_17 (pc := 8) rfl dX5_pointsOfGames_8 (hC.k0) rfl ?_
  refine z_astore4 (pc := 11) dX5_pointsOfGames_11 (by first | rfl | exact z_isr_rf _) ?_
  refine z_aload (pc := 13) dX5_pointsOfGames_13 rfl (by first | rfl | exact z_isr_rf _) ?_
  refine z_alen (pc := 15) dX5_pointsOfGames_15 (hC.k2) rfl rfl ?_
  refine z_istore5 (pc := 16) dX5_pointsOfGames_16 ?_
  refine z_iconst_0 (pc := 18) dX5_pointsOfGames_18 ?_
  refine z_istore6 (pc := 19) dX5_pointsOfGames_19 ?_
  exact iX5_pointsOfGames hC hS h1 h6 hl _ 0 rfl (by omega) _
end LP
end
