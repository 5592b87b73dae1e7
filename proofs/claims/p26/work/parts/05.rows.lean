section ZROWS
variable {G : z_G} {Y : z_Mi} {d : Nat} {Z : z_Gq} {pc : Nat} {L : List (Option Value)} {st : List Value} {w : z_W} {k n : Nat}
theorem z_iadd {x y : Int32} (d0 : decode Y.2.1 pc = .ok (.iadd, 1))  (kk : z_E G Y d Z (pc + 1) L (.int (x + y) :: st) w k n) : z_E G Y d Z pc L (.int y :: .int x :: st) w k n := by
  intro p e R s m args below meth c H locs cells slots ls mc ms C hR hS hL hd hk
  exact lv_iadd C.1 C.2.1 d0  (kk p e R s m args below meth c H locs cells slots ls mc ms C hR hS hL hd hk)
theorem z_isub {x y : Int32} (d0 : decode Y.2.1 pc = .ok (.isub, 1))  (kk : z_E G Y d Z (pc + 1) L (.int (x - y) :: st) w k n) : z_E G Y d Z pc L (.int y :: .int x :: st) w k n := by
  intro p e R s m args below meth c H locs cells slots ls mc ms C hR hS hL hd hk
  exact lv_isub C.1 C.2.1 d0  (kk p e R s m args below meth c H locs cells slots ls mc ms C hR hS hL hd hk)
theorem z_imul {x y : Int32} (d0 : decode Y.2.1 pc = .ok (.imul, 1))  (kk : z_E G Y d Z (pc + 1) L (.int (x * y) :: st) w k n) : z_E G Y d Z pc L (.int y :: .int x :: st) w k n := by
  intro p e R s m args below meth c H locs cells slots ls mc ms C hR hS hL hd hk
  exact lv_imul C.1 C.2.1 d0  (kk p e R s m args below meth c H locs cells slots ls mc ms C hR hS hL hd hk)
theorem z_iand {x y : Int32} (d0 : decode Y.2.1 pc = .ok (.iand, 1))  (kk : z_E G Y d Z (pc + 1) L (.int (x &&& y) :: st) w k n) : z_E G Y d Z pc L (.int y :: .int x :: st) w k n := by
  intro p e R s m args below meth c H locs cells slots ls mc ms C hR hS hL hd hk
  exact lv_iand C.1 C.2.1 d0  (kk p e R s m args below meth c H locs cells slots ls mc ms C hR hS hL hd hk)
theorem z_ior {x y : Int32} (d0 : decode Y.2.1 pc = .ok (.ior, 1))  (kk : z_E G Y d Z (pc + 1) L (.int (x ||| y) :: st) w k n) : z_E G Y d Z pc L (.int y :: .int x :: st) w k n := by
  intro p e R s m args below meth c H locs cells slots ls mc ms C hR hS hL hd hk
  exact lv_ior C.1 C.2.1 d0  (kk p e R s m args below meth c H locs cells slots ls mc ms C hR hS hL hd hk)
theorem z_ishl {x y : Int32} (d0 : decode Y.2.1 pc = .ok (.ishl, 1))  (kk : z_E G Y d Z (pc + 1) L (.int (x <<< (y &&& 31)) :: st) w k n) : z_E G Y d Z pc L (.int y :: .int x :: st) w k n := by
  intro p e R s m args below meth c H locs cells slots ls mc ms C hR hS hL hd hk
  exact lv_ishl C.1 C.2.1 d0  (kk p e R s m args below meth c H locs cells slots ls mc ms C hR hS hL hd hk)
theorem z_ishr {x y : Int32} (d0 : decode Y.2.1 pc = .ok (.ishr, 1))  (kk : z_E G Y d Z (pc + 1) L (.int (x >>> (y &&& 31)) :: st) w k n) : z_E G Y d Z pc L (.int y :: .int x :: st) w k n := by
  intro p e R s m args below meth c H locs cells slots ls mc ms C hR hS hL hd hk
  exact lv_ishr C.1 C.2.1 d0  (kk p e R s m args below meth c H locs cells slots ls mc ms C hR hS hL hd hk)
theorem z_irem {x y : Int32} (d0 : decode Y.2.1 pc = .ok (.irem, 1)) (hne : ¬ y = 0) (kk : z_E G Y d Z (pc + 1) L (.int (x - x / y * y) :: st) w k n) : z_E G Y d Z pc L (.int y :: .int x :: st) w k n := by
  intro p e R s m args below meth c H locs cells slots ls mc ms C hR hS hL hd hk
  exact lv_irem C.1 C.2.1 d0 hne (kk p e R s m args below meth c H locs cells slots ls mc ms C hR hS hL hd hk)
theorem z_idiv {x y : Int32} (d0 : decode Y.2.1 pc = .ok (.idiv, 1)) (hne : ¬ y = 0) (kk : z_E G Y d Z (pc + 1) L (.int (x / y) :: st) w k n) : z_E G Y d Z pc L (.int y :: .int x :: st) w k n := by
  intro p e R s m args below meth c H locs cells slots ls mc ms C hR hS hL hd hk
  exact lv_idiv C.1 C.2.1 d0 hne (kk p e R s m args below meth c H locs cells slots ls mc ms C hR hS hL hd hk)
theorem z_i2l {x : Int32} (d0 : decode Y.2.1 pc = .ok (.i2l, 1))  (kk : z_E G Y d Z (pc + 1) L (.long x.toInt64 :: st) w k n) : z_E G Y d Z pc L (.int x :: st) w k n := by
  intro p e R s m args below meth c H locs cells slots ls mc ms C hR hS hL hd hk
  exact lv_i2l C.1 C.2.1 d0 rfl (kk p e R s m args below meth c H locs cells slots ls mc ms C hR hS hL hd hk)
theorem z_i2f {x : Int32} (d0 : decode Y.2.1 pc = .ok (.i2f, 1))  (kk : z_E G Y d Z (pc + 1) L (.float (FP.i2f x) :: st) w k n) : z_E G Y d Z pc L (.int x :: st) w k n := by
  intro p e R s m args below meth c H locs cells slots ls mc ms C hR hS hL hd hk
  exact lv_i2f C.1 C.2.1 d0  (kk p e R s m args below meth c H locs cells slots ls mc ms C hR hS hL hd hk)
theorem z_fdiv {x y : UInt32} (d0 : decode Y.2.1 pc = .ok (.fdiv, 1)) (hne : vf_n32 (FP.fdiv x y)) (kk : z_E G Y d Z (pc + 1) L (.float (FP.fdiv x y) :: st) w k n) : z_E G Y d Z pc L (.float y :: .float x :: st) w k n := by
  intro p e R s m args below meth c H locs cells slots ls mc ms C hR hS hL hd hk
  exact lv_fdiv C.1 C.2.1 d0 hne (kk p e R s m args below meth c H locs cells slots ls mc ms C hR hS hL hd hk)
theorem z_f2d {x : UInt32} (d0 : decode Y.2.1 pc = .ok (.f2d, 1)) (hne : vf_n64 (FP.f2d x)) (kk : z_E G Y d Z (pc + 1) L (.double (FP.f2d x) :: st) w k n) : z_E G Y d Z pc L (.float x :: st) w k n := by
  intro p e R s m args below meth c H locs cells slots ls mc ms C hR hS hL hd hk
  exact lv_f2d C.1 C.2.1 d0 hne (kk p e R s m args below meth c H locs cells slots ls mc ms C hR hS hL hd hk)
theorem z_dcmp {x y : UInt64} {op : CmpOp} (d0 : decode Y.2.1 pc = .ok (.dcmp op, 1))  (kk : z_E G Y d Z (pc + 1) L (.int (Op.cmpValue (FP.dcmp x y) op) :: st) w k n) : z_E G Y d Z pc L (.double y :: .double x :: st) w k n := by
  intro p e R s m args below meth c H locs cells slots ls mc ms C hR hS hL hd hk
  exact lv_dcmp C.1 C.2.1 d0  (kk p e R s m args below meth c H locs cells slots ls mc ms C hR hS hL hd hk)
theorem z_fcmp {x y : UInt32} {op : CmpOp} (d0 : decode Y.2.1 pc = .ok (.fcmp op, 1))  (kk : z_E G Y d Z (pc + 1) L (.int (Op.cmpValue (FP.fcmp x y) op) :: st) w k n) : z_E G Y d Z pc L (.float y :: .float x :: st) w k n := by
  intro p e R s m args below meth c H locs cells slots ls mc ms C hR hS hL hd hk
  exact lv_fcmp C.1 C.2.1 d0  (kk p e R s m args below meth c H locs cells slots ls mc ms C hR hS hL hd hk)
theorem z_lcmp {x y : Int64} (d0 : decode Y.2.1 pc = .ok (.lcmp, 1))  (kk : z_E G Y d Z (pc + 1) L (.int (lg_cmp x y) :: st) w k n) : z_E G Y d Z pc L (.long y :: .long x :: st) w k n := by
  intro p e R s m args below meth c H locs cells slots ls mc ms C hR hS hL hd hk
  exact W.lcmp C.1 C.2.1 d0  (kk p e R s m args below meth c H locs cells slots ls mc ms C hR hS hL hd hk)
theorem z_fconst0  (d0 : decode Y.2.1 pc = .ok (.fconst 0, 1))  (kk : z_E G Y d Z (pc + 1) L (.float FP.fconst0 :: st) w k n) : z_E G Y d Z pc L st w k n := by
  intro p e R s m args below meth c H locs cells slots ls mc ms C hR hS hL hd hk
  exact lv_fconst0 C.1 C.2.1 d0  (kk p e R s m args below meth c H locs cells slots ls mc ms C hR hS hL hd hk)
theorem z_dup {v : Value} (d0 : decode Y.2.1 pc = .ok (.dup, 1)) (hv : v.category = 1) (kk : z_E G Y d Z (pc + 1) L (v :: v :: st) w k n) : z_E G Y d Z pc L (v :: st) w k n := by
  intro p e R s m args below meth c H locs cells slots ls mc ms C hR hS hL hd hk
  exact lv_dup C.1 C.2.1 d0 hv (kk p e R s m args below meth c H locs cells slots ls mc ms C hR hS hL hd hk)
theorem z_dup2 {v u : Value} (d0 : decode Y.2.1 pc = .ok (.dup2, 1)) (hv : v.category = 1) (hu : u.category = 1) (kk : z_E G Y d Z (pc + 1) L (v :: u :: v :: u :: st) w k n) : z_E G Y d Z pc L (v :: u :: st) w k n := by
  intro p e R s m args below meth c H locs cells slots ls mc ms C hR hS hL hd hk
  exact lv_dup2_11 C.1 C.2.1 d0 hv hu (kk p e R s m args below meth c H locs cells slots ls mc ms C hR hS hL hd hk)
theorem z_null  (d0 : decode Y.2.1 pc = .ok (.aconst_null, 1))  (kk : z_E G Y d Z (pc + 1) L (.null :: st) w k n) : z_E G Y d Z pc L st w k n := by
  intro p e R s m args below meth c H locs cells slots ls mc ms C hR hS hL hd hk
  exact lv_null C.1 C.2.1 d0  (kk p e R s m args below meth c H locs cells slots ls mc ms C hR hS hL hd hk)
theorem z_lconst0  (d0 : decode Y.2.1 pc = .ok (.lconst 0, 1))  (kk : z_E G Y d Z (pc + 1) L (.long 0 :: st) w k n) : z_E G Y d Z pc L st w k n := by
  intro p e R s m args below meth c H locs cells slots ls mc ms C hR hS hL hd hk
  exact lv_lconst C.1 C.2.1 d0 (by decide) (kk p e R s m args below meth c H locs cells slots ls mc ms C hR hS hL hd hk)
theorem z_lconst1  (d0 : decode Y.2.1 pc = .ok (.lconst 1, 1))  (kk : z_E G Y d Z (pc + 1) L (.long 1 :: st) w k n) : z_E G Y d Z pc L st w k n := by
  intro p e R s m args below meth c H locs cells slots ls mc ms C hR hS hL hd hk
  exact lv_lconst C.1 C.2.1 d0 (by decide) (kk p e R s m args below meth c H locs cells slots ls mc ms C hR hS hL hd hk)
theorem z_bipush_m50  (d0 : decode Y.2.1 pc = .ok (.bipush (-50), 2))  (kk : z_E G Y d Z (pc + 2) L (.int (-50) :: st) w k n) : z_E G Y d Z pc L st w k n := by
  intro p e R s m args below meth c H locs cells slots ls mc ms C hR hS hL hd hk
  exact lv_bipush C.1 C.2.1 d0 (by decide) (kk p e R s m args below meth c H locs cells slots ls mc ms C hR hS hL hd hk)
theorem z_bipush_m16  (d0 : decode Y.2.1 pc = .ok (.bipush (-16), 2))  (kk : z_E G Y d Z (pc + 2) L (.int (-16) :: st) w k n) : z_E G Y d Z pc L st w k n := by
  intro p e R s m args below meth c H locs cells slots ls mc ms C hR hS hL hd hk
  exact lv_bipush C.1 C.2.1 d0 (by decide) (kk p e R s m args below meth c H locs cells slots ls mc ms C hR hS hL hd hk)
theorem z_bipush_6  (d0 : decode Y.2.1 pc = .ok (.bipush 6, 2))  (kk : z_E G Y d Z (pc + 2) L (.int (6) :: st) w k n) : z_E G Y d Z pc L st w k n := by
  intro p e R s m args below meth c H locs cells slots ls mc ms C hR hS hL hd hk
  exact lv_bipush C.1 C.2.1 d0 (by decide) (kk p e R s m args below meth c H locs cells slots ls mc ms C hR hS hL hd hk)
theorem z_bipush_7  (d0 : decode Y.2.1 pc = .ok (.bipush 7, 2))  (kk : z_E G Y d Z (pc + 2) L (.int (7) :: st) w k n) : z_E G Y d Z pc L st w k n := by
  intro p e R s m args below meth c H locs cells slots ls mc ms C hR hS hL hd hk
  exact lv_bipush C.1 C.2.1 d0 (by decide) (kk p e R s m args below meth c H locs cells slots ls mc ms C hR hS hL hd hk)
theorem z_bipush_8  (d0 : decode Y.2.1 pc = .ok (.bipush 8, 2))  (kk : z_E G Y d Z (pc + 2) L (.int (8) :: st) w k n) : z_E G Y d Z pc L st w k n := by
  intro p e R s m args below meth c H locs cells slots ls mc ms C hR hS hL hd hk
  exact lv_bipush C.1 C.2.1 d0 (by decide) (kk p e R s m args below meth c H locs cells slots ls mc ms C hR hS hL hd hk)
theorem z_bipush_9  (d0 : decode Y.2.1 pc = .ok (.bipush 9, 2))  (kk : z_E G Y d Z (pc + 2) L (.int (9) :: st) w k n) : z_E G Y d Z pc L st w k n := by
  intro p e R s m args below meth c H locs cells slots ls mc ms C hR hS hL hd hk
  exact lv_bipush C.1 C.2.1 d0 (by decide) (kk p e R s m args below meth c H locs cells slots ls mc ms C hR hS hL hd hk)
theorem z_bipush_10  (d0 : decode Y.2.1 pc = .ok (.bipush 10, 2))  (kk : z_E G Y d Z (pc + 2) L (.int (10) :: st) w k n) : z_E G Y d Z pc L st w k n := by
  intro p e R s m args below meth c H locs cells slots ls mc ms C hR hS hL hd hk
  exact lv_bipush C.1 C.2.1 d0 (by decide) (kk p e R s m args below meth c H locs cells slots ls mc ms C hR hS hL hd hk)
theorem z_bipush_12  (d0 : decode Y.2.1 pc = .ok (.bipush 12, 2))  (kk : z_E G Y d Z (pc + 2) L (.int (12) :: st) w k n) : z_E G Y d Z pc L st w k n := by
  intro p e R s m args below meth c H locs cells slots ls mc ms C hR hS hL hd hk
  exact lv_bipush C.1 C.2.1 d0 (by decide) (kk p e R s m args below meth c H locs cells slots ls mc ms C hR hS hL hd hk)
theorem z_bipush_13  (d0 : decode Y.2.1 pc = .ok (.bipush 13, 2))  (kk : z_E G Y d Z (pc + 2) L (.int (13) :: st) w k n) : z_E G Y d Z pc L st w k n := by
  intro p e R s m args below meth c H locs cells slots ls mc ms C hR hS hL hd hk
  exact lv_bipush C.1 C.2.1 d0 (by decide) (kk p e R s m args below meth c H locs cells slots ls mc ms C hR hS hL hd hk)
theorem z_bipush_16  (d0 : decode Y.2.1 pc = .ok (.bipush 16, 2))  (kk : z_E G Y d Z (pc + 2) L (.int (16) :: st) w k n) : z_E G Y d Z pc L st w k n := by
  intro p e R s m args below meth c H locs cells slots ls mc ms C hR hS hL hd hk
  exact lv_bipush C.1 C.2.1 d0 (by decide) (kk p e R s m args below meth c H locs cells slots ls mc ms C hR hS hL hd hk)
theorem z_bipush_20  (d0 : decode Y.2.1 pc = .ok (.bipush 20, 2))  (kk : z_E G Y d Z (pc + 2) L (.int (20) :: st) w k n) : z_E G Y d Z pc L st w k n := by
  intro p e R s m args below meth c H locs cells slots ls mc ms C hR hS hL hd hk
  exact lv_bipush C.1 C.2.1 d0 (by decide) (kk p e R s m args below meth c H locs cells slots ls mc ms C hR hS hL hd hk)
theorem z_bipush_32  (d0 : decode Y.2.1 pc = .ok (.bipush 32, 2))  (kk : z_E G Y d Z (pc + 2) L (.int (32) :: st) w k n) : z_E G Y d Z pc L st w k n := by
  intro p e R s m args below meth c H locs cells slots ls mc ms C hR hS hL hd hk
  exact lv_bipush C.1 C.2.1 d0 (by decide) (kk p e R s m args below meth c H locs cells slots ls mc ms C hR hS hL hd hk)
theorem z_bipush_37  (d0 : decode Y.2.1 pc = .ok (.bipush 37, 2))  (kk : z_E G Y d Z (pc + 2) L (.int (37) :: st) w k n) : z_E G Y d Z pc L st w k n := by
  intro p e R s m args below meth c H locs cells slots ls mc ms C hR hS hL hd hk
  exact lv_bipush C.1 C.2.1 d0 (by decide) (kk p e R s m args below meth c H locs cells slots ls mc ms C hR hS hL hd hk)
theorem z_bipush_40  (d0 : decode Y.2.1 pc = .ok (.bipush 40, 2))  (kk : z_E G Y d Z (pc + 2) L (.int (40) :: st) w k n) : z_E G Y d Z pc L st w k n := by
  intro p e R s m args below meth c H locs cells slots ls mc ms C hR hS hL hd hk
  exact lv_bipush C.1 C.2.1 d0 (by decide) (kk p e R s m args below meth c H locs cells slots ls mc ms C hR hS hL hd hk)
theorem z_bipush_50  (d0 : decode Y.2.1 pc = .ok (.bipush 50, 2))  (kk : z_E G Y d Z (pc + 2) L (.int (50) :: st) w k n) : z_E G Y d Z pc L st w k n := by
  intro p e R s m args below meth c H locs cells slots ls mc ms C hR hS hL hd hk
  exact lv_bipush C.1 C.2.1 d0 (by decide) (kk p e R s m args below meth c H locs cells slots ls mc ms C hR hS hL hd hk)
theorem z_bipush_60  (d0 : decode Y.2.1 pc = .ok (.bipush 60, 2))  (kk : z_E G Y d Z (pc + 2) L (.int (60) :: st) w k n) : z_E G Y d Z pc L st w k n := by
  intro p e R s m args below meth c H locs cells slots ls mc ms C hR hS hL hd hk
  exact lv_bipush C.1 C.2.1 d0 (by decide) (kk p e R s m args below meth c H locs cells slots ls mc ms C hR hS hL hd hk)
theorem z_bipush_100  (d0 : decode Y.2.1 pc = .ok (.bipush 100, 2))  (kk : z_E G Y d Z (pc + 2) L (.int (100) :: st) w k n) : z_E G Y d Z pc L st w k n := by
  intro p e R s m args below meth c H locs cells slots ls mc ms C hR hS hL hd hk
  exact lv_bipush C.1 C.2.1 d0 (by decide) (kk p e R s m args below meth c H locs cells slots ls mc ms C hR hS hL hd hk)
theorem z_bipush_101  (d0 : decode Y.2.1 pc = .ok (.bipush 101, 2))  (kk : z_E G Y d Z (pc + 2) L (.int (101) :: st) w k n) : z_E G Y d Z pc L st w k n := by
  intro p e R s m args below meth c H locs cells slots ls mc ms C hR hS hL hd hk
  exact lv_bipush C.1 C.2.1 d0 (by decide) (kk p e R s m args below meth c H locs cells slots ls mc ms C hR hS hL hd hk)
theorem z_iconst_m1  (d0 : decode Y.2.1 pc = .ok (.iconst (-1), 1))  (kk : z_E G Y d Z (pc + 1) L (.int (-1) :: st) w k n) : z_E G Y d Z pc L st w k n := by
  intro p e R s m args below meth c H locs cells slots ls mc ms C hR hS hL hd hk
  exact lv_iconst C.1 C.2.1 d0 (by decide) (kk p e R s m args below meth c H locs cells slots ls mc ms C hR hS hL hd hk)
theorem z_iconst_0  (d0 : decode Y.2.1 pc = .ok (.iconst 0, 1))  (kk : z_E G Y d Z (pc + 1) L (.int (0) :: st) w k n) : z_E G Y d Z pc L st w k n := by
  intro p e R s m args below meth c H locs cells slots ls mc ms C hR hS hL hd hk
  exact lv_iconst C.1 C.2.1 d0 (by decide) (kk p e R s m args below meth c H locs cells slots ls mc ms C hR hS hL hd hk)
theorem z_iconst_1  (d0 : decode Y.2.1 pc = .ok (.iconst 1, 1))  (kk : z_E G Y d Z (pc + 1) L (.int (1) :: st) w k n) : z_E G Y d Z pc L st w k n := by
  intro p e R s m args below meth c H locs cells slots ls mc ms C hR hS hL hd hk
  exact lv_iconst C.1 C.2.1 d0 (by decide) (kk p e R s m args below meth c H locs cells slots ls mc ms C hR hS hL hd hk)
theorem z_iconst_2  (d0 : decode Y.2.1 pc = .ok (.iconst 2, 1))  (kk : z_E G Y d Z (pc + 1) L (.int (2) :: st) w k n) : z_E G Y d Z pc L st w k n := by
  intro p e R s m args below meth c H locs cells slots ls mc ms C hR hS hL hd hk
  exact lv_iconst C.1 C.2.1 d0 (by decide) (kk p e R s m args below meth c H locs cells slots ls mc ms C hR hS hL hd hk)
theorem z_iconst_3  (d0 : decode Y.2.1 pc = .ok (.iconst 3, 1))  (kk : z_E G Y d Z (pc + 1) L (.int (3) :: st) w k n) : z_E G Y d Z pc L st w k n := by
  intro p e R s m args below meth c H locs cells slots ls mc ms C hR hS hL hd hk
  exact lv_iconst C.1 C.2.1 d0 (by decide) (kk p e R s m args below meth c H locs cells slots ls mc ms C hR hS hL hd hk)
theorem z_iconst_4  (d0 : decode Y.2.1 pc = .ok (.iconst 4, 1))  (kk : z_E G Y d Z (pc + 1) L (.int (4) :: st) w k n) : z_E G Y d Z pc L st w k n := by
  intro p e R s m args below meth c H locs cells slots ls mc ms C hR hS hL hd hk
  exact lv_iconst C.1 C.2.1 d0 (by decide) (kk p e R s m args below meth c H locs cells slots ls mc ms C hR hS hL hd hk)
theorem z_iconst_5  (d0 : decode Y.2.1 pc = .ok (.iconst 5, 1))  (kk : z_E G Y d Z (pc + 1) L (.int (5) :: st) w k n) : z_E G Y d Z pc L st w k n := by
  intro p e R s m args below meth c H locs cells slots ls mc ms C hR hS hL hd hk
  exact lv_iconst C.1 C.2.1 d0 (by decide) (kk p e R s m args below meth c H locs cells slots ls mc ms C hR hS hL hd hk)
theorem z_sipush_250  (d0 : decode Y.2.1 pc = .ok (.sipush 250, 3))  (kk : z_E G Y d Z (pc + 3) L (.int (250) :: st) w k n) : z_E G Y d Z pc L st w k n := by
  intro p e R s m args below meth c H locs cells slots ls mc ms C hR hS hL hd hk
  exact lv_sipush C.1 C.2.1 d0 (by decide) (kk p e R s m args below meth c H locs cells slots ls mc ms C hR hS hL hd hk)
theorem z_sipush_1000  (d0 : decode Y.2.1 pc = .ok (.sipush 1000, 3))  (kk : z_E G Y d Z (pc + 3) L (.int (1000) :: st) w k n) : z_E G Y d Z pc L st w k n := by
  intro p e R s m args below meth c H locs cells slots ls mc ms C hR hS hL hd hk
  exact lv_sipush C.1 C.2.1 d0 (by decide) (kk p e R s m args below meth c H locs cells slots ls mc ms C hR hS hL hd hk)
theorem z_sipush_3000  (d0 : decode Y.2.1 pc = .ok (.sipush 3000, 3))  (kk : z_E G Y d Z (pc + 3) L (.int (3000) :: st) w k n) : z_E G Y d Z pc L st w k n := by
  intro p e R s m args below meth c H locs cells slots ls mc ms C hR hS hL hd hk
  exact lv_sipush C.1 C.2.1 d0 (by decide) (kk p e R s m args below meth c H locs cells slots ls mc ms C hR hS hL hd hk)
def z_isr : Value → Bool | .null => true | .ref _ => true | _ => false
theorem z_isr_rf (r : Option Nat) : z_isr (va_rf r) = true := by cases r <;> rfl
theorem z_isr_cat {v : Value} (h : z_isr v = true) : v.category = 1 := by cases v <;> first | rfl | cases h
theorem z_isr_or {v : Value} (h : z_isr v = true) : v = .null ∨ ∃ a, v = .ref a := by
  cases v <;> first | exact Or.inl rfl | exact Or.inr ⟨_, rfl⟩ | cases h
theorem z_iload_n {j : Fin 4} {x : Int32} (d0 : decode Y.2.1 pc = .ok (.iload_n j, 1)) (hl : L[(j : Nat)]? = some (some (.int x))) (kk : z_E G Y d Z (pc + 1) L (.int x :: st) w k n) : z_E G Y d Z pc L st w k n := by
  intro p e R s m args below meth c H locs cells slots ls mc ms C hR hS hL hd hk
  exact lv_iload_n C.1 C.2.1 d0 rfl (hL.at hl) (kk p e R s m args below meth c H locs cells slots ls mc ms C hR hS hL hd hk)
theorem z_iload {i : Nat} {x : Int32} (d0 : decode Y.2.1 pc = .ok (.iload i, 2)) (hl : L[i]? = some (some (.int x))) (kk : z_E G Y d Z (pc + 2) L (.int x :: st) w k n) : z_E G Y d Z pc L st w k n := by
  intro p e R s m args below meth c H locs cells slots ls mc ms C hR hS hL hd hk
  exact lv_iload C.1 C.2.1 d0 (hL.at hl) (kk p e R s m args below meth c H locs cells slots ls mc ms C hR hS hL hd hk)
theorem z_fload_n {j : Fin 4} {x : UInt32} (d0 : decode Y.2.1 pc = .ok (.fload_n j, 1)) (hl : L[(j : Nat)]? = some (some (.float x))) (kk : z_E G Y d Z (pc + 1) L (.float x :: st) w k n) : z_E G Y d Z pc L st w k n := by
  intro p e R s m args below meth c H locs cells slots ls mc ms C hR hS hL hd hk
  exact lv_fload_n C.1 C.2.1 d0 rfl (hL.at hl) (kk p e R s m args below meth c H locs cells slots ls mc ms C hR hS hL hd hk)
theorem z_fload {i : Nat} {x : UInt32} (d0 : decode Y.2.1 pc = .ok (.fload i, 2)) (hl : L[i]? = some (some (.float x))) (kk : z_E G Y d Z (pc + 2) L (.float x :: st) w k n) : z_E G Y d Z pc L st w k n := by
  intro p e R s m args below meth c H locs cells slots ls mc ms C hR hS hL hd hk
  exact lv_fload C.1 C.2.1 d0 (hL.at hl) (kk p e R s m args below meth c H locs cells slots ls mc ms C hR hS hL hd hk)
theorem z_aload_n {j : Fin 4} {v : Value} (d0 : decode Y.2.1 pc = .ok (.aload_n j, 1)) (hl : L[(j : Nat)]? = some (some v)) (hv : z_isr v = true) (kk : z_E G Y d Z (pc + 1) L (v :: st) w k n) : z_E G Y d Z pc L st w k n := by
  intro p e R s m args below meth c H locs cells slots ls mc ms C hR hS hL hd hk
  rcases z_isr_or hv with rfl | ⟨a, rfl⟩
  · exact lv_aload_nN C.1 C.2.1 d0 rfl (hL.at hl) (kk p e R s m args below meth c H locs cells slots ls mc ms C hR hS hL hd hk)
  · exact lv_aload_n C.1 C.2.1 d0 rfl (hL.at hl) (kk p e R s m args below meth c H locs cells slots ls mc ms C hR hS hL hd hk)
theorem z_aload {i : Nat} {v : Value} (d0 : decode Y.2.1 pc = .ok (.aload i, 2)) (hl : L[i]? = some (some v)) (hv : z_isr v = true) (kk : z_E G Y d Z (pc + 2) L (v :: st) w k n) : z_E G Y d Z pc L st w k n := by
  intro p e R s m args below meth c H locs cells slots ls mc ms C hR hS hL hd hk
  rcases z_isr_or hv with rfl | ⟨a, rfl⟩
  · exact lv_aloadN C.1 C.2.1 d0 (hL.at hl) (kk p e R s m args below meth c H locs cells slots ls mc ms C hR hS hL hd hk)
  · exact lv_aload C.1 C.2.1 d0 (hL.at hl) (kk p e R s m args below meth c H locs cells slots ls mc ms C hR hS hL hd hk)
theorem z_istore0 {y : Option Value} {t : List (Option Value)} {x : Int32} (d0 : decode Y.2.1 pc = .ok (.istore_n 0, 1)) (kk : z_E G Y d Z (pc + 1) (some (.int x) :: t) st w k n) : z_E G Y d Z pc (y :: t) (.int x :: st) w k n := by
  intro p e R s m args below meth c H locs cells slots ls mc ms C hR hS hL hd hk
  have hi : 0 < Y.2.2.1 := by rw [← hL.1]; simp only [List.length_cons]; omega
  exact lv_istore_n C.1 C.2.1 d0 rfl hL.has hi rfl (fun ls2 h2 => kk p e R s m args below meth c H locs cells slots ls2 mc ms C hR hS (hL.set hi rfl h2) hd hk)
theorem z_astore0 {y : Option Value} {t : List (Option Value)} {v : Value} (d0 : decode Y.2.1 pc = .ok (.astore_n 0, 1)) (hv : z_isr v = true) (kk : z_E G Y d Z (pc + 1) (some v :: t) st w k n) : z_E G Y d Z pc (y :: t) (v :: st) w k n := by
  intro p e R s m args below meth c H locs cells slots ls mc ms C hR hS hL hd hk
  have hi : 0 < Y.2.2.1 := by rw [← hL.1]; simp only [List.length_cons]; omega
  rcases z_isr_or hv with rfl | ⟨a, rfl⟩
  · exact lv_astore_nN C.1 C.2.1 d0 rfl hL.has hi rfl (fun ls2 h2 => kk p e R s m args below meth c H locs cells slots ls2 mc ms C hR hS (hL.set hi rfl h2) hd hk)
  · exact lv_astore_n C.1 C.2.1 d0 rfl hL.has hi rfl (fun ls2 h2 => kk p e R s m args below meth c H locs cells slots ls2 mc ms C hR hS (hL.set hi rfl h2) hd hk)
theorem z_iinc0 {t : List (Option Value)} {x : Int32} (d0 : decode Y.2.1 pc = .ok (.iinc 0 1, 3)) (kk : z_E G Y d Z (pc + 3) (some (.int (x + 1)) :: t) st w k n) : z_E G Y d Z pc (some (.int x) :: t) st w k n := by
  intro p e R s m args below meth c H locs cells slots ls mc ms C hR hS hL hd hk
  have hi : 0 < Y.2.2.1 := by rw [← hL.1]; simp only [List.length_cons]; omega
  obtain ⟨kq, hkq⟩ := List.getElem?_of_mem (z_en_mem (L := some (.int x) :: t) (i := 0) (v := .int x) |>.mpr rfl)
  exact lv_iinc (v := x + 1) C.1 C.2.1 d0 hL.has hkq rfl hi rfl (fun ls2 h2 => kk p e R s m args below meth c H locs cells slots ls2 mc ms C hR hS (hL.set hi rfl h2) hd hk)
theorem z_iinc0m {t : List (Option Value)} {x : Int32} (d0 : decode Y.2.1 pc = .ok (.iinc 0 (-1), 3)) (kk : z_E G Y d Z (pc + 3) (some (.int (x + (-1))) :: t) st w k n) : z_E G Y d Z pc (some (.int x) :: t) st w k n := by
  intro p e R s m args below meth c H locs cells slots ls mc ms C hR hS hL hd hk
  have hi : 0 < Y.2.2.1 := by rw [← hL.1]; simp only [List.length_cons]; omega
  obtain ⟨kq, hkq⟩ := List.getElem?_of_mem (z_en_mem (L := some (.int x) :: t) (i := 0) (v := .int x) |>.mpr rfl)
  exact lv_iinc (v := x + (-1)) C.1 C.2.1 d0 hL.has hkq rfl hi rfl (fun ls2 h2 => kk p e R s m args below meth c H locs cells slots ls2 mc ms C hR hS (hL.set hi rfl h2) hd hk)
theorem z_iinc0f {t : List (Option Value)} {x : Int32} (d0 : decode Y.2.1 pc = .ok (.iinc 0 4, 3)) (kk : z_E G Y d Z (pc + 3) (some (.int (x + 4)) :: t) st w k n) : z_E G Y d Z pc (some (.int x) :: t) st w k n := by
  intro p e R s m args below meth c H locs cells slots ls mc ms C hR hS hL hd hk
  have hi : 0 < Y.2.2.1 := by rw [← hL.1]; simp only [List.length_cons]; omega
  obtain ⟨kq, hkq⟩ := List.getElem?_of_mem (z_en_mem (L := some (.int x) :: t) (i := 0) (v := .int x) |>.mpr rfl)
  exact lv_iinc (v := x + 4) C.1 C.2.1 d0 hL.has hkq rfl hi rfl (fun ls2 h2 => kk p e R s m args below meth c H locs cells slots ls2 mc ms C hR hS (hL.set hi rfl h2) hd hk)
theorem z_istore1 {x0 y : Option Value} {t : List (Option Value)} {x : Int32} (d0 : decode Y.2.1 pc = .ok (.istore_n 1, 1)) (kk : z_E G Y d Z (pc + 1) (x0 :: some (.int x) :: t) st w k n) : z_E G Y d Z pc (x0 :: y :: t) (.int x :: st) w k n := by
  intro p e R s m args below meth c H locs cells slots ls mc ms C hR hS hL hd hk
  have hi : 1 < Y.2.2.1 := by rw [← hL.1]; simp only [List.length_cons]; omega
  exact lv_istore_n C.1 C.2.1 d0 rfl hL.has hi rfl (fun ls2 h2 => kk p e R s m args below meth c H locs cells slots ls2 mc ms C hR hS (hL.set hi rfl h2) hd hk)
theorem z_astore1 {x0 y : Option Value} {t : List (Option Value)} {v : Value} (d0 : decode Y.2.1 pc = .ok (.astore_n 1, 1)) (hv : z_isr v = true) (kk : z_E G Y d Z (pc + 1) (x0 :: some v :: t) st w k n) : z_E G Y d Z pc (x0 :: y :: t) (v :: st) w k n := by
  intro p e R s m args below meth c H locs cells slots ls mc ms C hR hS hL hd hk
  have hi : 1 < Y.2.2.1 := by rw [← hL.1]; simp only [List.length_cons]; omega
  rcases z_isr_or hv with rfl | ⟨a, rfl⟩
  · exact lv_astore_nN C.1 C.2.1 d0 rfl hL.has hi rfl (fun ls2 h2 => kk p e R s m args below meth c H locs cells slots ls2 mc ms C hR hS (hL.set hi rfl h2) hd hk)
  · exact lv_astore_n C.1 C.2.1 d0 rfl hL.has hi rfl (fun ls2 h2 => kk p e R s m args below meth c H locs cells slots ls2 mc ms C hR hS (hL.set hi rfl h2) hd hk)
theorem z_iinc1 {x0 : Option Value} {t : List (Option Value)} {x : Int32} (d0 : decode Y.2.1 pc = .ok (.iinc 1 1, 3)) (kk : z_E G Y d Z (pc + 3) (x0 :: some (.int (x + 1)) :: t) st w k n) : z_E G Y d Z pc (x0 :: some (.int x) :: t) st w k n := by
  intro p e R s m args below meth c H locs cells slots ls mc ms C hR hS hL hd hk
  have hi : 1 < Y.2.2.1 := by rw [← hL.1]; simp only [List.length_cons]; omega
  obtain ⟨kq, hkq⟩ := List.getElem?_of_mem (z_en_mem (L := x0 :: some (.int x) :: t) (i := 1) (v := .int x) |>.mpr rfl)
  exact lv_iinc (v := x + 1) C.1 C.2.1 d0 hL.has hkq rfl hi rfl (fun ls2 h2 => kk p e R s m args below meth c H locs cells slots ls2 mc ms C hR hS (hL.set hi rfl h2) hd hk)
theorem z_iinc1m {x0 : Option Value} {t : List (Option Value)} {x : Int32} (d0 : decode Y.2.1 pc = .ok (.iinc 1 (-1), 3)) (kk : z_E G Y d Z (pc + 3) (x0 :: some (.int (x + (-1))) :: t) st w k n) : z_E G Y d Z pc (x0 :: some (.int x) :: t) st w k n := by
  intro p e R s m args below meth c H locs cells slots ls mc ms C hR hS hL hd hk
  have hi : 1 < Y.2.2.1 := by rw [← hL.1]; simp only [List.length_cons]; omega
  obtain ⟨kq, hkq⟩ := List.getElem?_of_mem (z_en_mem (L := x0 :: some (.int x) :: t) (i := 1) (v := .int x) |>.mpr rfl)
  exact lv_iinc (v := x + (-1)) C.1 C.2.1 d0 hL.has hkq rfl hi rfl (fun ls2 h2 => kk p e R s m args below meth c H locs cells slots ls2 mc ms C hR hS (hL.set hi rfl h2) hd hk)
theorem z_iinc1f {x0 : Option Value} {t : List (Option Value)} {x : Int32} (d0 : decode Y.2.1 pc = .ok (.iinc 1 4, 3)) (kk : z_E G Y d Z (pc + 3) (x0 :: some (.int (x + 4)) :: t) st w k n) : z_E G Y d Z pc (x0 :: some (.int x) :: t) st w k n := by
  intro p e R s m args below meth c H locs cells slots ls mc ms C hR hS hL hd hk
  have hi : 1 < Y.2.2.1 := by rw [← hL.1]; simp only [List.length_cons]; omega
  obtain ⟨kq, hkq⟩ := List.getElem?_of_mem (z_en_mem (L := x0 :: some (.int x) :: t) (i := 1) (v := .int x) |>.mpr rfl)
  exact lv_iinc (v := x + 4) C.1 C.2.1 d0 hL.has hkq rfl hi rfl (fun ls2 h2 => kk p e R s m args below meth c H locs cells slots ls2 mc ms C hR hS (hL.set hi rfl h2) hd hk)
theorem z_istore2 {x0 x1 y : Option Value} {t : List (Option Value)} {x : Int32} (d0 : decode Y.2.1 pc = .ok (.istore_n 2, 1)) (kk : z_E G Y d Z (pc + 1) (x0 :: x1 :: some (.int x) :: t) st w k n) : z_E G Y d Z pc (x0 :: x1 :: y :: t) (.int x :: st) w k n := by
  intro p e R s m args below meth c H locs cells slots ls mc ms C hR hS hL hd hk
  have hi : 2 < Y.2.2.1 := by rw [← hL.1]; simp only [List.length_cons]; omega
  exact lv_istore_n C.1 C.2.1 d0 rfl hL.has hi rfl (fun ls2 h2 => kk p e R s m args below meth c H locs cells slots ls2 mc ms C hR hS (hL.set hi rfl h2) hd hk)
theorem z_astore2 {x0 x1 y : Option Value} {t : List (Option Value)} {v : Value} (d0 : decode Y.2.1 pc = .ok (.astore_n 2, 1)) (hv : z_isr v = true) (kk : z_E G Y d Z (pc + 1) (x0 :: x1 :: some v :: t) st w k n) : z_E G Y d Z pc (x0 :: x1 :: y :: t) (v :: st) w k n := by
  intro p e R s m args below meth c H locs cells slots ls mc ms C hR hS hL hd hk
  have hi : 2 < Y.2.2.1 := by rw [← hL.1]; simp only [List.length_cons]; omega
  rcases z_isr_or hv with rfl | ⟨a, rfl⟩
  · exact lv_astore_nN C.1 C.2.1 d0 rfl hL.has hi rfl (fun ls2 h2 => kk p e R s m args below meth c H locs cells slots ls2 mc ms C hR hS (hL.set hi rfl h2) hd hk)
  · exact lv_astore_n C.1 C.2.1 d0 rfl hL.has hi rfl (fun ls2 h2 => kk p e R s m args below meth c H locs cells slots ls2 mc ms C hR hS (hL.set hi rfl h2) hd hk)
theorem z_iinc2 {x0 x1 : Option Value} {t : List (Option Value)} {x : Int32} (d0 : decode Y.2.1 pc = .ok (.iinc 2 1, 3)) (kk : z_E G Y d Z (pc + 3) (x0 :: x1 :: some (.int (x + 1)) :: t) st w k n) : z_E G Y d Z pc (x0 :: x1 :: some (.int x) :: t) st w k n := by
  intro p e R s m args below meth c H locs cells slots ls mc ms C hR hS hL hd hk
  have hi : 2 < Y.2.2.1 := by rw [← hL.1]; simp only [List.length_cons]; omega
  obtain ⟨kq, hkq⟩ := List.getElem?_of_mem (z_en_mem (L := x0 :: x1 :: some (.int x) :: t) (i := 2) (v := .int x) |>.mpr rfl)
  exact lv_iinc (v := x + 1) C.1 C.2.1 d0 hL.has hkq rfl hi rfl (fun ls2 h2 => kk p e R s m args below meth c H locs cells slots ls2 mc ms C hR hS (hL.set hi rfl h2) hd hk)
theorem z_iinc2m {x0 x1 : Option Value} {t : List (Option Value)} {x : Int32} (d0 : decode Y.2.1 pc = .ok (.iinc 2 (-1), 3)) (kk : z_E G Y d Z (pc + 3) (x0 :: x1 :: some (.int (x + (-1))) :: t) st w k n) : z_E G Y d Z pc (x0 :: x1 :: some (.int x) :: t) st w k n := by
  intro p e R s m args below meth c H locs cells slots ls mc ms C hR hS hL hd hk
  have hi : 2 < Y.2.2.1 := by rw [← hL.1]; simp only [List.length_cons]; omega
  obtain ⟨kq, hkq⟩ := List.getElem?_of_mem (z_en_mem (L := x0 :: x1 :: some (.int x) :: t) (i := 2) (v := .int x) |>.mpr rfl)
  exact lv_iinc (v := x + (-1)) C.1 C.2.1 d0 hL.has hkq rfl hi rfl (fun ls2 h2 => kk p e R s m args below meth c H locs cells slots ls2 mc ms C hR hS (hL.set hi rfl h2) hd hk)
theorem z_iinc2f {x0 x1 : Option Value} {t : List (Option Value)} {x : Int32} (d0 : decode Y.2.1 pc = .ok (.iinc 2 4, 3)) (kk : z_E G Y d Z (pc + 3) (x0 :: x1 :: some (.int (x + 4)) :: t) st w k n) : z_E G Y d Z pc (x0 :: x1 :: some (.int x) :: t) st w k n := by
  intro p e R s m args below meth c H locs cells slots ls mc ms C hR hS hL hd hk
  have hi : 2 < Y.2.2.1 := by rw [← hL.1]; simp only [List.length_cons]; omega
  obtain ⟨kq, hkq⟩ := List.getElem?_of_mem (z_en_mem (L := x0 :: x1 :: some (.int x) :: t) (i := 2) (v := .int x) |>.mpr rfl)
  exact lv_iinc (v := x + 4) C.1 C.2.1 d0 hL.has hkq rfl hi rfl (fun ls2 h2 => kk p e R s m args below meth c H locs cells slots ls2 mc ms C hR hS (hL.set hi rfl h2) hd hk)
theorem z_istore3 {x0 x1 x2 y : Option Value} {t : List (Option Value)} {x : Int32} (d0 : decode Y.2.1 pc = .ok (.istore_n 3, 1)) (kk : z_E G Y d Z (pc + 1) (x0 :: x1 :: x2 :: some (.int x) :: t) st w k n) : z_E G Y d Z pc (x0 :: x1 :: x2 :: y :: t) (.int x :: st) w k n := by
  intro p e R s m args below meth c H locs cells slots ls mc ms C hR hS hL hd hk
  have hi : 3 < Y.2.2.1 := by rw [← hL.1]; simp only [List.length_cons]; omega
  exact lv_istore_n C.1 C.2.1 d0 rfl hL.has hi rfl (fun ls2 h2 => kk p e R s m args below meth c H locs cells slots ls2 mc ms C hR hS (hL.set hi rfl h2) hd hk)
theorem z_astore3 {x0 x1 x2 y : Option Value} {t : List (Option Value)} {v : Value} (d0 : decode Y.2.1 pc = .ok (.astore_n 3, 1)) (hv : z_isr v = true) (kk : z_E G Y d Z (pc + 1) (x0 :: x1 :: x2 :: some v :: t) st w k n) : z_E G Y d Z pc (x0 :: x1 :: x2 :: y :: t) (v :: st) w k n := by
  intro p e R s m args below meth c H locs cells slots ls mc ms C hR hS hL hd hk
  have hi : 3 < Y.2.2.1 := by rw [← hL.1]; simp only [List.length_cons]; omega
  rcases z_isr_or hv with rfl | ⟨a, rfl⟩
  · exact lv_astore_nN C.1 C.2.1 d0 rfl hL.has hi rfl (fun ls2 h2 => kk p e R s m args below meth c H locs cells slots ls2 mc ms C hR hS (hL.set hi rfl h2) hd hk)
  · exact lv_astore_n C.1 C.2.1 d0 rfl hL.has hi rfl (fun ls2 h2 => kk p e R s m args below meth c H locs cells slots ls2 mc ms C hR hS (hL.set hi rfl h2) hd hk)
theorem z_iinc3 {x0 x1 x2 : Option Value} {t : List (Option Value)} {x : Int32} (d0 : decode Y.2.1 pc = .ok (.iinc 3 1, 3)) (kk : z_E G Y d Z (pc + 3) (x0 :: x1 :: x2 :: some (.int (x + 1)) :: t) st w k n) : z_E G Y d Z pc (x0 :: x1 :: x2 :: some (.int x) :: t) st w k n := by
  intro p e R s m args below meth c H locs cells slots ls mc ms C hR hS hL hd hk
  have hi : 3 < Y.2.2.1 := by rw [← hL.1]; simp only [List.length_cons]; omega
  obtain ⟨kq, hkq⟩ := List.getElem?_of_mem (z_en_mem (L := x0 :: x1 :: x2 :: some (.int x) :: t) (i := 3) (v := .int x) |>.mpr rfl)
  exact lv_iinc (v := x + 1) C.1 C.2.1 d0 hL.has hkq rfl hi rfl (fun ls2 h2 => kk p e R s m args below meth c H locs cells slots ls2 mc ms C hR hS (hL.set hi rfl h2) hd hk)
theorem z_iinc3m {x0 x1 x2 : Option Value} {t : List (Option Value)} {x : Int32} (d0 : decode Y.2.1 pc = .ok (.iinc 3 (-1), 3)) (kk : z_E G Y d Z (pc + 3) (x0 :: x1 :: x2 :: some (.int (x + (-1))) :: t) st w k n) : z_E G Y d Z pc (x0 :: x1 :: x2 :: some (.int x) :: t) st w k n := by
  intro p e R s m args below meth c H locs cells slots ls mc ms C hR hS hL hd hk
  have hi : 3 < Y.2.2.1 := by rw [← hL.1]; simp only [List.length_cons]; omega
  obtain ⟨kq, hkq⟩ := List.getElem?_of_mem (z_en_mem (L := x0 :: x1 :: x2 :: some (.int x) :: t) (i := 3) (v := .int x) |>.mpr rfl)
  exact lv_iinc (v := x + (-1)) C.1 C.2.1 d0 hL.has hkq rfl hi rfl (fun ls2 h2 => kk p e R s m args below meth c H locs cells slots ls2 mc ms C hR hS (hL.set hi rfl h2) hd hk)
theorem z_iinc3f {x0 x1 x2 : Option Value} {t : List (Option Value)} {x : Int32} (d0 : decode Y.2.1 pc = .ok (.iinc 3 4, 3)) (kk : z_E G Y d Z (pc + 3) (x0 :: x1 :: x2 :: some (.int (x + 4)) :: t) st w k n) : z_E G Y d Z pc (x0 :: x1 :: x2 :: some (.int x) :: t) st w k n := by
  intro p e R s m args below meth c H locs cells slots ls mc ms C hR hS hL hd hk
  have hi : 3 < Y.2.2.1 := by rw [← hL.1]; simp only [List.length_cons]; omega
  obtain ⟨kq, hkq⟩ := List.getElem?_of_mem (z_en_mem (L := x0 :: x1 :: x2 :: some (.int x) :: t) (i := 3) (v := .int x) |>.mpr rfl)
  exact lv_iinc (v := x + 4) C.1 C.2.1 d0 hL.has hkq rfl hi rfl (fun ls2 h2 => kk p e R s m args below meth c H locs cells slots ls2 mc ms C hR hS (hL.set hi rfl h2) hd hk)
theorem z_istore4 {x0 x1 x2 x3 y : Option Value} {t : List (Option Value)} {x : Int32} (d0 : decode Y.2.1 pc = .ok (.istore 4, 2)) (kk : z_E G Y d Z (pc + 2) (x0 :: x1 :: x2 :: x3 :: some (.int x) :: t) st w k n) : z_E G Y d Z pc (x0 :: x1 :: x2 :: x3 :: y :: t) (.int x :: st) w k n := by
  intro p e R s m args below meth c H locs cells slots ls mc ms C hR hS hL hd hk
  have hi : 4 < Y.2.2.1 := by rw [← hL.1]; simp only [List.length_cons]; omega
  exact lv_istore C.1 C.2.1 d0 hL.has hi rfl (fun ls2 h2 => kk p e R s m args below meth c H locs cells slots ls2 mc ms C hR hS (hL.set hi rfl h2) hd hk)
theorem z_astore4 {x0 x1 x2 x3 y : Option Value} {t : List (Option Value)} {v : Value} (d0 : decode Y.2.1 pc = .ok (.astore 4, 2)) (hv : z_isr v = true) (kk : z_E G Y d Z (pc + 2) (x0 :: x1 :: x2 :: x3 :: some v :: t) st w k n) : z_E G Y d Z pc (x0 :: x1 :: x2 :: x3 :: y :: t) (v :: st) w k n := by
  intro p e R s m args below meth c H locs cells slots ls mc ms C hR hS hL hd hk
  have hi : 4 < Y.2.2.1 := by rw [← hL.1]; simp only [List.length_cons]; omega
  rcases z_isr_or hv with rfl | ⟨a, rfl⟩
  · exact lv_astoreN C.1 C.2.1 d0 hL.has hi rfl (fun ls2 h2 => kk p e R s m args below meth c H locs cells slots ls2 mc ms C hR hS (hL.set hi rfl h2) hd hk)
  · exact lv_astore C.1 C.2.1 d0 hL.has hi rfl (fun ls2 h2 => kk p e R s m args below meth c H locs cells slots ls2 mc ms C hR hS (hL.set hi rfl h2) hd hk)
theorem z_iinc4 {x0 x1 x2 x3 : Option Value} {t : List (Option Value)} {x : Int32} (d0 : decode Y.2.1 pc = .ok (.iinc 4 1, 3)) (kk : z_E G Y d Z (pc + 3) (x0 :: x1 :: x2 :: x3 :: some (.int (x + 1)) :: t) st w k n) : z_E G Y d Z pc (x0 :: x1 :: x2 :: x3 :: some (.int x) :: t) st w k n := by
  intro p e R s m args below meth c H locs cells slots ls mc ms C hR hS hL hd hk
  have hi : 4 < Y.2.2.1 := by rw [← hL.1]; simp only [List.length_cons]; omega
  obtain ⟨kq, hkq⟩ := List.getElem?_of_mem (z_en_mem (L := x0 :: x1 :: x2 :: x3 :: some (.int x) :: t) (i := 4) (v := .int x) |>.mpr rfl)
  exact lv_iinc (v := x + 1) C.1 C.2.1 d0 hL.has hkq rfl hi rfl (fun ls2 h2 => kk p e R s m args below meth c H locs cells slots ls2 mc ms C hR hS (hL.set hi rfl h2) hd hk)
theorem z_iinc4m {x0 x1 x2 x3 : Option Value} {t : List (Option Value)} {x : Int32} (d0 : decode Y.2.1 pc = .ok (.iinc 4 (-1), 3)) (kk : z_E G Y d Z (pc + 3) (x0 :: x1 :: x2 :: x3 :: some (.int (x + (-1))) :: t) st w k n) : z_E G Y d Z pc (x0 :: x1 :: x2 :: x3 :: some (.int x) :: t) st w k n := by
  intro p e R s m args below meth c H locs cells slots ls mc ms C hR hS hL hd hk
  have hi : 4 < Y.2.2.1 := by rw [← hL.1]; simp only [List.length_cons]; omega
  obtain ⟨kq, hkq⟩ := List.getElem?_of_mem (z_en_mem (L := x0 :: x1 :: x2 :: x3 :: some (.int x) :: t) (i := 4) (v := .int x) |>.mpr rfl)
  exact lv_iinc (v := x + (-1)) C.1 C.2.1 d0 hL.has hkq rfl hi rfl (fun ls2 h2 => kk p e R s m args below meth c H locs cells slots ls2 mc ms C hR hS (hL.set hi rfl h2) hd hk)
theorem z_iinc4f {x0 x1 x2 x3 : Option Value} {t : List (Option Value)} {x : Int32} (d0 : decode Y.2.1 pc = .ok (.iinc 4 4, 3)) (kk : z_E G Y d Z (pc + 3) (x0 :: x1 :: x2 :: x3 :: some (.int (x + 4)) :: t) st w k n) : z_E G Y d Z pc (x0 :: x1 :: x2 :: x3 :: some (.int x) :: t) st w k n := by
  intro p e R s m args below meth c H locs cells slots ls mc ms C hR hS hL hd hk
  have hi : 4 < Y.2.2.1 := by rw [← hL.1]; simp only [List.length_cons]; omega
  obtain ⟨kq, hkq⟩ := List.getElem?_of_mem (z_en_mem (L := x0 :: x1 :: x2 :: x3 :: some (.int x) :: t) (i := 4) (v := .int x) |>.mpr rfl)
  exact lv_iinc (v := x + 4) C.1 C.2.1 d0 hL.has hkq rfl hi rfl (fun ls2 h2 => kk p e R s m args below meth c H locs cells slots ls2 mc ms C hR hS (hL.set hi rfl h2) hd hk)
theorem z_istore5 {x0 x1 x2 x3 x4 y : Option Value} {t : List (Option Value)} {x : Int32} (d0 : decode Y.2.1 pc = .ok (.istore 5, 2)) (kk : z_E G Y d Z (pc + 2) (x0 :: x1 :: x2 :: x3 :: x4 :: some (.int x) :: t) st w k n) : z_E G Y d Z pc (x0 :: x1 :: x2 :: x3 :: x4 :: y :: t) (.int x :: st) w k n := by
  intro p e R s m args below meth c H locs cells slots ls mc ms C hR hS hL hd hk
  have hi : 5 < Y.2.2.1 := by rw [← hL.1]; simp only [List.length_cons]; omega
  exact lv_istore C.1 C.2.1 d0 hL.has hi rfl (fun ls2 h2 => kk p e R s m args below meth c H locs cells slots ls2 mc ms C hR hS (hL.set hi rfl h2) hd hk)
theorem z_astore5 {x0 x1 x2 x3 x4 y : Option Value} {t : List (Option Value)} {v : Value} (d0 : decode Y.2.1 pc = .ok (.astore 5, 2)) (hv : z_isr v = true) (kk : z_E G Y d Z (pc + 2) (x0 :: x1 :: x2 :: x3 :: x4 :: some v :: t) st w k n) : z_E G Y d Z pc (x0 :: x1 :: x2 :: x3 :: x4 :: y :: t) (v :: st) w k n := by
  intro p e R s m args below meth c H locs cells slots ls mc ms C hR hS hL hd hk
  have hi : 5 < Y.2.2.1 := by rw [← hL.1]; simp only [List.length_cons]; omega
  rcases z_isr_or hv with rfl | ⟨a, rfl⟩
  · exact lv_astoreN C.1 C.2.1 d0 hL.has hi rfl (fun ls2 h2 => kk p e R s m args below meth c H locs cells slots ls2 mc ms C hR hS (hL.set hi rfl h2) hd hk)
  · exact lv_astore C.1 C.2.1 d0 hL.has hi rfl (fun ls2 h2 => kk p e R s m args below meth c H locs cells slots ls2 mc ms C hR hS (hL.set hi rfl h2) hd hk)
theorem z_iinc5 {x0 x1 x2 x3 x4 : Option Value} {t : List (Option Value)} {x : Int32} (d0 : decode Y.2.1 pc = .ok (.iinc 5 1, 3)) (kk : z_E G Y d Z (pc + 3) (x0 :: x1 :: x2 :: x3 :: x4 :: some (.int (x + 1)) :: t) st w k n) : z_E G Y d Z pc (x0 :: x1 :: x2 :: x3 :: x4 :: some (.int x) :: t) st w k n := by
  intro p e R s m args below meth c H locs cells slots ls mc ms C hR hS hL hd hk
  have hi : 5 < Y.2.2.1 := by rw [← hL.1]; simp only [List.length_cons]; omega
  obtain ⟨kq, hkq⟩ := List.getElem?_of_mem (z_en_mem (L := x0 :: x1 :: x2 :: x3 :: x4 :: some (.int x) :: t) (i := 5) (v := .int x) |>.mpr rfl)
  exact lv_iinc (v := x + 1) C.1 C.2.1 d0 hL.has hkq rfl hi rfl (fun ls2 h2 => kk p e R s m args below meth c H locs cells slots ls2 mc ms C hR hS (hL.set hi rfl h2) hd hk)
theorem z_iinc5m {x0 x1 x2 x3 x4 : Option Value} {t : List (Option Value)} {x : Int32} (d0 : decode Y.2.1 pc = .ok (.iinc 5 (-1), 3)) (kk : z_E G Y d Z (pc + 3) (x0 :: x1 :: x2 :: x3 :: x4 :: some (.int (x + (-1))) :: t) st w k n) : z_E G Y d Z pc (x0 :: x1 :: x2 :: x3 :: x4 :: some (.int x) :: t) st w k n := by
  intro p e R s m args below meth c H locs cells slots ls mc ms C hR hS hL hd hk
  have hi : 5 < Y.2.2.1 := by rw [← hL.1]; simp only [List.length_cons]; omega
  obtain ⟨kq, hkq⟩ := List.getElem?_of_mem (z_en_mem (L := x0 :: x1 :: x2 :: x3 :: x4 :: some (.int x) :: t) (i := 5) (v := .int x) |>.mpr rfl)
  exact lv_iinc (v := x + (-1)) C.1 C.2.1 d0 hL.has hkq rfl hi rfl (fun ls2 h2 => kk p e R s m args below meth c H locs cells slots ls2 mc ms C hR hS (hL.set hi rfl h2) hd hk)
theorem z_iinc5f {x0 x1 x2 x3 x4 : Option Value} {t : List (Option Value)} {x : Int32} (d0 : decode Y.2.1 pc = .ok (.iinc 5 4, 3)) (kk : z_E G Y d Z (pc + 3) (x0 :: x1 :: x2 :: x3 :: x4 :: some (.int (x + 4)) :: t) st w k n) : z_E G Y d Z pc (x0 :: x1 :: x2 :: x3 :: x4 :: some (.int x) :: t) st w k n := by
  intro p e R s m args below meth c H locs cells slots ls mc ms C hR hS hL hd hk
  have hi : 5 < Y.2.2.1 := by rw [← hL.1]; simp only [List.length_cons]; omega
  obtain ⟨kq, hkq⟩ := List.getElem?_of_mem (z_en_mem (L := x0 :: x1 :: x2 :: x3 :: x4 :: some (.int x) :: t) (i := 5) (v := .int x) |>.mpr rfl)
  exact lv_iinc (v := x + 4) C.1 C.2.1 d0 hL.has hkq rfl hi rfl (fun ls2 h2 => kk p e R s m args below meth c H locs cells slots ls2 mc ms C hR hS (hL.set hi rfl h2) hd hk)
theorem z_istore6 {x0 x1 x2 x3 x4 x5 y : Option Value} {t : List (Option Value)} {x : Int32} (d0 : decode Y.2.1 pc = .ok (.istore 6, 2)) (kk : z_E G Y d Z (pc + 2) (x0 :: x1 :: x2 :: x3 :: x4 :: x5 :: some (.int x) :: t) st w k n) : z_E G Y d Z pc (x0 :: x1 :: x2 :: x3 :: x4 :: x5 :: y :: t) (.int x :: st) w k n := by
  intro p e R s m args below meth c H locs cells slots ls mc ms C hR hS hL hd hk
  have hi : 6 < Y.2.2.1 := by rw [← hL.1]; simp only [List.length_cons]; omega
  exact lv_istore C.1 C.2.1 d0 hL.has hi rfl (fun ls2 h2 => kk p e R s m args below meth c H locs cells slots ls2 mc ms C hR hS (hL.set hi rfl h2) hd hk)
theorem z_astore6 {x0 x1 x2 x3 x4 x5 y : Option Value} {t : List (Option Value)} {v : Value} (d0 : decode Y.2.1 pc = .ok (.astore 6, 2)) (hv : z_isr v = true) (kk : z_E G Y d Z (pc + 2) (x0 :: x1 :: x2 :: x3 :: x4 :: x5 :: some v :: t) st w k n) : z_E G Y d Z pc (x0 :: x1 :: x2 :: x3 :: x4 :: x5 :: y :: t) (v :: st) w k n := by
  intro p e R s m args below meth c H locs cells slots ls mc ms C hR hS hL hd hk
  have hi : 6 < Y.2.2.1 := by rw [← hL.1]; simp only [List.length_cons]; omega
  rcases z_isr_or hv with rfl | ⟨a, rfl⟩
  · exact lv_astoreN C.1 C.2.1 d0 hL.has hi rfl (fun ls2 h2 => kk p e R s m args below meth c H locs cells slots ls2 mc ms C hR hS (hL.set hi rfl h2) hd hk)
  · exact lv_astore C.1 C.2.1 d0 hL.has hi rfl (fun ls2 h2 => kk p e R s m args below meth c H locs cells slots ls2 mc ms C hR hS (hL.set hi rfl h2) hd hk)
theorem z_fstore6 {x0 x1 x2 x3 x4 x5 y : Option Value} {t : List (Option Value)} {x : UInt32} (d0 : decode Y.2.1 pc = .ok (.fstore 6, 2)) (kk : z_E G Y d Z (pc + 2) (x0 :: x1 :: x2 :: x3 :: x4 :: x5 :: some (.float x) :: t) st w k n) : z_E G Y d Z pc (x0 :: x1 :: x2 :: x3 :: x4 :: x5 :: y :: t) (.float x :: st) w k n := by
  intro p e R s m args below meth c H locs cells slots ls mc ms C hR hS hL hd hk
  have hi : 6 < Y.2.2.1 := by rw [← hL.1]; simp only [List.length_cons]; omega
  exact lv_fstore C.1 C.2.1 d0 hL.has hi rfl (fun ls2 h2 => kk p e R s m args below meth c H locs cells slots ls2 mc ms C hR hS (hL.set hi rfl h2) hd hk)
theorem z_iinc6 {x0 x1 x2 x3 x4 x5 : Option Value} {t : List (Option Value)} {x : Int32} (d0 : decode Y.2.1 pc = .ok (.iinc 6 1, 3)) (kk : z_E G Y d Z (pc + 3) (x0 :: x1 :: x2 :: x3 :: x4 :: x5 :: some (.int (x + 1)) :: t) st w k n) : z_E G Y d Z pc (x0 :: x1 :: x2 :: x3 :: x4 :: x5 :: some (.int x) :: t) st w k n := by
  intro p e R s m args below meth c H locs cells slots ls mc ms C hR hS hL hd hk
  have hi : 6 < Y.2.2.1 := by rw [← hL.1]; simp only [List.length_cons]; omega
  obtain ⟨kq, hkq⟩ := List.getElem?_of_mem (z_en_mem (L := x0 :: x1 :: x2 :: x3 :: x4 :: x5 :: some (.int x) :: t) (i := 6) (v := .int x) |>.mpr rfl)
  exact lv_iinc (v := x + 1) C.1 C.2.1 d0 hL.has hkq rfl hi rfl (fun ls2 h2 => kk p e R s m args below meth c H locs cells slots ls2 mc ms C hR hS (hL.set hi rfl h2) hd hk)
theorem z_iinc6m {x0 x1 x2 x3 x4 x5 : Option Value} {t : List (Option Value)} {x : Int32} (d0 : decode Y.2.1 pc = .ok (.iinc 6 (-1), 3)) (kk : z_E G Y d Z (pc + 3) (x0 :: x1 :: x2 :: x3 :: x4 :: x5 :: some (.int (x + (-1))) :: t) st w k n) : z_E G Y d Z pc (x0 :: x1 :: x2 :: x3 :: x4 :: x5 :: some (.int x) :: t) st w k n := by
  intro p e R s m args below meth c H locs cells slots ls mc ms C hR hS hL hd hk
  have hi : 6 < Y.2.2.1 := by rw [← hL.1]; simp only [List.length_cons]; omega
  obtain ⟨kq, hkq⟩ := List.getElem?_of_mem (z_en_mem (L := x0 :: x1 :: x2 :: x3 :: x4 :: x5 :: some (.int x) :: t) (i := 6) (v := .int x) |>.mpr rfl)
  exact lv_iinc (v := x + (-1)) C.1 C.2.1 d0 hL.has hkq rfl hi rfl (fun ls2 h2 => kk p e R s m args below meth c H locs cells slots ls2 mc ms C hR hS (hL.set hi rfl h2) hd hk)
theorem z_iinc6f {x0 x1 x2 x3 x4 x5 : Option Value} {t : List (Option Value)} {x : Int32} (d0 : decode Y.2.1 pc = .ok (.iinc 6 4, 3)) (kk : z_E G Y d Z (pc + 3) (x0 :: x1 :: x2 :: x3 :: x4 :: x5 :: some (.int (x + 4)) :: t) st w k n) : z_E G Y d Z pc (x0 :: x1 :: x2 :: x3 :: x4 :: x5 :: some (.int x) :: t) st w k n := by
  intro p e R s m args below meth c H locs cells slots ls mc ms C hR hS hL hd hk
  have hi : 6 < Y.2.2.1 := by rw [← hL.1]; simp only [List.length_cons]; omega
  obtain ⟨kq, hkq⟩ := List.getElem?_of_mem (z_en_mem (L := x0 :: x1 :: x2 :: x3 :: x4 :: x5 :: some (.int x) :: t) (i := 6) (v := .int x) |>.mpr rfl)
  exact lv_iinc (v := x + 4) C.1 C.2.1 d0 hL.has hkq rfl hi rfl (fun ls2 h2 => kk p e R s m args below meth c H locs cells slots ls2 mc ms C hR hS (hL.set hi rfl h2) hd hk)
theorem z_istore7 {x0 x1 x2 x3 x4 x5 x6 y : Option Value} {t : List (Option Value)} {x : Int32} (d0 : decode Y.2.1 pc = .ok (.istore 7, 2)) (kk : z_E G Y d Z (pc + 2) (x0 :: x1 :: x2 :: x3 :: x4 :: x5 :: x6 :: some (.int x) :: t) st w k n) : z_E G Y d Z pc (x0 :: x1 :: x2 :: x3 :: x4 :: x5 :: x6 :: y :: t) (.int x :: st) w k n := by
  intro p e R s m args below meth c H locs cells slots ls mc ms C hR hS hL hd hk
  have hi : 7 < Y.2.2.1 := by rw [← hL.1]; simp only [List.length_cons]; omega
  exact lv_istore C.1 C.2.1 d0 hL.has hi rfl (fun ls2 h2 => kk p e R s m args below meth c H locs cells slots ls2 mc ms C hR hS (hL.set hi rfl h2) hd hk)
theorem z_astore7 {x0 x1 x2 x3 x4 x5 x6 y : Option Value} {t : List (Option Value)} {v : Value} (d0 : decode Y.2.1 pc = .ok (.astore 7, 2)) (hv : z_isr v = true) (kk : z_E G Y d Z (pc + 2) (x0 :: x1 :: x2 :: x3 :: x4 :: x5 :: x6 :: some v :: t) st w k n) : z_E G Y d Z pc (x0 :: x1 :: x2 :: x3 :: x4 :: x5 :: x6 :: y :: t) (v :: st) w k n := by
  intro p e R s m args below meth c H locs cells slots ls mc ms C hR hS hL hd hk
  have hi : 7 < Y.2.2.1 := by rw [← hL.1]; simp only [List.length_cons]; omega
  rcases z_isr_or hv with rfl | ⟨a, rfl⟩
  · exact lv_astoreN C.1 C.2.1 d0 hL.has hi rfl (fun ls2 h2 => kk p e R s m args below meth c H locs cells slots ls2 mc ms C hR hS (hL.set hi rfl h2) hd hk)
  · exact lv_astore C.1 C.2.1 d0 hL.has hi rfl (fun ls2 h2 => kk p e R s m args below meth c H locs cells slots ls2 mc ms C hR hS (hL.set hi rfl h2) hd hk)
theorem z_fstore7 {x0 x1 x2 x3 x4 x5 x6 y : Option Value} {t : List (Option Value)} {x : UInt32} (d0 : decode Y.2.1 pc = .ok (.fstore 7, 2)) (kk : z_E G Y d Z (pc + 2) (x0 :: x1 :: x2 :: x3 :: x4 :: x5 :: x6 :: some (.float x) :: t) st w k n) : z_E G Y d Z pc (x0 :: x1 :: x2 :: x3 :: x4 :: x5 :: x6 :: y :: t) (.float x :: st) w k n := by
  intro p e R s m args below meth c H locs cells slots ls mc ms C hR hS hL hd hk
  have hi : 7 < Y.2.2.1 := by rw [← hL.1]; simp only [List.length_cons]; omega
  exact lv_fstore C.1 C.2.1 d0 hL.has hi rfl (fun ls2 h2 => kk p e R s m args below meth c H locs cells slots ls2 mc ms C hR hS (hL.set hi rfl h2) hd hk)
theorem z_iinc7 {x0 x1 x2 x3 x4 x5 x6 : Option Value} {t : List (Option Value)} {x : Int32} (d0 : decode Y.2.1 pc = .ok (.iinc 7 1, 3)) (kk : z_E G Y d Z (pc + 3) (x0 :: x1 :: x2 :: x3 :: x4 :: x5 :: x6 :: some (.int (x + 1)) :: t) st w k n) : z_E G Y d Z pc (x0 :: x1 :: x2 :: x3 :: x4 :: x5 :: x6 :: some (.int x) :: t) st w k n := by
  intro p e R s m args below meth c H locs cells slots ls mc ms C hR hS hL hd hk
  have hi : 7 < Y.2.2.1 := by rw [← hL.1]; simp only [List.length_cons]; omega
  obtain ⟨kq, hkq⟩ := List.getElem?_of_mem (z_en_mem (L := x0 :: x1 :: x2 :: x3 :: x4 :: x5 :: x6 :: some (.int x) :: t) (i := 7) (v := .int x) |>.mpr rfl)
  exact lv_iinc (v := x + 1) C.1 C.2.1 d0 hL.has hkq rfl hi rfl (fun ls2 h2 => kk p e R s m args below meth c H locs cells slots ls2 mc ms C hR hS (hL.set hi rfl h2) hd hk)
theorem z_iinc7m {x0 x1 x2 x3 x4 x5 x6 : Option Value} {t : List (Option Value)} {x : Int32} (d0 : decode Y.2.1 pc = .ok (.iinc 7 (-1), 3)) (kk : z_E G Y d Z (pc + 3) (x0 :: x1 :: x2 :: x3 :: x4 :: x5 :: x6 :: some (.int (x + (-1))) :: t) st w k n) : z_E G Y d Z pc (x0 :: x1 :: x2 :: x3 :: x4 :: x5 :: x6 :: some (.int x) :: t) st w k n := by
  intro p e R s m args below meth c H locs cells slots ls mc ms C hR hS hL hd hk
  have hi : 7 < Y.2.2.1 := by rw [← hL.1]; simp only [List.length_cons]; omega
  obtain ⟨kq, hkq⟩ := List.getElem?_of_mem (z_en_mem (L := x0 :: x1 :: x2 :: x3 :: x4 :: x5 :: x6 :: some (.int x) :: t) (i := 7) (v := .int x) |>.mpr rfl)
  exact lv_iinc (v := x + (-1)) C.1 C.2.1 d0 hL.has hkq rfl hi rfl (fun ls2 h2 => kk p e R s m args below meth c H locs cells slots ls2 mc ms C hR hS (hL.set hi rfl h2) hd hk)
theorem z_iinc7f {x0 x1 x2 x3 x4 x5 x6 : Option Value} {t : List (Option Value)} {x : Int32} (d0 : decode Y.2.1 pc = .ok (.iinc 7 4, 3)) (kk : z_E G Y d Z (pc + 3) (x0 :: x1 :: x2 :: x3 :: x4 :: x5 :: x6 :: some (.int (x + 4)) :: t) st w k n) : z_E G Y d Z pc (x0 :: x1 :: x2 :: x3 :: x4 :: x5 :: x6 :: some (.int x) :: t) st w k n := by
  intro p e R s m args below meth c H locs cells slots ls mc ms C hR hS hL hd hk
  have hi : 7 < Y.2.2.1 := by rw [← hL.1]; simp only [List.length_cons]; omega
  obtain ⟨kq, hkq⟩ := List.getElem?_of_mem (z_en_mem (L := x0 :: x1 :: x2 :: x3 :: x4 :: x5 :: x6 :: some (.int x) :: t) (i := 7) (v := .int x) |>.mpr rfl)
  exact lv_iinc (v := x + 4) C.1 C.2.1 d0 hL.has hkq rfl hi rfl (fun ls2 h2 => kk p e R s m args below meth c H locs cells slots ls2 mc ms C hR hS (hL.set hi rfl h2) hd hk)
theorem z_istore8 {x0 x1 x2 x3 x4 x5 x6 x7 y : Option Value} {t : List (Option Value)} {x : Int32} (d0 : decode Y.2.1 pc = .ok (.istore 8, 2)) (kk : z_E G Y d Z (pc + 2) (x0 :: x1 :: x2 :: x3 :: x4 :: x5 :: x6 :: x7 :: some (.int x) :: t) st w k n) : z_E G Y d Z pc (x0 :: x1 :: x2 :: x3 :: x4 :: x5 :: x6 :: x7 :: y :: t) (.int x :: st) w k n := by
  intro p e R s m args below meth c H locs cells slots ls mc ms C hR hS hL hd hk
  have hi : 8 < Y.2.2.1 := by rw [← hL.1]; simp only [List.length_cons]; omega
  exact lv_istore C.1 C.2.1 d0 hL.has hi rfl (fun ls2 h2 => kk p e R s m args below meth c H locs cells slots ls2 mc ms C hR hS (hL.set hi rfl h2) hd hk)
theorem z_astore8 {x0 x1 x2 x3 x4 x5 x6 x7 y : Option Value} {t : List (Option Value)} {v : Value} (d0 : decode Y.2.1 pc = .ok (.astore 8, 2)) (hv : z_isr v = true) (kk : z_E G Y d Z (pc + 2) (x0 :: x1 :: x2 :: x3 :: x4 :: x5 :: x6 :: x7 :: some v :: t) st w k n) : z_E G Y d Z pc (x0 :: x1 :: x2 :: x3 :: x4 :: x5 :: x6 :: x7 :: y :: t) (v :: st) w k n := by
  intro p e R s m args below meth c H locs cells slots ls mc ms C hR hS hL hd hk
  have hi : 8 < Y.2.2.1 := by rw [← hL.1]; simp only [List.length_cons]; omega
  rcases z_isr_or hv with rfl | ⟨a, rfl⟩
  · exact lv_astoreN C.1 C.2.1 d0 hL.has hi rfl (fun ls2 h2 => kk p e R s m args below meth c H locs cells slots ls2 mc ms C hR hS (hL.set hi rfl h2) hd hk)
  · exact lv_astore C.1 C.2.1 d0 hL.has hi rfl (fun ls2 h2 => kk p e R s m args below meth c H locs cells slots ls2 mc ms C hR hS (hL.set hi rfl h2) hd hk)
theorem z_iinc8 {x0 x1 x2 x3 x4 x5 x6 x7 : Option Value} {t : List (Option Value)} {x : Int32} (d0 : decode Y.2.1 pc = .ok (.iinc 8 1, 3)) (kk : z_E G Y d Z (pc + 3) (x0 :: x1 :: x2 :: x3 :: x4 :: x5 :: x6 :: x7 :: some (.int (x + 1)) :: t) st w k n) : z_E G Y d Z pc (x0 :: x1 :: x2 :: x3 :: x4 :: x5 :: x6 :: x7 :: some (.int x) :: t) st w k n := by
  intro p e R s m args below meth c H locs cells slots ls mc ms C hR hS hL hd hk
  have hi : 8 < Y.2.2.1 := by rw [← hL.1]; simp only [List.length_cons]; omega
  obtain ⟨kq, hkq⟩ := List.getElem?_of_mem (z_en_mem (L := x0 :: x1 :: x2 :: x3 :: x4 :: x5 :: x6 :: x7 :: some (.int x) :: t) (i := 8) (v := .int x) |>.mpr rfl)
  exact lv_iinc (v := x + 1) C.1 C.2.1 d0 hL.has hkq rfl hi rfl (fun ls2 h2 => kk p e R s m args below meth c H locs cells slots ls2 mc ms C hR hS (hL.set hi rfl h2) hd hk)
theorem z_iinc8m {x0 x1 x2 x3 x4 x5 x6 x7 : Option Value} {t : List (Option Value)} {x : Int32} (d0 : decode Y.2.1 pc = .ok (.iinc 8 (-1), 3)) (kk : z_E G Y d Z (pc + 3) (x0 :: x1 :: x2 :: x3 :: x4 :: x5 :: x6 :: x7 :: some (.int (x + (-1))) :: t) st w k n) : z_E G Y d Z pc (x0 :: x1 :: x2 :: x3 :: x4 :: x5 :: x6 :: x7 :: some (.int x) :: t) st w k n := by
  intro p e R s m args below meth c H locs cells slots ls mc ms C hR hS hL hd hk
  have hi : 8 < Y.2.2.1 := by rw [← hL.1]; simp only [List.length_cons]; omega
  obtain ⟨kq, hkq⟩ := List.getElem?_of_mem (z_en_mem (L := x0 :: x1 :: x2 :: x3 :: x4 :: x5 :: x6 :: x7 :: some (.int x) :: t) (i := 8) (v := .int x) |>.mpr rfl)
  exact lv_iinc (v := x + (-1)) C.1 C.2.1 d0 hL.has hkq rfl hi rfl (fun ls2 h2 => kk p e R s m args below meth c H locs cells slots ls2 mc ms C hR hS (hL.set hi rfl h2) hd hk)
theorem z_iinc8f {x0 x1 x2 x3 x4 x5 x6 x7 : Option Value} {t : List (Option Value)} {x : Int32} (d0 : decode Y.2.1 pc = .ok (.iinc 8 4, 3)) (kk : z_E G Y d Z (pc + 3) (x0 :: x1 :: x2 :: x3 :: x4 :: x5 :: x6 :: x7 :: some (.int (x + 4)) :: t) st w k n) : z_E G Y d Z pc (x0 :: x1 :: x2 :: x3 :: x4 :: x5 :: x6 :: x7 :: some (.int x) :: t) st w k n := by
  intro p e R s m args below meth c H locs cells slots ls mc ms C hR hS hL hd hk
  have hi : 8 < Y.2.2.1 := by rw [← hL.1]; simp only [List.length_cons]; omega
  obtain ⟨kq, hkq⟩ := List.getElem?_of_mem (z_en_mem (L := x0 :: x1 :: x2 :: x3 :: x4 :: x5 :: x6 :: x7 :: some (.int x) :: t) (i := 8) (v := .int x) |>.mpr rfl)
  exact lv_iinc (v := x + 4) C.1 C.2.1 d0 hL.has hkq rfl hi rfl (fun ls2 h2 => kk p e R s m args below meth c H locs cells slots ls2 mc ms C hR hS (hL.set hi rfl h2) hd hk)
theorem z_istore9 {x0 x1 x2 x3 x4 x5 x6 x7 x8 y : Option Value} {t : List (Option Value)} {x : Int32} (d0 : decode Y.2.1 pc = .ok (.istore 9, 2)) (kk : z_E G Y d Z (pc + 2) (x0 :: x1 :: x2 :: x3 :: x4 :: x5 :: x6 :: x7 :: x8 :: some (.int x) :: t) st w k n) : z_E G Y d Z pc (x0 :: x1 :: x2 :: x3 :: x4 :: x5 :: x6 :: x7 :: x8 :: y :: t) (.int x :: st) w k n := by
  intro p e R s m args below meth c H locs cells slots ls mc ms C hR hS hL hd hk
  have hi : 9 < Y.2.2.1 := by rw [← hL.1]; simp only [List.length_cons]; omega
  exact lv_istore C.1 C.2.1 d0 hL.has hi rfl (fun ls2 h2 => kk p e R s m args below meth c H locs cells slots ls2 mc ms C hR hS (hL.set hi rfl h2) hd hk)
theorem z_astore9 {x0 x1 x2 x3 x4 x5 x6 x7 x8 y : Option Value} {t : List (Option Value)} {v : Value} (d0 : decode Y.2.1 pc = .ok (.astore 9, 2)) (hv : z_isr v = true) (kk : z_E G Y d Z (pc + 2) (x0 :: x1 :: x2 :: x3 :: x4 :: x5 :: x6 :: x7 :: x8 :: some v :: t) st w k n) : z_E G Y d Z pc (x0 :: x1 :: x2 :: x3 :: x4 :: x5 :: x6 :: x7 :: x8 :: y :: t) (v :: st) w k n := by
  intro p e R s m args below meth c H locs cells slots ls mc ms C hR hS hL hd hk
  have hi : 9 < Y.2.2.1 := by rw [← hL.1]; simp only [List.length_cons]; omega
  rcases z_isr_or hv with rfl | ⟨a, rfl⟩
  · exact lv_astoreN C.1 C.2.1 d0 hL.has hi rfl (fun ls2 h2 => kk p e R s m args below meth c H locs cells slots ls2 mc ms C hR hS (hL.set hi rfl h2) hd hk)
  · exact lv_astore C.1 C.2.1 d0 hL.has hi rfl (fun ls2 h2 => kk p e R s m args below meth c H locs cells slots ls2 mc ms C hR hS (hL.set hi rfl h2) hd hk)
theorem z_iinc9 {x0 x1 x2 x3 x4 x5 x6 x7 x8 : Option Value} {t : List (Option Value)} {x : Int32} (d0 : decode Y.2.1 pc = .ok (.iinc 9 1, 3)) (kk : z_E G Y d Z (pc + 3) (x0 :: x1 :: x2 :: x3 :: x4 :: x5 :: x6 :: x7 :: x8 :: some (.int (x + 1)) :: t) st w k n) : z_E G Y d Z pc (x0 :: x1 :: x2 :: x3 :: x4 :: x5 :: x6 :: x7 :: x8 :: some (.int x) :: t) st w k n := by
  intro p e R s m args below meth c H locs cells slots ls mc ms C hR hS hL hd hk
  have hi : 9 < Y.2.2.1 := by rw [← hL.1]; simp only [List.length_cons]; omega
  obtain ⟨kq, hkq⟩ := List.getElem?_of_mem (z_en_mem (L := x0 :: x1 :: x2 :: x3 :: x4 :: x5 :: x6 :: x7 :: x8 :: some (.int x) :: t) (i := 9) (v := .int x) |>.mpr rfl)
  exact lv_iinc (v := x + 1) C.1 C.2.1 d0 hL.has hkq rfl hi rfl (fun ls2 h2 => kk p e R s m args below meth c H locs cells slots ls2 mc ms C hR hS (hL.set hi rfl h2) hd hk)
theorem z_iinc9m {x0 x1 x2 x3 x4 x5 x6 x7 x8 : Option Value} {t : List (Option Value)} {x : Int32} (d0 : decode Y.2.1 pc = .ok (.iinc 9 (-1), 3)) (kk : z_E G Y d Z (pc + 3) (x0 :: x1 :: x2 :: x3 :: x4 :: x5 :: x6 :: x7 :: x8 :: some (.int (x + (-1))) :: t) st w k n) : z_E G Y d Z pc (x0 :: x1 :: x2 :: x3 :: x4 :: x5 :: x6 :: x7 :: x8 :: some (.int x) :: t) st w k n := by
  intro p e R s m args below meth c H locs cells slots ls mc ms C hR hS hL hd hk
  have hi : 9 < Y.2.2.1 := by rw [← hL.1]; simp only [List.length_cons]; omega
  obtain ⟨kq, hkq⟩ := List.getElem?_of_mem (z_en_mem (L := x0 :: x1 :: x2 :: x3 :: x4 :: x5 :: x6 :: x7 :: x8 :: some (.int x) :: t) (i := 9) (v := .int x) |>.mpr rfl)
  exact lv_iinc (v := x + (-1)) C.1 C.2.1 d0 hL.has hkq rfl hi rfl (fun ls2 h2 => kk p e R s m args below meth c H locs cells slots ls2 mc ms C hR hS (hL.set hi rfl h2) hd hk)
theorem z_iinc9f {x0 x1 x2 x3 x4 x5 x6 x7 x8 : Option Value} {t : List (Option Value)} {x : Int32} (d0 : decode Y.2.1 pc = .ok (.iinc 9 4, 3)) (kk : z_E G Y d Z (pc + 3) (x0 :: x1 :: x2 :: x3 :: x4 :: x5 :: x6 :: x7 :: x8 :: some (.int (x + 4)) :: t) st w k n) : z_E G Y d Z pc (x0 :: x1 :: x2 :: x3 :: x4 :: x5 :: x6 :: x7 :: x8 :: some (.int x) :: t) st w k n := by
  intro p e R s m args below meth c H locs cells slots ls mc ms C hR hS hL hd hk
  have hi : 9 < Y.2.2.1 := by rw [← hL.1]; simp only [List.length_cons]; omega
  obtain ⟨kq, hkq⟩ := List.getElem?_of_mem (z_en_mem (L := x0 :: x1 :: x2 :: x3 :: x4 :: x5 :: x6 :: x7 :: x8 :: some (.int x) :: t) (i := 9) (v := .int x) |>.mpr rfl)
  exact lv_iinc (v := x + 4) C.1 C.2.1 d0 hL.has hkq rfl hi rfl (fun ls2 h2 => kk p e R s m args below meth c H locs cells slots ls2 mc ms C hR hS (hL.set hi rfl h2) hd hk)
theorem z_istore10 {x0 x1 x2 x3 x4 x5 x6 x7 x8 x9 y : Option Value} {t : List (Option Value)} {x : Int32} (d0 : decode Y.2.1 pc = .ok (.istore 10, 2)) (kk : z_E G Y d Z (pc + 2) (x0 :: x1 :: x2 :: x3 :: x4 :: x5 :: x6 :: x7 :: x8 :: x9 :: some (.int x) :: t) st w k n) : z_E G Y d Z pc (x0 :: x1 :: x2 :: x3 :: x4 :: x5 :: x6 :: x7 :: x8 :: x9 :: y :: t) (.int x :: st) w k n := by
  intro p e R s m args below meth c H locs cells slots ls mc ms C hR hS hL hd hk
  have hi : 10 < Y.2.2.1 := by rw [← hL.1]; simp only [List.length_cons]; omega
  exact lv_istore C.1 C.2.1 d0 hL.has hi rfl (fun ls2 h2 => kk p e R s m args below meth c H locs cells slots ls2 mc ms C hR hS (hL.set hi rfl h2) hd hk)
theorem z_astore10 {x0 x1 x2 x3 x4 x5 x6 x7 x8 x9 y : Option Value} {t : List (Option Value)} {v : Value} (d0 : decode Y.2.1 pc = .ok (.astore 10, 2)) (hv : z_isr v = true) (kk : z_E G Y d Z (pc + 2) (x0 :: x1 :: x2 :: x3 :: x4 :: x5 :: x6 :: x7 :: x8 :: x9 :: some v :: t) st w k n) : z_E G Y d Z pc (x0 :: x1 :: x2 :: x3 :: x4 :: x5 :: x6 :: x7 :: x8 :: x9 :: y :: t) (v :: st) w k n := by
  intro p e R s m args below meth c H locs cells slots ls mc ms C hR hS hL hd hk
  have hi : 10 < Y.2.2.1 := by rw [← hL.1]; simp only [List.length_cons]; omega
  rcases z_isr_or hv with rfl | ⟨a, rfl⟩
  · exact lv_astoreN C.1 C.2.1 d0 hL.has hi rfl (fun ls2 h2 => kk p e R s m args below meth c H locs cells slots ls2 mc ms C hR hS (hL.set hi rfl h2) hd hk)
  · exact lv_astore C.1 C.2.1 d0 hL.has hi rfl (fun ls2 h2 => kk p e R s m args below meth c H locs cells slots ls2 mc ms C hR hS (hL.set hi rfl h2) hd hk)
theorem z_iinc10 {x0 x1 x2 x3 x4 x5 x6 x7 x8 x9 : Option Value} {t : List (Option Value)} {x : Int32} (d0 : decode Y.2.1 pc = .ok (.iinc 10 1, 3)) (kk : z_E G Y d Z (pc + 3) (x0 :: x1 :: x2 :: x3 :: x4 :: x5 :: x6 :: x7 :: x8 :: x9 :: some (.int (x + 1)) :: t) st w k n) : z_E G Y d Z pc (x0 :: x1 :: x2 :: x3 :: x4 :: x5 :: x6 :: x7 :: x8 :: x9 :: some (.int x) :: t) st w k n := by
  intro p e R s m args below meth c H locs cells slots ls mc ms C hR hS hL hd hk
  have hi : 10 < Y.2.2.1 := by rw [← hL.1]; simp only [List.length_cons]; omega
  obtain ⟨kq, hkq⟩ := List.getElem?_of_mem (z_en_mem (L := x0 :: x1 :: x2 :: x3 :: x4 :: x5 :: x6 :: x7 :: x8 :: x9 :: some (.int x) :: t) (i := 10) (v := .int x) |>.mpr rfl)
  exact lv_iinc (v := x + 1) C.1 C.2.1 d0 hL.has hkq rfl hi rfl (fun ls2 h2 => kk p e R s m args below meth c H locs cells slots ls2 mc ms C hR hS (hL.set hi rfl h2) hd hk)
theorem z_iinc10m {x0 x1 x2 x3 x4 x5 x6 x7 x8 x9 : Option Value} {t : List (Option Value)} {x : Int32} (d0 : decode Y.2.1 pc = .ok (.iinc 10 (-1), 3)) (kk : z_E G Y d Z (pc + 3) (x0 :: x1 :: x2 :: x3 :: x4 :: x5 :: x6 :: x7 :: x8 :: x9 :: some (.int (x + (-1))) :: t) st w k n) : z_E G Y d Z pc (x0 :: x1 :: x2 :: x3 :: x4 :: x5 :: x6 :: x7 :: x8 :: x9 :: some (.int x) :: t) st w k n := by
  intro p e R s m args below meth c H locs cells slots ls mc ms C hR hS hL hd hk
  have hi : 10 < Y.2.2.1 := by rw [← hL.1]; simp only [List.length_cons]; omega
  obtain ⟨kq, hkq⟩ := List.getElem?_of_mem (z_en_mem (L := x0 :: x1 :: x2 :: x3 :: x4 :: x5 :: x6 :: x7 :: x8 :: x9 :: some (.int x) :: t) (i := 10) (v := .int x) |>.mpr rfl)
  exact lv_iinc (v := x + (-1)) C.1 C.2.1 d0 hL.has hkq rfl hi rfl (fun ls2 h2 => kk p e R s m args below meth c H locs cells slots ls2 mc ms C hR hS (hL.set hi rfl h2) hd hk)
theorem z_iinc10f {x0 x1 x2 x3 x4 x5 x6 x7 x8 x9 : Option Value} {t : List (Option Value)} {x : Int32} (d0 : decode Y.2.1 pc = .ok (.iinc 10 4, 3)) (kk : z_E G Y d Z (pc + 3) (x0 :: x1 :: x2 :: x3 :: x4 :: x5 :: x6 :: x7 :: x8 :: x9 :: some (.int (x + 4)) :: t) st w k n) : z_E G Y d Z pc (x0 :: x1 :: x2 :: x3 :: x4 :: x5 :: x6 :: x7 :: x8 :: x9 :: some (.int x) :: t) st w k n := by
  intro p e R s m args below meth c H locs cells slots ls mc ms C hR hS hL hd hk
  have hi : 10 < Y.2.2.1 := by rw [← hL.1]; simp only [List.length_cons]; omega
  obtain ⟨kq, hkq⟩ := List.getElem?_of_mem (z_en_mem (L := x0 :: x1 :: x2 :: x3 :: x4 :: x5 :: x6 :: x7 :: x8 :: x9 :: some (.int x) :: t) (i := 10) (v := .int x) |>.mpr rfl)
  exact lv_iinc (v := x + 4) C.1 C.2.1 d0 hL.has hkq rfl hi rfl (fun ls2 h2 => kk p e R s m args below meth c H locs cells slots ls2 mc ms C hR hS (hL.set hi rfl h2) hd hk)
theorem z_istore11 {x0 x1 x2 x3 x4 x5 x6 x7 x8 x9 x10 y : Option Value} {t : List (Option Value)} {x : Int32} (d0 : decode Y.2.1 pc = .ok (.istore 11, 2)) (kk : z_E G Y d Z (pc + 2) (x0 :: x1 :: x2 :: x3 :: x4 :: x5 :: x6 :: x7 :: x8 :: x9 :: x10 :: some (.int x) :: t) st w k n) : z_E G Y d Z pc (x0 :: x1 :: x2 :: x3 :: x4 :: x5 :: x6 :: x7 :: x8 :: x9 :: x10 :: y :: t) (.int x :: st) w k n := by
  intro p e R s m args below meth c H locs cells slots ls mc ms C hR hS hL hd hk
  have hi : 11 < Y.2.2.1 := by rw [← hL.1]; simp only [List.length_cons]; omega
  exact lv_istore C.1 C.2.1 d0 hL.has hi rfl (fun ls2 h2 => kk p e R s m args below meth c H locs cells slots ls2 mc ms C hR hS (hL.set hi rfl h2) hd hk)
theorem z_astore11 {x0 x1 x2 x3 x4 x5 x6 x7 x8 x9 x10 y : Option Value} {t : List (Option Value)} {v : Value} (d0 : decode Y.2.1 pc = .ok (.astore 11, 2)) (hv : z_isr v = true) (kk : z_E G Y d Z (pc + 2) (x0 :: x1 :: x2 :: x3 :: x4 :: x5 :: x6 :: x7 :: x8 :: x9 :: x10 :: some v :: t) st w k n) : z_E G Y d Z pc (x0 :: x1 :: x2 :: x3 :: x4 :: x5 :: x6 :: x7 :: x8 :: x9 :: x10 :: y :: t) (v :: st) w k n := by
  intro p e R s m args below meth c H locs cells slots ls mc ms C hR hS hL hd hk
  have hi : 11 < Y.2.2.1 := by rw [← hL.1]; simp only [List.length_cons]; omega
  rcases z_isr_or hv with rfl | ⟨a, rfl⟩
  · exact lv_astoreN C.1 C.2.1 d0 hL.has hi rfl (fun ls2 h2 => kk p e R s m args below meth c H locs cells slots ls2 mc ms C hR hS (hL.set hi rfl h2) hd hk)
  · exact lv_astore C.1 C.2.1 d0 hL.has hi rfl (fun ls2 h2 => kk p e R s m args below meth c H locs cells slots ls2 mc ms C hR hS (hL.set hi rfl h2) hd hk)
theorem z_iinc11 {x0 x1 x2 x3 x4 x5 x6 x7 x8 x9 x10 : Option Value} {t : List (Option Value)} {x : Int32} (d0 : decode Y.2.1 pc = .ok (.iinc 11 1, 3)) (kk : z_E G Y d Z (pc + 3) (x0 :: x1 :: x2 :: x3 :: x4 :: x5 :: x6 :: x7 :: x8 :: x9 :: x10 :: some (.int (x + 1)) :: t) st w k n) : z_E G Y d Z pc (x0 :: x1 :: x2 :: x3 :: x4 :: x5 :: x6 :: x7 :: x8 :: x9 :: x10 :: some (.int x) :: t) st w k n := by
  intro p e R s m args below meth c H locs cells slots ls mc ms C hR hS hL hd hk
  have hi : 11 < Y.2.2.1 := by rw [← hL.1]; simp only [List.length_cons]; omega
  obtain ⟨kq, hkq⟩ := List.getElem?_of_mem (z_en_mem (L := x0 :: x1 :: x2 :: x3 :: x4 :: x5 :: x6 :: x7 :: x8 :: x9 :: x10 :: some (.int x) :: t) (i := 11) (v := .int x) |>.mpr rfl)
  exact lv_iinc (v := x + 1) C.1 C.2.1 d0 hL.has hkq rfl hi rfl (fun ls2 h2 => kk p e R s m args below meth c H locs cells slots ls2 mc ms C hR hS (hL.set hi rfl h2) hd hk)
theorem z_iinc11m {x0 x1 x2 x3 x4 x5 x6 x7 x8 x9 x10 : Option Value} {t : List (Option Value)} {x : Int32} (d0 : decode Y.2.1 pc = .ok (.iinc 11 (-1), 3)) (kk : z_E G Y d Z (pc + 3) (x0 :: x1 :: x2 :: x3 :: x4 :: x5 :: x6 :: x7 :: x8 :: x9 :: x10 :: some (.int (x + (-1))) :: t) st w k n) : z_E G Y d Z pc (x0 :: x1 :: x2 :: x3 :: x4 :: x5 :: x6 :: x7 :: x8 :: x9 :: x10 :: some (.int x) :: t) st w k n := by
  intro p e R s m args below meth c H locs cells slots ls mc ms C hR hS hL hd hk
  have hi : 11 < Y.2.2.1 := by rw [← hL.1]; simp only [List.length_cons]; omega
  obtain ⟨kq, hkq⟩ := List.getElem?_of_mem (z_en_mem (L := x0 :: x1 :: x2 :: x3 :: x4 :: x5 :: x6 :: x7 :: x8 :: x9 :: x10 :: some (.int x) :: t) (i := 11) (v := .int x) |>.mpr rfl)
  exact lv_iinc (v := x + (-1)) C.1 C.2.1 d0 hL.has hkq rfl hi rfl (fun ls2 h2 => kk p e R s m args below meth c H locs cells slots ls2 mc ms C hR hS (hL.set hi rfl h2) hd hk)
theorem z_iinc11f {x0 x1 x2 x3 x4 x5 x6 x7 x8 x9 x10 : Option Value} {t : List (Option Value)} {x : Int32} (d0 : decode Y.2.1 pc = .ok (.iinc 11 4, 3)) (kk : z_E G Y d Z (pc + 3) (x0 :: x1 :: x2 :: x3 :: x4 :: x5 :: x6 :: x7 :: x8 :: x9 :: x10 :: some (.int (x + 4)) :: t) st w k n) : z_E G Y d Z pc (x0 :: x1 :: x2 :: x3 :: x4 :: x5 :: x6 :: x7 :: x8 :: x9 :: x10 :: some (.int x) :: t) st w k n := by
  intro p e R s m args below meth c H locs cells slots ls mc ms C hR hS hL hd hk
  have hi : 11 < Y.2.2.1 := by rw [← hL.1]; simp only [List.length_cons]; omega
  obtain ⟨kq, hkq⟩ := List.getElem?_of_mem (z_en_mem (L := x0 :: x1 :: x2 :: x3 :: x4 :: x5 :: x6 :: x7 :: x8 :: x9 :: x10 :: some (.int x) :: t) (i := 11) (v := .int x) |>.mpr rfl)
  exact lv_iinc (v := x + 4) C.1 C.2.1 d0 hL.has hkq rfl hi rfl (fun ls2 h2 => kk p e R s m args below meth c H locs cells slots ls2 mc ms C hR hS (hL.set hi rfl h2) hd hk)
theorem z_istore12 {x0 x1 x2 x3 x4 x5 x6 x7 x8 x9 x10 x11 y : Option Value} {t : List (Option Value)} {x : Int32} (d0 : decode Y.2.1 pc = .ok (.istore 12, 2)) (kk : z_E G Y d Z (pc + 2) (x0 :: x1 :: x2 :: x3 :: x4 :: x5 :: x6 :: x7 :: x8 :: x9 :: x10 :: x11 :: some (.int x) :: t) st w k n) : z_E G Y d Z pc (x0 :: x1 :: x2 :: x3 :: x4 :: x5 :: x6 :: x7 :: x8 :: x9 :: x10 :: x11 :: y :: t) (.int x :: st) w k n := by
  intro p e R s m args below meth c H locs cells slots ls mc ms C hR hS hL hd hk
  have hi : 12 < Y.2.2.1 := by rw [← hL.1]; simp only [List.length_cons]; omega
  exact lv_istore C.1 C.2.1 d0 hL.has hi rfl (fun ls2 h2 => kk p e R s m args below meth c H locs cells slots ls2 mc ms C hR hS (hL.set hi rfl h2) hd hk)
theorem z_astore12 {x0 x1 x2 x3 x4 x5 x6 x7 x8 x9 x10 x11 y : Option Value} {t : List (Option Value)} {v : Value} (d0 : decode Y.2.1 pc = .ok (.astore 12, 2)) (hv : z_isr v = true) (kk : z_E G Y d Z (pc + 2) (x0 :: x1 :: x2 :: x3 :: x4 :: x5 :: x6 :: x7 :: x8 :: x9 :: x10 :: x11 :: some v :: t) st w k n) : z_E G Y d Z pc (x0 :: x1 :: x2 :: x3 :: x4 :: x5 :: x6 :: x7 :: x8 :: x9 :: x10 :: x11 :: y :: t) (v :: st) w k n := by
  intro p e R s m args below meth c H locs cells slots ls mc ms C hR hS hL hd hk
  have hi : 12 < Y.2.2.1 := by rw [← hL.1]; simp only [List.length_cons]; omega
  rcases z_isr_or hv with rfl | ⟨a, rfl⟩
  · exact lv_astoreN C.1 C.2.1 d0 hL.has hi rfl (fun ls2 h2 => kk p e R s m args below meth c H locs cells slots ls2 mc ms C hR hS (hL.set hi rfl h2) hd hk)
  · exact lv_astore C.1 C.2.1 d0 hL.has hi rfl (fun ls2 h2 => kk p e R s m args below meth c H locs cells slots ls2 mc ms C hR hS (hL.set hi rfl h2) hd hk)
theorem z_iinc12 {x0 x1 x2 x3 x4 x5 x6 x7 x8 x9 x10 x11 : Option Value} {t : List (Option Value)} {x : Int32} (d0 : decode Y.2.1 pc = .ok (.iinc 12 1, 3)) (kk : z_E G Y d Z (pc + 3) (x0 :: x1 :: x2 :: x3 :: x4 :: x5 :: x6 :: x7 :: x8 :: x9 :: x10 :: x11 :: some (.int (x + 1)) :: t) st w k n) : z_E G Y d Z pc (x0 :: x1 :: x2 :: x3 :: x4 :: x5 :: x6 :: x7 :: x8 :: x9 :: x10 :: x11 :: some (.int x) :: t) st w k n := by
  intro p e R s m args below meth c H locs cells slots ls mc ms C hR hS hL hd hk
  have hi : 12 < Y.2.2.1 := by rw [← hL.1]; simp only [List.length_cons]; omega
  obtain ⟨kq, hkq⟩ := List.getElem?_of_mem (z_en_mem (L := x0 :: x1 :: x2 :: x3 :: x4 :: x5 :: x6 :: x7 :: x8 :: x9 :: x10 :: x11 :: some (.int x) :: t) (i := 12) (v := .int x) |>.mpr rfl)
  exact lv_iinc (v := x + 1) C.1 C.2.1 d0 hL.has hkq rfl hi rfl (fun ls2 h2 => kk p e R s m args below meth c H locs cells slots ls2 mc ms C hR hS (hL.set hi rfl h2) hd hk)
theorem z_iinc12m {x0 x1 x2 x3 x4 x5 x6 x7 x8 x9 x10 x11 : Option Value} {t : List (Option Value)} {x : Int32} (d0 : decode Y.2.1 pc = .ok (.iinc 12 (-1), 3)) (kk : z_E G Y d Z (pc + 3) (x0 :: x1 :: x2 :: x3 :: x4 :: x5 :: x6 :: x7 :: x8 :: x9 :: x10 :: x11 :: some (.int (x + (-1))) :: t) st w k n) : z_E G Y d Z pc (x0 :: x1 :: x2 :: x3 :: x4 :: x5 :: x6 :: x7 :: x8 :: x9 :: x10 :: x11 :: some (.int x) :: t) st w k n := by
  intro p e R s m args below meth c H locs cells slots ls mc ms C hR hS hL hd hk
  have hi : 12 < Y.2.2.1 := by rw [← hL.1]; simp only [List.length_cons]; omega
  obtain ⟨kq, hkq⟩ := List.getElem?_of_mem (z_en_mem (L := x0 :: x1 :: x2 :: x3 :: x4 :: x5 :: x6 :: x7 :: x8 :: x9 :: x10 :: x11 :: some (.int x) :: t) (i := 12) (v := .int x) |>.mpr rfl)
  exact lv_iinc (v := x + (-1)) C.1 C.2.1 d0 hL.has hkq rfl hi rfl (fun ls2 h2 => kk p e R s m args below meth c H locs cells slots ls2 mc ms C hR hS (hL.set hi rfl h2) hd hk)
theorem z_iinc12f {x0 x1 x2 x3 x4 x5 x6 x7 x8 x9 x10 x11 : Option Value} {t : List (Option Value)} {x : Int32} (d0 : decode Y.2.1 pc = .ok (.iinc 12 4, 3)) (kk : z_E G Y d Z (pc + 3) (x0 :: x1 :: x2 :: x3 :: x4 :: x5 :: x6 :: x7 :: x8 :: x9 :: x10 :: x11 :: some (.int (x + 4)) :: t) st w k n) : z_E G Y d Z pc (x0 :: x1 :: x2 :: x3 :: x4 :: x5 :: x6 :: x7 :: x8 :: x9 :: x10 :: x11 :: some (.int x) :: t) st w k n := by
  intro p e R s m args below meth c H locs cells slots ls mc ms C hR hS hL hd hk
  have hi : 12 < Y.2.2.1 := by rw [← hL.1]; simp only [List.length_cons]; omega
  obtain ⟨kq, hkq⟩ := List.getElem?_of_mem (z_en_mem (L := x0 :: x1 :: x2 :: x3 :: x4 :: x5 :: x6 :: x7 :: x8 :: x9 :: x10 :: x11 :: some (.int x) :: t) (i := 12) (v := .int x) |>.mpr rfl)
  exact lv_iinc (v := x + 4) C.1 C.2.1 d0 hL.has hkq rfl hi rfl (fun ls2 h2 => kk p e R s m args below meth c H locs cells slots ls2 mc ms C hR hS (hL.set hi rfl h2) hd hk)
theorem z_istore13 {x0 x1 x2 x3 x4 x5 x6 x7 x8 x9 x10 x11 x12 y : Option Value} {t : List (Option Value)} {x : Int32} (d0 : decode Y.2.1 pc = .ok (.istore 13, 2)) (kk : z_E G Y d Z (pc + 2) (x0 :: x1 :: x2 :: x3 :: x4 :: x5 :: x6 :: x7 :: x8 :: x9 :: x10 :: x11 :: x12 :: some (.int x) :: t) st w k n) : z_E G Y d Z pc (x0 :: x1 :: x2 :: x3 :: x4 :: x5 :: x6 :: x7 :: x8 :: x9 :: x10 :: x11 :: x12 :: y :: t) (.int x :: st) w k n := by
  intro p e R s m args below meth c H locs cells slots ls mc ms C hR hS hL hd hk
  have hi : 13 < Y.2.2.1 := by rw [← hL.1]; simp only [List.length_cons]; omega
  exact lv_istore C.1 C.2.1 d0 hL.has hi rfl (fun ls2 h2 => kk p e R s m args below meth c H locs cells slots ls2 mc ms C hR hS (hL.set hi rfl h2) hd hk)
theorem z_astore13 {x0 x1 x2 x3 x4 x5 x6 x7 x8 x9 x10 x11 x12 y : Option Value} {t : List (Option Value)} {v : Value} (d0 : decode Y.2.1 pc = .ok (.astore 13, 2)) (hv : z_isr v = true) (kk : z_E G Y d Z (pc + 2) (x0 :: x1 :: x2 :: x3 :: x4 :: x5 :: x6 :: x7 :: x8 :: x9 :: x10 :: x11 :: x12 :: some v :: t) st w k n) : z_E G Y d Z pc (x0 :: x1 :: x2 :: x3 :: x4 :: x5 :: x6 :: x7 :: x8 :: x9 :: x10 :: x11 :: x12 :: y :: t) (v :: st) w k n := by
  intro p e R s m args below meth c H locs cells slots ls mc ms C hR hS hL hd hk
  have hi : 13 < Y.2.2.1 := by rw [← hL.1]; simp only [List.length_cons]; omega
  rcases z_isr_or hv with rfl | ⟨a, rfl⟩
  · exact lv_astoreN C.1 C.2.1 d0 hL.has hi rfl (fun ls2 h2 => kk p e R s m args below meth c H locs cells slots ls2 mc ms C hR hS (hL.set hi rfl h2) hd hk)
  · exact lv_astore C.1 C.2.1 d0 hL.has hi rfl (fun ls2 h2 => kk p e R s m args below meth c H locs cells slots ls2 mc ms C hR hS (hL.set hi rfl h2) hd hk)
theorem z_iinc13 {x0 x1 x2 x3 x4 x5 x6 x7 x8 x9 x10 x11 x12 : Option Value} {t : List (Option Value)} {x : Int32} (d0 : decode Y.2.1 pc = .ok (.iinc 13 1, 3)) (kk : z_E G Y d Z (pc + 3) (x0 :: x1 :: x2 :: x3 :: x4 :: x5 :: x6 :: x7 :: x8 :: x9 :: x10 :: x11 :: x12 :: some (.int (x + 1)) :: t) st w k n) : z_E G Y d Z pc (x0 :: x1 :: x2 :: x3 :: x4 :: x5 :: x6 :: x7 :: x8 :: x9 :: x10 :: x11 :: x12 :: some (.int x) :: t) st w k n := by
  intro p e R s m args below meth c H locs cells slots ls mc ms C hR hS hL hd hk
  have hi : 13 < Y.2.2.1 := by rw [← hL.1]; simp only [List.length_cons]; omega
  obtain ⟨kq, hkq⟩ := List.getElem?_of_mem (z_en_mem (L := x0 :: x1 :: x2 :: x3 :: x4 :: x5 :: x6 :: x7 :: x8 :: x9 :: x10 :: x11 :: x12 :: some (.int x) :: t) (i := 13) (v := .int x) |>.mpr rfl)
  exact lv_iinc (v := x + 1) C.1 C.2.1 d0 hL.has hkq rfl hi rfl (fun ls2 h2 => kk p e R s m args below meth c H locs cells slots ls2 mc ms C hR hS (hL.set hi rfl h2) hd hk)
theorem z_iinc13m {x0 x1 x2 x3 x4 x5 x6 x7 x8 x9 x10 x11 x12 : Option Value} {t : List (Option Value)} {x : Int32} (d0 : decode Y.2.1 pc = .ok (.iinc 13 (-1), 3)) (kk : z_E G Y d Z (pc + 3) (x0 :: x1 :: x2 :: x3 :: x4 :: x5 :: x6 :: x7 :: x8 :: x9 :: x10 :: x11 :: x12 :: some (.int (x + (-1))) :: t) st w k n) : z_E G Y d Z pc (x0 :: x1 :: x2 :: x3 :: x4 :: x5 :: x6 :: x7 :: x8 :: x9 :: x10 :: x11 :: x12 :: some (.int x) :: t) st w k n := by
  intro p e R s m args below meth c H locs cells slots ls mc ms C hR hS hL hd hk
  have hi : 13 < Y.2.2.1 := by rw [← hL.1]; simp only [List.length_cons]; omega
  obtain ⟨kq, hkq⟩ := List.getElem?_of_mem (z_en_mem (L := x0 :: x1 :: x2 :: x3 :: x4 :: x5 :: x6 :: x7 :: x8 :: x9 :: x10 :: x11 :: x12 :: some (.int x) :: t) (i := 13) (v := .int x) |>.mpr rfl)
  exact lv_iinc (v := x + (-1)) C.1 C.2.1 d0 hL.has hkq rfl hi rfl (fun ls2 h2 => kk p e R s m args below meth c H locs cells slots ls2 mc ms C hR hS (hL.set hi rfl h2) hd hk)
theorem z_iinc13f {x0 x1 x2 x3 x4 x5 x6 x7 x8 x9 x10 x11 x12 : Option Value} {t : List (Option Value)} {x : Int32} (d0 : decode Y.2.1 pc = .ok (.iinc 13 4, 3)) (kk : z_E G Y d Z (pc + 3) (x0 :: x1 :: x2 :: x3 :: x4 :: x5 :: x6 :: x7 :: x8 :: x9 :: x10 :: x11 :: x12 :: some (.int (x + 4)) :: t) st w k n) : z_E G Y d Z pc (x0 :: x1 :: x2 :: x3 :: x4 :: x5 :: x6 :: x7 :: x8 :: x9 :: x10 :: x11 :: x12 :: some (.int x) :: t) st w k n := by
  intro p e R s m args below meth c H locs cells slots ls mc ms C hR hS hL hd hk
  have hi : 13 < Y.2.2.1 := by rw [← hL.1]; simp only [List.length_cons]; omega
  obtain ⟨kq, hkq⟩ := List.getElem?_of_mem (z_en_mem (L := x0 :: x1 :: x2 :: x3 :: x4 :: x5 :: x6 :: x7 :: x8 :: x9 :: x10 :: x11 :: x12 :: some (.int x) :: t) (i := 13) (v := .int x) |>.mpr rfl)
  exact lv_iinc (v := x + 4) C.1 C.2.1 d0 hL.has hkq rfl hi rfl (fun ls2 h2 => kk p e R s m args below meth c H locs cells slots ls2 mc ms C hR hS (hL.set hi rfl h2) hd hk)
theorem z_istore14 {x0 x1 x2 x3 x4 x5 x6 x7 x8 x9 x10 x11 x12 x13 y : Option Value} {t : List (Option Value)} {x : Int32} (d0 : decode Y.2.1 pc = .ok (.istore 14, 2)) (kk : z_E G Y d Z (pc + 2) (x0 :: x1 :: x2 :: x3 :: x4 :: x5 :: x6 :: x7 :: x8 :: x9 :: x10 :: x11 :: x12 :: x13 :: some (.int x) :: t) st w k n) : z_E G Y d Z pc (x0 :: x1 :: x2 :: x3 :: x4 :: x5 :: x6 :: x7 :: x8 :: x9 :: x10 :: x11 :: x12 :: x13 :: y :: t) (.int x :: st) w k n := by
  intro p e R s m args below meth c H locs cells slots ls mc ms C hR hS hL hd hk
  have hi : 14 < Y.2.2.1 := by rw [← hL.1]; simp only [List.length_cons]; omega
  exact lv_istore C.1 C.2.1 d0 hL.has hi rfl (fun ls2 h2 => kk p e R s m args below meth c H locs cells slots ls2 mc ms C hR hS (hL.set hi rfl h2) hd hk)
theorem z_astore14 {x0 x1 x2 x3 x4 x5 x6 x7 x8 x9 x10 x11 x12 x13 y : Option Value} {t : List (Option Value)} {v : Value} (d0 : decode Y.2.1 pc = .ok (.astore 14, 2)) (hv : z_isr v = true) (kk : z_E G Y d Z (pc + 2) (x0 :: x1 :: x2 :: x3 :: x4 :: x5 :: x6 :: x7 :: x8 :: x9 :: x10 :: x11 :: x12 :: x13 :: some v :: t) st w k n) : z_E G Y d Z pc (x0 :: x1 :: x2 :: x3 :: x4 :: x5 :: x6 :: x7 :: x8 :: x9 :: x10 :: x11 :: x12 :: x13 :: y :: t) (v :: st) w k n := by
  intro p e R s m args below meth c H locs cells slots ls mc ms C hR hS hL hd hk
  have hi : 14 < Y.2.2.1 := by rw [← hL.1]; simp only [List.length_cons]; omega
  rcases z_isr_or hv with rfl | ⟨a, rfl⟩
  · exact lv_astoreN C.1 C.2.1 d0 hL.has hi rfl (fun ls2 h2 => kk p e R s m args below meth c H locs cells slots ls2 mc ms C hR hS (hL.set hi rfl h2) hd hk)
  · exact lv_astore C.1 C.2.1 d0 hL.has hi rfl (fun ls2 h2 => kk p e R s m args below meth c H locs cells slots ls2 mc ms C hR hS (hL.set hi rfl h2) hd hk)
theorem z_iinc14 {x0 x1 x2 x3 x4 x5 x6 x7 x8 x9 x10 x11 x12 x13 : Option Value} {t : List (Option Value)} {x : Int32} (d0 : decode Y.2.1 pc = .ok (.iinc 14 1, 3)) (kk : z_E G Y d Z (pc + 3) (x0 :: x1 :: x2 :: x3 :: x4 :: x5 :: x6 :: x7 :: x8 :: x9 :: x10 :: x11 :: x12 :: x13 :: some (.int (x + 1)) :: t) st w k n) : z_E G Y d Z pc (x0 :: x1 :: x2 :: x3 :: x4 :: x5 :: x6 :: x7 :: x8 :: x9 :: x10 :: x11 :: x12 :: x13 :: some (.int x) :: t) st w k n := by
  intro p e R s m args below meth c H locs cells slots ls mc ms C hR hS hL hd hk
  have hi : 14 < Y.2.2.1 := by rw [← hL.1]; simp only [List.length_cons]; omega
  obtain ⟨kq, hkq⟩ := List.getElem?_of_mem (z_en_mem (L := x0 :: x1 :: x2 :: x3 :: x4 :: x5 :: x6 :: x7 :: x8 :: x9 :: x10 :: x11 :: x12 :: x13 :: some (.int x) :: t) (i := 14) (v := .int x) |>.mpr rfl)
  exact lv_iinc (v := x + 1) C.1 C.2.1 d0 hL.has hkq rfl hi rfl (fun ls2 h2 => kk p e R s m args below meth c H locs cells slots ls2 mc ms C hR hS (hL.set hi rfl h2) hd hk)
theorem z_iinc14m {x0 x1 x2 x3 x4 x5 x6 x7 x8 x9 x10 x11 x12 x13 : Option Value} {t : List (Option Value)} {x : Int32} (d0 : decode Y.2.1 pc = .ok (.iinc 14 (-1), 3)) (kk : z_E G Y d Z (pc + 3) (x0 :: x1 :: x2 :: x3 :: x4 :: x5 :: x6 :: x7 :: x8 :: x9 :: x10 :: x11 :: x12 :: x13 :: some (.int (x + (-1))) :: t) st w k n) : z_E G Y d Z pc (x0 :: x1 :: x2 :: x3 :: x4 :: x5 :: x6 :: x7 :: x8 :: x9 :: x10 :: x11 :: x12 :: x13 :: some (.int x) :: t) st w k n := by
  intro p e R s m args below meth c H locs cells slots ls mc ms C hR hS hL hd hk
  have hi : 14 < Y.2.2.1 := by rw [← hL.1]; simp only [List.length_cons]; omega
  obtain ⟨kq, hkq⟩ := List.getElem?_of_mem (z_en_mem (L := x0 :: x1 :: x2 :: x3 :: x4 :: x5 :: x6 :: x7 :: x8 :: x9 :: x10 :: x11 :: x12 :: x13 :: some (.int x) :: t) (i := 14) (v := .int x) |>.mpr rfl)
  exact lv_iinc (v := x + (-1)) C.1 C.2.1 d0 hL.has hkq rfl hi rfl (fun ls2 h2 => kk p e R s m args below meth c H locs cells slots ls2 mc ms C hR hS (hL.set hi rfl h2) hd hk)
theorem z_iinc14f {x0 x1 x2 x3 x4 x5 x6 x7 x8 x9 x10 x11 x12 x13 : Option Value} {t : List (Option Value)} {x : Int32} (d0 : decode Y.2.1 pc = .ok (.iinc 14 4, 3)) (kk : z_E G Y d Z (pc + 3) (x0 :: x1 :: x2 :: x3 :: x4 :: x5 :: x6 :: x7 :: x8 :: x9 :: x10 :: x11 :: x12 :: x13 :: some (.int (x + 4)) :: t) st w k n) : z_E G Y d Z pc (x0 :: x1 :: x2 :: x3 :: x4 :: x5 :: x6 :: x7 :: x8 :: x9 :: x10 :: x11 :: x12 :: x13 :: some (.int x) :: t) st w k n := by
  intro p e R s m args below meth c H locs cells slots ls mc ms C hR hS hL hd hk
  have hi : 14 < Y.2.2.1 := by rw [← hL.1]; simp only [List.length_cons]; omega
  obtain ⟨kq, hkq⟩ := List.getElem?_of_mem (z_en_mem (L := x0 :: x1 :: x2 :: x3 :: x4 :: x5 :: x6 :: x7 :: x8 :: x9 :: x10 :: x11 :: x12 :: x13 :: some (.int x) :: t) (i := 14) (v := .int x) |>.mpr rfl)
  exact lv_iinc (v := x + 4) C.1 C.2.1 d0 hL.has hkq rfl hi rfl (fun ls2 h2 => kk p e R s m args below meth c H locs cells slots ls2 mc ms C hR hS (hL.set hi rfl h2) hd hk)
theorem z_istore15 {x0 x1 x2 x3 x4 x5 x6 x7 x8 x9 x10 x11 x12 x13 x14 y : Option Value} {t : List (Option Value)} {x : Int32} (d0 : decode Y.2.1 pc = .ok (.istore 15, 2)) (kk : z_E G Y d Z (pc + 2) (x0 :: x1 :: x2 :: x3 :: x4 :: x5 :: x6 :: x7 :: x8 :: x9 :: x10 :: x11 :: x12 :: x13 :: x14 :: some (.int x) :: t) st w k n) : z_E G Y d Z pc (x0 :: x1 :: x2 :: x3 :: x4 :: x5 :: x6 :: x7 :: x8 :: x9 :: x10 :: x11 :: x12 :: x13 :: x14 :: y :: t) (.int x :: st) w k n := by
  intro p e R s m args below meth c H locs cells slots ls mc ms C hR hS hL hd hk
  have hi : 15 < Y.2.2.1 := by rw [← hL.1]; simp only [List.length_cons]; omega
  exact lv_istore C.1 C.2.1 d0 hL.has hi rfl (fun ls2 h2 => kk p e R s m args below meth c H locs cells slots ls2 mc ms C hR hS (hL.set hi rfl h2) hd hk)
theorem z_astore15 {x0 x1 x2 x3 x4 x5 x6 x7 x8 x9 x10 x11 x12 x13 x14 y : Option Value} {t : List (Option Value)} {v : Value} (d0 : decode Y.2.1 pc = .ok (.astore 15, 2)) (hv : z_isr v = true) (kk : z_E G Y d Z (pc + 2) (x0 :: x1 :: x2 :: x3 :: x4 :: x5 :: x6 :: x7 :: x8 :: x9 :: x10 :: x11 :: x12 :: x13 :: x14 :: some v :: t) st w k n) : z_E G Y d Z pc (x0 :: x1 :: x2 :: x3 :: x4 :: x5 :: x6 :: x7 :: x8 :: x9 :: x10 :: x11 :: x12 :: x13 :: x14 :: y :: t) (v :: st) w k n := by
  intro p e R s m args below meth c H locs cells slots ls mc ms C hR hS hL hd hk
  have hi : 15 < Y.2.2.1 := by rw [← hL.1]; simp only [List.length_cons]; omega
  rcases z_isr_or hv with rfl | ⟨a, rfl⟩
  · exact lv_astoreN C.1 C.2.1 d0 hL.has hi rfl (fun ls2 h2 => kk p e R s m args below meth c H locs cells slots ls2 mc ms C hR hS (hL.set hi rfl h2) hd hk)
  · exact lv_astore C.1 C.2.1 d0 hL.has hi rfl (fun ls2 h2 => kk p e R s m args below meth c H locs cells slots ls2 mc ms C hR hS (hL.set hi rfl h2) hd hk)
theorem z_iinc15 {x0 x1 x2 x3 x4 x5 x6 x7 x8 x9 x10 x11 x12 x13 x14 : Option Value} {t : List (Option Value)} {x : Int32} (d0 : decode Y.2.1 pc = .ok (.iinc 15 1, 3)) (kk : z_E G Y d Z (pc + 3) (x0 :: x1 :: x2 :: x3 :: x4 :: x5 :: x6 :: x7 :: x8 :: x9 :: x10 :: x11 :: x12 :: x13 :: x14 :: some (.int (x + 1)) :: t) st w k n) : z_E G Y d Z pc (x0 :: x1 :: x2 :: x3 :: x4 :: x5 :: x6 :: x7 :: x8 :: x9 :: x10 :: x11 :: x12 :: x13 :: x14 :: some (.int x) :: t) st w k n := by
  intro p e R s m args below meth c H locs cells slots ls mc ms C hR hS hL hd hk
  have hi : 15 < Y.2.2.1 := by rw [← hL.1]; simp only [List.length_cons]; omega
  obtain ⟨kq, hkq⟩ := List.getElem?_of_mem (z_en_mem (L := x0 :: x1 :: x2 :: x3 :: x4 :: x5 :: x6 :: x7 :: x8 :: x9 :: x10 :: x11 :: x12 :: x13 :: x14 :: some (.int x) :: t) (i := 15) (v := .int x) |>.mpr rfl)
  exact lv_iinc (v := x + 1) C.1 C.2.1 d0 hL.has hkq rfl hi rfl (fun ls2 h2 => kk p e R s m args below meth c H locs cells slots ls2 mc ms C hR hS (hL.set hi rfl h2) hd hk)
theorem z_iinc15m {x0 x1 x2 x3 x4 x5 x6 x7 x8 x9 x10 x11 x12 x13 x14 : Option Value} {t : List (Option Value)} {x : Int32} (d0 : decode Y.2.1 pc = .ok (.iinc 15 (-1), 3)) (kk : z_E G Y d Z (pc + 3) (x0 :: x1 :: x2 :: x3 :: x4 :: x5 :: x6 :: x7 :: x8 :: x9 :: x10 :: x11 :: x12 :: x13 :: x14 :: some (.int (x + (-1))) :: t) st w k n) : z_E G Y d Z pc (x0 :: x1 :: x2 :: x3 :: x4 :: x5 :: x6 :: x7 :: x8 :: x9 :: x10 :: x11 :: x12 :: x13 :: x14 :: some (.int x) :: t) st w k n := by
  intro p e R s m args below meth c H locs cells slots ls mc ms C hR hS hL hd hk
  have hi : 15 < Y.2.2.1 := by rw [← hL.1]; simp only [List.length_cons]; omega
  obtain ⟨kq, hkq⟩ := List.getElem?_of_mem (z_en_mem (L := x0 :: x1 :: x2 :: x3 :: x4 :: x5 :: x6 :: x7 :: x8 :: x9 :: x10 :: x11 :: x12 :: x13 :: x14 :: some (.int x) :: t) (i := 15) (v := .int x) |>.mpr rfl)
  exact lv_iinc (v := x + (-1)) C.1 C.2.1 d0 hL.has hkq rfl hi rfl (fun ls2 h2 => kk p e R s m args below meth c H locs cells slots ls2 mc ms C hR hS (hL.set hi rfl h2) hd hk)
theorem z_iinc15f {x0 x1 x2 x3 x4 x5 x6 x7 x8 x9 x10 x11 x12 x13 x14 : Option Value} {t : List (Option Value)} {x : Int32} (d0 : decode Y.2.1 pc = .ok (.iinc 15 4, 3)) (kk : z_E G Y d Z (pc + 3) (x0 :: x1 :: x2 :: x3 :: x4 :: x5 :: x6 :: x7 :: x8 :: x9 :: x10 :: x11 :: x12 :: x13 :: x14 :: some (.int (x + 4)) :: t) st w k n) : z_E G Y d Z pc (x0 :: x1 :: x2 :: x3 :: x4 :: x5 :: x6 :: x7 :: x8 :: x9 :: x10 :: x11 :: x12 :: x13 :: x14 :: some (.int x) :: t) st w k n := by
  intro p e R s m args below meth c H locs cells slots ls mc ms C hR hS hL hd hk
  have hi : 15 < Y.2.2.1 := by rw [← hL.1]; simp only [List.length_cons]; omega
  obtain ⟨kq, hkq⟩ := List.getElem?_of_mem (z_en_mem (L := x0 :: x1 :: x2 :: x3 :: x4 :: x5 :: x6 :: x7 :: x8 :: x9 :: x10 :: x11 :: x12 :: x13 :: x14 :: some (.int x) :: t) (i := 15) (v := .int x) |>.mpr rfl)
  exact lv_iinc (v := x + 4) C.1 C.2.1 d0 hL.has hkq rfl hi rfl (fun ls2 h2 => kk p e R s m args below meth c H locs cells slots ls2 mc ms C hR hS (hL.set hi rfl h2) hd hk)
theorem z_if_eq {x : Int32} {off : Int} {tgt : Nat} (d0 : decode Y.2.1 pc = .ok (.ifCond .eq off, 3)) (ht : (pc : Int) + off = (tgt : Int)) (kt : x = 0 → z_E G Y d Z tgt L st w k n) (kf : ¬ x = 0 → z_E G Y d Z (pc + 3) L st w k n) : z_E G Y d Z pc L (.int x :: st) w k n := by
  intro p e R s m args below meth c H locs cells slots ls mc ms C hR hS hL hd hk
  exact lv_if_eq C.1 C.2.1 d0 ht (fun hq => kt hq p e R s m args below meth c H locs cells slots ls mc ms C hR hS hL hd hk) (fun hq => kf hq p e R s m args below meth c H locs cells slots ls mc ms C hR hS hL hd hk)
theorem z_if_ne {x : Int32} {off : Int} {tgt : Nat} (d0 : decode Y.2.1 pc = .ok (.ifCond .ne off, 3)) (ht : (pc : Int) + off = (tgt : Int)) (kt : ¬ x = 0 → z_E G Y d Z tgt L st w k n) (kf : x = 0 → z_E G Y d Z (pc + 3) L st w k n) : z_E G Y d Z pc L (.int x :: st) w k n := by
  intro p e R s m args below meth c H locs cells slots ls mc ms C hR hS hL hd hk
  exact lv_if_ne C.1 C.2.1 d0 ht (fun hq => kt hq p e R s m args below meth c H locs cells slots ls mc ms C hR hS hL hd hk) (fun hq => kf hq p e R s m args below meth c H locs cells slots ls mc ms C hR hS hL hd hk)
theorem z_if_lt {x : Int32} {off : Int} {tgt : Nat} (d0 : decode Y.2.1 pc = .ok (.ifCond .lt off, 3)) (ht : (pc : Int) + off = (tgt : Int)) (kt : x < 0 → z_E G Y d Z tgt L st w k n) (kf : ¬ x < 0 → z_E G Y d Z (pc + 3) L st w k n) : z_E G Y d Z pc L (.int x :: st) w k n := by
  intro p e R s m args below meth c H locs cells slots ls mc ms C hR hS hL hd hk
  exact lv_if_lt C.1 C.2.1 d0 ht (fun hq => kt hq p e R s m args below meth c H locs cells slots ls mc ms C hR hS hL hd hk) (fun hq => kf hq p e R s m args below meth c H locs cells slots ls mc ms C hR hS hL hd hk)
theorem z_if_ge {x : Int32} {off : Int} {tgt : Nat} (d0 : decode Y.2.1 pc = .ok (.ifCond .ge off, 3)) (ht : (pc : Int) + off = (tgt : Int)) (kt : 0 ≤ x → z_E G Y d Z tgt L st w k n) (kf : ¬ 0 ≤ x → z_E G Y d Z (pc + 3) L st w k n) : z_E G Y d Z pc L (.int x :: st) w k n := by
  intro p e R s m args below meth c H locs cells slots ls mc ms C hR hS hL hd hk
  exact lv_if_ge C.1 C.2.1 d0 ht (fun hq => kt hq p e R s m args below meth c H locs cells slots ls mc ms C hR hS hL hd hk) (fun hq => kf hq p e R s m args below meth c H locs cells slots ls mc ms C hR hS hL hd hk)
theorem z_if_gt {x : Int32} {off : Int} {tgt : Nat} (d0 : decode Y.2.1 pc = .ok (.ifCond .gt off, 3)) (ht : (pc : Int) + off = (tgt : Int)) (kt : 0 < x → z_E G Y d Z tgt L st w k n) (kf : ¬ 0 < x → z_E G Y d Z (pc + 3) L st w k n) : z_E G Y d Z pc L (.int x :: st) w k n := by
  intro p e R s m args below meth c H locs cells slots ls mc ms C hR hS hL hd hk
  exact lv_if_gt C.1 C.2.1 d0 ht (fun hq => kt hq p e R s m args below meth c H locs cells slots ls mc ms C hR hS hL hd hk) (fun hq => kf hq p e R s m args below meth c H locs cells slots ls mc ms C hR hS hL hd hk)
theorem z_if_le {x : Int32} {off : Int} {tgt : Nat} (d0 : decode Y.2.1 pc = .ok (.ifCond .le off, 3)) (ht : (pc : Int) + off = (tgt : Int)) (kt : x ≤ 0 → z_E G Y d Z tgt L st w k n) (kf : ¬ x ≤ 0 → z_E G Y d Z (pc + 3) L st w k n) : z_E G Y d Z pc L (.int x :: st) w k n := by
  intro p e R s m args below meth c H locs cells slots ls mc ms C hR hS hL hd hk
  exact lv_if_le C.1 C.2.1 d0 ht (fun hq => kt hq p e R s m args below meth c H locs cells slots ls mc ms C hR hS hL hd hk) (fun hq => kf hq p e R s m args below meth c H locs cells slots ls mc ms C hR hS hL hd hk)
theorem z_icmp_eq {x y : Int32} {off : Int} {tgt : Nat} (d0 : decode Y.2.1 pc = .ok (.if_icmp .eq off, 3)) (ht : (pc : Int) + off = (tgt : Int)) (kt : x = y → z_E G Y d Z tgt L st w k n) (kf : ¬ x = y → z_E G Y d Z (pc + 3) L st w k n) : z_E G Y d Z pc L (.int y :: .int x :: st) w k n := by
  intro p e R s m args below meth c H locs cells slots ls mc ms C hR hS hL hd hk
  exact lv_icmp_eq C.1 C.2.1 d0 ht (fun hq => kt hq p e R s m args below meth c H locs cells slots ls mc ms C hR hS hL hd hk) (fun hq => kf hq p e R s m args below meth c H locs cells slots ls mc ms C hR hS hL hd hk)
theorem z_icmp_ne {x y : Int32} {off : Int} {tgt : Nat} (d0 : decode Y.2.1 pc = .ok (.if_icmp .ne off, 3)) (ht : (pc : Int) + off = (tgt : Int)) (kt : ¬ x = y → z_E G Y d Z tgt L st w k n) (kf : x = y → z_E G Y d Z (pc + 3) L st w k n) : z_E G Y d Z pc L (.int y :: .int x :: st) w k n := by
  intro p e R s m args below meth c H locs cells slots ls mc ms C hR hS hL hd hk
  exact lv_icmp_ne C.1 C.2.1 d0 ht (fun hq => kt hq p e R s m args below meth c H locs cells slots ls mc ms C hR hS hL hd hk) (fun hq => kf hq p e R s m args below meth c H locs cells slots ls mc ms C hR hS hL hd hk)
theorem z_icmp_lt {x y : Int32} {off : Int} {tgt : Nat} (d0 : decode Y.2.1 pc = .ok (.if_icmp .lt off, 3)) (ht : (pc : Int) + off = (tgt : Int)) (kt : x < y → z_E G Y d Z tgt L st w k n) (kf : ¬ x < y → z_E G Y d Z (pc + 3) L st w k n) : z_E G Y d Z pc L (.int y :: .int x :: st) w k n := by
  intro p e R s m args below meth c H locs cells slots ls mc ms C hR hS hL hd hk
  exact lv_icmp_lt C.1 C.2.1 d0 ht (fun hq => kt hq p e R s m args below meth c H locs cells slots ls mc ms C hR hS hL hd hk) (fun hq => kf hq p e R s m args below meth c H locs cells slots ls mc ms C hR hS hL hd hk)
theorem z_icmp_ge {x y : Int32} {off : Int} {tgt : Nat} (d0 : decode Y.2.1 pc = .ok (.if_icmp .ge off, 3)) (ht : (pc : Int) + off = (tgt : Int)) (kt : y ≤ x → z_E G Y d Z tgt L st w k n) (kf : ¬ y ≤ x → z_E G Y d Z (pc + 3) L st w k n) : z_E G Y d Z pc L (.int y :: .int x :: st) w k n := by
  intro p e R s m args below meth c H locs cells slots ls mc ms C hR hS hL hd hk
  exact lv_icmp_ge C.1 C.2.1 d0 ht (fun hq => kt hq p e R s m args below meth c H locs cells slots ls mc ms C hR hS hL hd hk) (fun hq => kf hq p e R s m args below meth c H locs cells slots ls mc ms C hR hS hL hd hk)
theorem z_icmp_gt {x y : Int32} {off : Int} {tgt : Nat} (d0 : decode Y.2.1 pc = .ok (.if_icmp .gt off, 3)) (ht : (pc : Int) + off = (tgt : Int)) (kt : y < x → z_E G Y d Z tgt L st w k n) (kf : ¬ y < x → z_E G Y d Z (pc + 3) L st w k n) : z_E G Y d Z pc L (.int y :: .int x :: st) w k n := by
  intro p e R s m args below meth c H locs cells slots ls mc ms C hR hS hL hd hk
  exact lv_icmp_gt C.1 C.2.1 d0 ht (fun hq => kt hq p e R s m args below meth c H locs cells slots ls mc ms C hR hS hL hd hk) (fun hq => kf hq p e R s m args below meth c H locs cells slots ls mc ms C hR hS hL hd hk)
theorem z_icmp_le {x y : Int32} {off : Int} {tgt : Nat} (d0 : decode Y.2.1 pc = .ok (.if_icmp .le off, 3)) (ht : (pc : Int) + off = (tgt : Int)) (kt : x ≤ y → z_E G Y d Z tgt L st w k n) (kf : ¬ x ≤ y → z_E G Y d Z (pc + 3) L st w k n) : z_E G Y d Z pc L (.int y :: .int x :: st) w k n := by
  intro p e R s m args below meth c H locs cells slots ls mc ms C hR hS hL hd hk
  exact lv_icmp_le C.1 C.2.1 d0 ht (fun hq => kt hq p e R s m args below meth c H locs cells slots ls mc ms C hR hS hL hd hk) (fun hq => kf hq p e R s m args below meth c H locs cells slots ls mc ms C hR hS hL hd hk)
theorem z_goto {off : Int} {tgt : Nat} (d0 : decode Y.2.1 pc = .ok (.goto off, 3)) (ht : (pc : Int) + off = (tgt : Int)) (kk : z_E G Y d Z tgt L st w k n) : z_E G Y d Z pc L st w k n := by
  intro p e R s m args below meth c H locs cells slots ls mc ms C hR hS hL hd hk
  exact lv_goto C.1 C.2.1 d0 ht (kk p e R s m args below meth c H locs cells slots ls mc ms C hR hS hL hd hk)
theorem z_ifnull {v : Value} {off : Int} {tgt : Nat} (d0 : decode Y.2.1 pc = .ok (.ifnull off, 3)) (ht : (pc : Int) + off = (tgt : Int)) (hv : z_isr v = true) (kt : v = .null → z_E G Y d Z tgt L st w k n) (kf : ∀ a, v = .ref a → z_E G Y d Z (pc + 3) L st w k n) : z_E G Y d Z pc L (v :: st) w k n := by
  intro p e R s m args below meth c H locs cells slots ls mc ms C hR hS hL hd hk
  rcases z_isr_or hv with rfl | ⟨a, rfl⟩
  · exact lv_ifnullN C.1 C.2.1 d0 ht (kt rfl p e R s m args below meth c H locs cells slots ls mc ms C hR hS hL hd hk)
  · exact lv_ifnull C.1 C.2.1 d0 (kf a rfl p e R s m args below meth c H locs cells slots ls mc ms C hR hS hL hd hk)
theorem z_ifnonnull {v : Value} {off : Int} {tgt : Nat} (d0 : decode Y.2.1 pc = .ok (.ifnonnull off, 3)) (ht : (pc : Int) + off = (tgt : Int)) (hv : z_isr v = true) (kt : ∀ a, v = .ref a → z_E G Y d Z tgt L st w k n) (kf : v = .null → z_E G Y d Z (pc + 3) L st w k n) : z_E G Y d Z pc L (v :: st) w k n := by
  intro p e R s m args below meth c H locs cells slots ls mc ms C hR hS hL hd hk
  rcases z_isr_or hv with rfl | ⟨a, rfl⟩
  · exact lv_ifnonnullN C.1 C.2.1 d0 (kf rfl p e R s m args below meth c H locs cells slots ls mc ms C hR hS hL hd hk)
  · exact lv_ifnonnull C.1 C.2.1 d0 ht (kt a rfl p e R s m args below meth c H locs cells slots ls mc ms C hR hS hL hd hk)
def z_un : Value → Option Nat | .ref a => some a | _ => none
theorem z_rf_un {v : Value} (h : z_isr v = true) : va_rf (z_un v) = v := by cases v <;> first | rfl | cases h
theorem z_acmp_eq {u v : Value} {off : Int} {tgt : Nat} (d0 : decode Y.2.1 pc = .ok (.if_acmp .eq off, 3)) (ht : (pc : Int) + off = (tgt : Int)) (hu : z_isr u = true) (hv : z_isr v = true) (kt : u = v → z_E G Y d Z tgt L st w k n) (kf : ¬ u = v → z_E G Y d Z (pc + 3) L st w k n) : z_E G Y d Z pc L (v :: u :: st) w k n := by
  intro p e R s m args below meth c H locs cells slots ls mc ms C hR hS hL hd hk
  rw [← z_rf_un hu, ← z_rf_un hv]
  refine lv_acmp_eq C.1 C.2.1 d0 ht (fun hq => ?_) (fun hq => ?_)
  · exact kt (by rw [← z_rf_un hu, ← z_rf_un hv, hq]) p e R s m args below meth c H locs cells slots ls mc ms C hR hS hL hd hk
  · exact kf (fun hz => hq (by rw [hz])) p e R s m args below meth c H locs cells slots ls mc ms C hR hS hL hd hk
theorem z_tableIn {dflt lo hi : Int} {offs : Array Int} {len : Nat} {x : Int32} {off : Int} {tgt : Nat} (d0 : decode Y.2.1 pc = .ok (.tableswitch dflt lo hi offs, len)) (h1 : ¬ x.toInt < lo) (h2 : ¬ hi < x.toInt) (ho : offs[(x.toInt - lo).toNat]? = some off) (ht : (pc : Int) + off = (tgt : Int)) (kk : z_E G Y d Z tgt L st w k n) : z_E G Y d Z pc L (.int x :: st) w k n := by
  intro p e R s m args below meth c H locs cells slots ls mc ms C hR hS hL hd hk
  exact lv_tableIn C.1 C.2.1 d0 h1 h2 ho ht (kk p e R s m args below meth c H locs cells slots ls mc ms C hR hS hL hd hk)
theorem z_tableOut {dflt lo hi : Int} {offs : Array Int} {len : Nat} {x : Int32} {tgt : Nat} (d0 : decode Y.2.1 pc = .ok (.tableswitch dflt lo hi offs, len)) (h : x.toInt < lo ∨ hi < x.toInt) (ht : (pc : Int) + dflt = (tgt : Int)) (kk : z_E G Y d Z tgt L st w k n) : z_E G Y d Z pc L (.int x :: st) w k n := by
  intro p e R s m args below meth c H locs cells slots ls mc ms C hR hS hL hd hk
  exact lv_tableOut C.1 C.2.1 d0 h ht (kk p e R s m args below meth c H locs cells slots ls mc ms C hR hS hL hd hk)
theorem z_iald {a m0 : Nat} {f : Nat → Int32} {i : Int32} (d0 : decode Y.2.1 pc = .ok (.iaload, 1)) (hw : w a = some (.inl (G.2.1 0, m0, .inl f))) (hin : vp_in i m0) (kk : z_E G Y d Z (pc + 1) L (.int (f i.toNatClampNeg) :: st) w k n) : z_E G Y d Z pc L (.int i :: .ref a :: st) w k n := by
  intro p e R s m args below meth c H locs cells slots ls mc ms C hR hS hL hd hk
  obtain ⟨hP, -⟩ := hR.one hw
  exact va_iald C.1 C.2.1 C.2.2.2.2.2.2.2.2.2.1 hP 0 0 rfl rfl hin d0 (kk p e R s m args below meth c H locs cells slots ls mc ms C hR hS hL hd hk)
theorem z_zald {a m0 : Nat} {f : Nat → Int32} {i : Int32} (d0 : decode Y.2.1 pc = .ok (.baload, 1)) (hw : w a = some (.inl (G.2.1 1, m0, .inl f))) (hin : vp_in i m0) (kk : z_E G Y d Z (pc + 1) L (.int (f i.toNatClampNeg) :: st) w k n) : z_E G Y d Z pc L (.int i :: .ref a :: st) w k n := by
  intro p e R s m args below meth c H locs cells slots ls mc ms C hR hS hL hd hk
  obtain ⟨hP, -⟩ := hR.one hw
  exact va_zald C.1 C.2.1 C.2.2.2.2.2.2.2.2.2.1 hP 0 1 rfl rfl hin d0 (kk p e R s m args below meth c H locs cells slots ls mc ms C hR hS hL hd hk)
theorem z_aaldP {a m0 : Nat} {f : Nat → Option Nat} {i : Int32} (d0 : decode Y.2.1 pc = .ok (.aaload, 1)) (hw : w a = some (.inl (G.2.1 4, m0, .inr (.inr (.inr (.inr f)))))) (hin : vp_in i m0) (kk : z_E G Y d Z (pc + 1) L (va_rf (f i.toNatClampNeg) :: st) w k n) : z_E G Y d Z pc L (.int i :: .ref a :: st) w k n := by
  intro p e R s m args below meth c H locs cells slots ls mc ms C hR hS hL hd hk
  obtain ⟨hP, -⟩ := hR.one hw
  exact va_aldq C.1 C.2.1 C.2.2.2.2.2.2.2.2.2.1 hP 0 4 rfl rfl hin d0 (kk p e R s m args below meth c H locs cells slots ls mc ms C hR hS hL hd hk)
theorem z_aaldG {a m0 : Nat} {f : Nat → Option Nat} {i : Int32} (d0 : decode Y.2.1 pc = .ok (.aaload, 1)) (hw : w a = some (.inl (G.2.1 5, m0, .inr (.inr (.inr (.inr f)))))) (hin : vp_in i m0) (kk : z_E G Y d Z (pc + 1) L (va_rf (f i.toNatClampNeg) :: st) w k n) : z_E G Y d Z pc L (.int i :: .ref a :: st) w k n := by
  intro p e R s m args below meth c H locs cells slots ls mc ms C hR hS hL hd hk
  obtain ⟨hP, -⟩ := hR.one hw
  exact va_aldq C.1 C.2.1 C.2.2.2.2.2.2.2.2.2.1 hP 0 5 rfl rfl hin d0 (kk p e R s m args below meth c H locs cells slots ls mc ms C hR hS hL hd hk)
theorem z_aaldZ {a m0 : Nat} {f : Nat → Option Nat} {i : Int32} (d0 : decode Y.2.1 pc = .ok (.aaload, 1)) (hw : w a = some (.inl (G.2.1 6, m0, .inr (.inr (.inr (.inr f)))))) (hin : vp_in i m0) (kk : z_E G Y d Z (pc + 1) L (va_rf (f i.toNatClampNeg) :: st) w k n) : z_E G Y d Z pc L (.int i :: .ref a :: st) w k n := by
  intro p e R s m args below meth c H locs cells slots ls mc ms C hR hS hL hd hk
  obtain ⟨hP, -⟩ := hR.one hw
  exact va_aldq C.1 C.2.1 C.2.2.2.2.2.2.2.2.2.1 hP 0 6 rfl rfl hin d0 (kk p e R s m args below meth c H locs cells slots ls mc ms C hR hS hL hd hk)
theorem z_aaldN {a m0 : Nat} {f : Nat → Option Nat} {i : Int32} (d0 : decode Y.2.1 pc = .ok (.aaload, 1)) (hw : w a = some (.inl (G.2.1 7, m0, .inr (.inr (.inr (.inr f)))))) (hin : vp_in i m0) (kk : z_E G Y d Z (pc + 1) L (va_rf (f i.toNatClampNeg) :: st) w k n) : z_E G Y d Z pc L (.int i :: .ref a :: st) w k n := by
  intro p e R s m args below meth c H locs cells slots ls mc ms C hR hS hL hd hk
  obtain ⟨hP, -⟩ := hR.one hw
  exact va_aldq C.1 C.2.1 C.2.2.2.2.2.2.2.2.2.1 hP 0 7 rfl rfl hin d0 (kk p e R s m args below meth c H locs cells slots ls mc ms C hR hS hL hd hk)
theorem z_alen {a cy m0 : Nat} {ty : FieldType} {x} (d0 : decode Y.2.1 pc = .ok (.arraylength, 1)) (hw : w a = some (.inl (G.2.1 cy, m0, x))) (ht : (z_tys G)[cy]? = some (G.2.1 cy, ty)) {v : Int32} (hv : nI m0 = v) (kk : z_E G Y d Z (pc + 1) L (.int v :: st) w k n) : z_E G Y d Z pc L (.ref a :: st) w k n := by
  intro p e R s m args below meth c H locs cells slots ls mc ms C hR hS hL hd hk
  obtain ⟨hP, -⟩ := hR.one hw
  exact va_alen C.1 C.2.1 C.2.2.2.2.2.2.2.2.2.1 hP 0 cy rfl ht hv d0 (kk p e R s m args below meth c H locs cells slots ls mc ms C hR hS hL hd hk)
theorem z_iast {a m0 : Nat} {f : Nat → Int32} {i : Int32} {x : Int32} (d0 : decode Y.2.1 pc = .ok (.iastore, 1)) (hw : w a = some (.inl (G.2.1 0, m0, .inl f))) (hin : vp_in i m0) (kk : z_E G Y d Z (pc + 1) L st (z_up w a (.inl (G.2.1 0, m0, .inl (upd f i.toNatClampNeg x)))) k n) : z_E G Y d Z pc L (.int x :: .int i :: .ref a :: st) w k n := by
  intro p e R s m args below meth c H locs cells slots ls mc ms C hR hS hL hd hk
  obtain ⟨ws, hP, hD, hws⟩ := hR
  obtain ⟨q0, hq0⟩ := hws _ _ hw
  exact va_iast C.1 C.2.1 C.2.2.2.2.2.2.2.2.2.1 hP hD hS q0 0 hq0 rfl hin d0 (fun H1 locs1 hP1 hD1 hS1 => kk p e R s m args below meth c H1 locs1 cells slots ls mc ms C (z_R_set hD hq0 hws hP1 hD1) hS1 hL hd hk)
theorem z_zast {a m0 : Nat} {f : Nat → Int32} {i : Int32} {x : Int32} (d0 : decode Y.2.1 pc = .ok (.bastore, 1)) (hw : w a = some (.inl (G.2.1 1, m0, .inl f))) (hin : vp_in i m0) (kk : z_E G Y d Z (pc + 1) L st (z_up w a (.inl (G.2.1 1, m0, .inl (upd f i.toNatClampNeg (vp_nar .boolean x))))) k n) : z_E G Y d Z pc L (.int x :: .int i :: .ref a :: st) w k n := by
  intro p e R s m args below meth c H locs cells slots ls mc ms C hR hS hL hd hk
  obtain ⟨ws, hP, hD, hws⟩ := hR
  obtain ⟨q0, hq0⟩ := hws _ _ hw
  exact va_zast C.1 C.2.1 C.2.2.2.2.2.2.2.2.2.1 hP hD hS q0 1 hq0 rfl hin d0 (fun H1 locs1 hP1 hD1 hS1 => kk p e R s m args below meth c H1 locs1 cells slots ls mc ms C (z_R_set hD hq0 hws hP1 hD1) hS1 hL hd hk)
theorem z_aastP {a v m0 : Nat} {f : Nat → Option Nat} {vs : List Value} {i : Int32} (d0 : decode Y.2.1 pc = .ok (.aastore, 1)) (hw : w a = some (.inl (G.2.1 4, m0, .inr (.inr (.inr (.inr f)))))) (hv : w v = some (.inr (3, vs))) (hin : vp_in i m0) (kk : z_E G Y d Z (pc + 1) L st (z_up w a (.inl (G.2.1 4, m0, .inr (.inr (.inr (.inr (va_up f i.toNatClampNeg (some v)))))))) k n) : z_E G Y d Z pc L (.ref v :: .int i :: .ref a :: st) w k n := by
  intro p e R s m args below meth c H locs cells slots ls mc ms C hR hS hL hd hk
  obtain ⟨ws, hP, hD, hws⟩ := hR
  obtain ⟨q0, hq0⟩ := hws _ _ hw
  obtain ⟨qk, hqk⟩ := hws _ _ hv
  exact va_astq C.1 C.2.1 C.2.2.2.2.2.2.2.2.2.1 hP hD hS q0 4 qk 3 hq0 rfl hqk rfl hin d0 (fun H1 locs1 hP1 hD1 hS1 => kk p e R s m args below meth c H1 locs1 cells slots ls mc ms C (z_R_set hD hq0 hws hP1 hD1) hS1 hL hd hk)
theorem z_aastG {a v m0 : Nat} {f : Nat → Option Nat} {vs : List Value} {i : Int32} (d0 : decode Y.2.1 pc = .ok (.aastore, 1)) (hw : w a = some (.inl (G.2.1 5, m0, .inr (.inr (.inr (.inr f)))))) (hv : w v = some (.inr (1, vs))) (hin : vp_in i m0) (kk : z_E G Y d Z (pc + 1) L st (z_up w a (.inl (G.2.1 5, m0, .inr (.inr (.inr (.inr (va_up f i.toNatClampNeg (some v)))))))) k n) : z_E G Y d Z pc L (.ref v :: .int i :: .ref a :: st) w k n := by
  intro p e R s m args below meth c H locs cells slots ls mc ms C hR hS hL hd hk
  obtain ⟨ws, hP, hD, hws⟩ := hR
  obtain ⟨q0, hq0⟩ := hws _ _ hw
  obtain ⟨qk, hqk⟩ := hws _ _ hv
  exact va_astq C.1 C.2.1 C.2.2.2.2.2.2.2.2.2.1 hP hD hS q0 5 qk 1 hq0 rfl hqk rfl hin d0 (fun H1 locs1 hP1 hD1 hS1 => kk p e R s m args below meth c H1 locs1 cells slots ls mc ms C (z_R_set hD hq0 hws hP1 hD1) hS1 hL hd hk)
theorem z_aastZ {a v m0 : Nat} {f : Nat → Option Nat} {vs : List Value} {i : Int32} (d0 : decode Y.2.1 pc = .ok (.aastore, 1)) (hw : w a = some (.inl (G.2.1 6, m0, .inr (.inr (.inr (.inr f)))))) (hv : w v = some (.inr (4, vs))) (hin : vp_in i m0) (kk : z_E G Y d Z (pc + 1) L st (z_up w a (.inl (G.2.1 6, m0, .inr (.inr (.inr (.inr (va_up f i.toNatClampNeg (some v)))))))) k n) : z_E G Y d Z pc L (.ref v :: .int i :: .ref a :: st) w k n := by
  intro p e R s m args below meth c H locs cells slots ls mc ms C hR hS hL hd hk
  obtain ⟨ws, hP, hD, hws⟩ := hR
  obtain ⟨q0, hq0⟩ := hws _ _ hw
  obtain ⟨qk, hqk⟩ := hws _ _ hv
  exact va_astq C.1 C.2.1 C.2.2.2.2.2.2.2.2.2.1 hP hD hS q0 6 qk 4 hq0 rfl hqk rfl hin d0 (fun H1 locs1 hP1 hD1 hS1 => kk p e R s m args below meth c H1 locs1 cells slots ls mc ms C (z_R_set hD hq0 hws hP1 hD1) hS1 hL hd hk)
theorem z_aastN {a v m0 : Nat} {f : Nat → Option Nat} {vs : List Value} {i : Int32} (d0 : decode Y.2.1 pc = .ok (.aastore, 1)) (hw : w a = some (.inl (G.2.1 7, m0, .inr (.inr (.inr (.inr f)))))) (hv : w v = some (.inr (2, vs))) (hin : vp_in i m0) (kk : z_E G Y d Z (pc + 1) L st (z_up w a (.inl (G.2.1 7, m0, .inr (.inr (.inr (.inr (va_up f i.toNatClampNeg (some v)))))))) k n) : z_E G Y d Z pc L (.ref v :: .int i :: .ref a :: st) w k n := by
  intro p e R s m args below meth c H locs cells slots ls mc ms C hR hS hL hd hk
  obtain ⟨ws, hP, hD, hws⟩ := hR
  obtain ⟨q0, hq0⟩ := hws _ _ hw
  obtain ⟨qk, hqk⟩ := hws _ _ hv
  exact va_astq C.1 C.2.1 C.2.2.2.2.2.2.2.2.2.1 hP hD hS q0 7 qk 2 hq0 rfl hqk rfl hin d0 (fun H1 locs1 hP1 hD1 hS1 => kk p e R s m args below meth c H1 locs1 cells slots ls mc ms C (z_R_set hD hq0 hws hP1 hD1) hS1 hL hd hk)
theorem z_newaI {i : Int32} {m0 : Nat} (d0 : decode Y.2.1 pc = .ok (.newarray .int, 2)) (hT : Cond.arrayClass .int ∈ z_T) (hi : ¬ i < 0) (hN : i.toNatClampNeg = m0) (hb : m0 * 8 ≤ 536870912) (hk1 : 1 ≤ k) (hn1 : m0 ≤ n) (kk : ∀ q : Nat, w q = none → z_E G Y d Z (pc + 2) L (.ref q :: st) (z_up w q (.inl (G.2.1 0, m0, .inl (fun _ => 0)))) (k - 1) (n - m0)) : z_E G Y d Z pc L (.int i :: st) w k n := by
  intro p e R s m args below meth c H locs cells slots ls mc ms C hR hS hL hd hk
  obtain ⟨ws, hP, hD, hws⟩ := hR
  have hK := C.2.2.2.2.2.2.2.2.2.1
  refine va_newa (atype := .int) (ty := .int) (a0 := (m0, .inl (fun _ => 0))) C.1 C.2.1 (C.2.2.2.2.1 _ hT) rfl hK hP hD hS (fun q h => Nat.le_trans C.2.2.2.2.2.2.2.2.2.2.2.2.2.2.2.2.1 h) (fun _ => rfl) hi hN (by have := hb; show m0 * _ ≤ _; refine Nat.le_trans (Nat.mul_le_mul_left m0 (show componentBytes .int ≤ 8 by decide)) hb) (by omega) (by omega) d0 (fun q cA H1 hK1 hP1 hD1 hS1 => ?_)
  have hcA : cA = G.2.1 0 := by
    have h1 := (hK1.2 (z_tys G).length (cA, .int) (by rw [List.getElem?_append_right (Nat.le_refl _)]; simp)).2
    have h2 := (hK.2 0 (G.2.1 0, .int) rfl).2
    exact Option.some.inj (h1.symm.trans h2)
  subst hcA
  obtain ⟨hR1, hq⟩ := z_R_new hws hP1 hD1
  exact kk q hq p e R s m args below meth c H1 locs (cells + 1) (slots + m0) ls mc ms C hR1 hS1 hL hd ⟨by omega, by omega, hk.2.2⟩
theorem z_newaZ {i : Int32} {m0 : Nat} (d0 : decode Y.2.1 pc = .ok (.newarray .boolean, 2)) (hT : Cond.arrayClass .boolean ∈ z_T) (hi : ¬ i < 0) (hN : i.toNatClampNeg = m0) (hb : m0 * 8 ≤ 536870912) (hk1 : 1 ≤ k) (hn1 : m0 ≤ n) (kk : ∀ q : Nat, w q = none → z_E G Y d Z (pc + 2) L (.ref q :: st) (z_up w q (.inl (G.2.1 1, m0, .inl (fun _ => 0)))) (k - 1) (n - m0)) : z_E G Y d Z pc L (.int i :: st) w k n := by
  intro p e R s m args below meth c H locs cells slots ls mc ms C hR hS hL hd hk
  obtain ⟨ws, hP, hD, hws⟩ := hR
  have hK := C.2.2.2.2.2.2.2.2.2.1
  refine va_newa (atype := .boolean) (ty := .boolean) (a0 := (m0, .inl (fun _ => 0))) C.1 C.2.1 (C.2.2.2.2.1 _ hT) rfl hK hP hD hS (fun q h => Nat.le_trans C.2.2.2.2.2.2.2.2.2.2.2.2.2.2.2.2.1 h) (fun _ => rfl) hi hN (by have := hb; show m0 * _ ≤ _; refine Nat.le_trans (Nat.mul_le_mul_left m0 (show componentBytes .boolean ≤ 8 by decide)) hb) (by omega) (by omega) d0 (fun q cA H1 hK1 hP1 hD1 hS1 => ?_)
  have hcA : cA = G.2.1 1 := by
    have h1 := (hK1.2 (z_tys G).length (cA, .boolean) (by rw [List.getElem?_append_right (Nat.le_refl _)]; simp)).2
    have h2 := (hK.2 1 (G.2.1 1, .boolean) rfl).2
    exact Option.some.inj (h1.symm.trans h2)
  subst hcA
  obtain ⟨hR1, hq⟩ := z_R_new hws hP1 hD1
  exact kk q hq p e R s m args below meth c H1 locs (cells + 1) (slots + m0) ls mc ms C hR1 hS1 hL hd ⟨by omega, by omega, hk.2.2⟩
theorem z_newqP {i : Int32} {m0 idx : Nat} (d0 : decode Y.2.1 pc = .ok (.anewarray idx, 3)) (hT : Cond.classLink Y.1.cls idx RX3 ∈ z_T) (hi : ¬ i < 0) (hN : i.toNatClampNeg = m0) (hb : m0 * 4 ≤ 536870912) (hk1 : 1 ≤ k) (hn1 : m0 ≤ n) (kk : ∀ q : Nat, w q = none → z_E G Y d Z (pc + 3) L (.ref q :: st) (z_up w q (.inl (G.2.1 4, m0, .inr (.inr (.inr (.inr (fun _ => none))))))) (k - 1) (n - m0)) : z_E G Y d Z pc L (.int i :: st) w k n := by
  intro p e R s m args below meth c H locs cells slots ls mc ms C hR hS hL hd hk
  obtain ⟨ws, hP, hD, hws⟩ := hR
  have hK := C.2.2.2.2.2.2.2.2.2.1
  refine va_newq (C := RX3) C.1 C.2.1 C.2.2.2.1 (C.2.2.2.2.1 _ hT) (C.2.2.2.2.2.2.2.2.2.2.2.2.2.1 RX3 (by decide)) hK hP hD hS (fun q h => Nat.le_trans C.2.2.2.2.2.2.2.2.2.2.2.2.2.2.2.2.1 h) hi hN hb (by omega) (by omega) d0 (fun q cA H1 hK1 hP1 hD1 hS1 => ?_)
  have hcA : cA = G.2.1 4 := by
    obtain ⟨kA, comp, f1, f2, f3, f4⟩ := (hK1.2 (z_tys G).length (cA, .object RX3) (by rw [List.getElem?_append_right (Nat.le_refl _)]; simp)).2
    obtain ⟨kA', comp', g1, g2, g3, g4⟩ := (hK.2 4 (G.2.1 4, .object RX3) rfl).2
    exact Option.some.inj (f4.symm.trans g4)
  subst hcA
  obtain ⟨hR1, hq⟩ := z_R_new hws hP1 hD1
  exact kk q hq p e R s m args below meth c H1 locs (cells + 1) (slots + m0) ls mc ms C hR1 hS1 hL hd ⟨by omega, by omega, hk.2.2⟩
theorem z_newqG {i : Int32} {m0 idx : Nat} (d0 : decode Y.2.1 pc = .ok (.anewarray idx, 3)) (hT : Cond.classLink Y.1.cls idx RX1 ∈ z_T) (hi : ¬ i < 0) (hN : i.toNatClampNeg = m0) (hb : m0 * 4 ≤ 536870912) (hk1 : 1 ≤ k) (hn1 : m0 ≤ n) (kk : ∀ q : Nat, w q = none → z_E G Y d Z (pc + 3) L (.ref q :: st) (z_up w q (.inl (G.2.1 5, m0, .inr (.inr (.inr (.inr (fun _ => none))))))) (k - 1) (n - m0)) : z_E G Y d Z pc L (.int i :: st) w k n := by
  intro p e R s m args below meth c H locs cells slots ls mc ms C hR hS hL hd hk
  obtain ⟨ws, hP, hD, hws⟩ := hR
  have hK := C.2.2.2.2.2.2.2.2.2.1
  refine va_newq (C := RX1) C.1 C.2.1 C.2.2.2.1 (C.2.2.2.2.1 _ hT) (C.2.2.2.2.2.2.2.2.2.2.2.2.2.1 RX1 (by decide)) hK hP hD hS (fun q h => Nat.le_trans C.2.2.2.2.2.2.2.2.2.2.2.2.2.2.2.2.1 h) hi hN hb (by omega) (by omega) d0 (fun q cA H1 hK1 hP1 hD1 hS1 => ?_)
  have hcA : cA = G.2.1 5 := by
    obtain ⟨kA, comp, f1, f2, f3, f4⟩ := (hK1.2 (z_tys G).length (cA, .object RX1) (by rw [List.getElem?_append_right (Nat.le_refl _)]; simp)).2
    obtain ⟨kA', comp', g1, g2, g3, g4⟩ := (hK.2 5 (G.2.1 5, .object RX1) rfl).2
    exact Option.some.inj (f4.symm.trans g4)
  subst hcA
  obtain ⟨hR1, hq⟩ := z_R_new hws hP1 hD1
  exact kk q hq p e R s m args below meth c H1 locs (cells + 1) (slots + m0) ls mc ms C hR1 hS1 hL hd ⟨by omega, by omega, hk.2.2⟩
theorem z_newqZ {i : Int32} {m0 idx : Nat} (d0 : decode Y.2.1 pc = .ok (.anewarray idx, 3)) (hT : Cond.classLink Y.1.cls idx RX4 ∈ z_T) (hi : ¬ i < 0) (hN : i.toNatClampNeg = m0) (hb : m0 * 4 ≤ 536870912) (hk1 : 1 ≤ k) (hn1 : m0 ≤ n) (kk : ∀ q : Nat, w q = none → z_E G Y d Z (pc + 3) L (.ref q :: st) (z_up w q (.inl (G.2.1 6, m0, .inr (.inr (.inr (.inr (fun _ => none))))))) (k - 1) (n - m0)) : z_E G Y d Z pc L (.int i :: st) w k n := by
  intro p e R s m args below meth c H locs cells slots ls mc ms C hR hS hL hd hk
  obtain ⟨ws, hP, hD, hws⟩ := hR
  have hK := C.2.2.2.2.2.2.2.2.2.1
  refine va_newq (C := RX4) C.1 C.2.1 C.2.2.2.1 (C.2.2.2.2.1 _ hT) (C.2.2.2.2.2.2.2.2.2.2.2.2.2.1 RX4 (by decide)) hK hP hD hS (fun q h => Nat.le_trans C.2.2.2.2.2.2.2.2.2.2.2.2.2.2.2.2.1 h) hi hN hb (by omega) (by omega) d0 (fun q cA H1 hK1 hP1 hD1 hS1 => ?_)
  have hcA : cA = G.2.1 6 := by
    obtain ⟨kA, comp, f1, f2, f3, f4⟩ := (hK1.2 (z_tys G).length (cA, .object RX4) (by rw [List.getElem?_append_right (Nat.le_refl _)]; simp)).2
    obtain ⟨kA', comp', g1, g2, g3, g4⟩ := (hK.2 6 (G.2.1 6, .object RX4) rfl).2
    exact Option.some.inj (f4.symm.trans g4)
  subst hcA
  obtain ⟨hR1, hq⟩ := z_R_new hws hP1 hD1
  exact kk q hq p e R s m args below meth c H1 locs (cells + 1) (slots + m0) ls mc ms C hR1 hS1 hL hd ⟨by omega, by omega, hk.2.2⟩
theorem z_newqN {i : Int32} {m0 idx : Nat} (d0 : decode Y.2.1 pc = .ok (.anewarray idx, 3)) (hT : Cond.classLink Y.1.cls idx RX2 ∈ z_T) (hi : ¬ i < 0) (hN : i.toNatClampNeg = m0) (hb : m0 * 4 ≤ 536870912) (hk1 : 1 ≤ k) (hn1 : m0 ≤ n) (kk : ∀ q : Nat, w q = none → z_E G Y d Z (pc + 3) L (.ref q :: st) (z_up w q (.inl (G.2.1 7, m0, .inr (.inr (.inr (.inr (fun _ => none))))))) (k - 1) (n - m0)) : z_E G Y d Z pc L (.int i :: st) w k n := by
  intro p e R s m args below meth c H locs cells slots ls mc ms C hR hS hL hd hk
  obtain ⟨ws, hP, hD, hws⟩ := hR
  have hK := C.2.2.2.2.2.2.2.2.2.1
  refine va_newq (C := RX2) C.1 C.2.1 C.2.2.2.1 (C.2.2.2.2.1 _ hT) (C.2.2.2.2.2.2.2.2.2.2.2.2.2.1 RX2 (by decide)) hK hP hD hS (fun q h => Nat.le_trans C.2.2.2.2.2.2.2.2.2.2.2.2.2.2.2.2.1 h) hi hN hb (by omega) (by omega) d0 (fun q cA H1 hK1 hP1 hD1 hS1 => ?_)
  have hcA : cA = G.2.1 7 := by
    obtain ⟨kA, comp, f1, f2, f3, f4⟩ := (hK1.2 (z_tys G).length (cA, .object RX2) (by rw [List.getElem?_append_right (Nat.le_refl _)]; simp)).2
    obtain ⟨kA', comp', g1, g2, g3, g4⟩ := (hK.2 7 (G.2.1 7, .object RX2) rfl).2
    exact Option.some.inj (f4.symm.trans g4)
  subst hcA
  obtain ⟨hR1, hq⟩ := z_R_new hws hP1 hD1
  exact kk q hq p e R s m args below meth c H1 locs (cells + 1) (slots + m0) ls mc ms C hR1 hS1 hL hd ⟨by omega, by omega, hk.2.2⟩
theorem z_new {ci N idx : Nat} {CN : String} {T : u_T} {fs : List Value} (d0 : decode Y.2.1 pc = .ok (.new idx, 3)) (hc : vwCl[ci]? = some (CN, T, N)) (hin : ∀ w ∈ u_ws CN T N, w ∈ z_T) (ty : Nat → FieldType) (hty : ∀ j, j < N → parseFieldDescriptor (T j).2.2.1 = some (ty j)) (hfs : ∀ j, j < N → defaultValue (ty j) = vp_V fs j) (h1 : Cond.classLink Y.1.cls idx CN ∈ z_T) (h2 : Cond.instantiable CN N ∈ z_T) (h3 : Cond.initialized CN ∈ z_T) (hk1 : 1 ≤ k) (hn1 : N ≤ n)
    (kk : ∀ q : Nat, w q = none → z_E G Y d Z (pc + 3) L (.ref q :: st) (z_up w q (.inr (ci, fs))) (k - 1) (n - N)) : z_E G Y d Z pc L st w k n := by
  intro p e R s m args below meth c H locs cells slots ls mc ms C hR hS hL hd hk
  obtain ⟨ws, hP, hD, hws⟩ := hR
  refine va_new C.1 C.2.1 C.2.2.2.2.1 hin ty hty C.2.2.2.1 (C.2.2.2.2.1 _ h1) (C.2.2.2.2.1 _ h2) (C.2.2.2.2.1 _ h3) C.2.2.2.2.2.2.2.2.2.1 hP hD hS (fun q h => Nat.le_trans C.2.2.2.2.2.2.2.2.2.2.2.2.2.2.2.2.1 h) hc hfs (by omega) (by omega) d0 (fun q H1 hP1 hD1 hS1 => ?_)
  obtain ⟨hR1, hq⟩ := z_R_new hws hP1 hD1
  exact kk q hq p e R s m args below meth c H1 locs (cells + 1) (slots + N) ls mc ms C hR1 hS1 hL hd ⟨by omega, by omega, hk.2.2⟩
theorem z_get {ci N idx j a : Nat} {CN : String} {T : u_T} {fs : List Value} {v : Value} (d0 : decode Y.2.1 pc = .ok (.getfield idx, 3)) (hc : vwCl[ci]? = some (CN, T, N)) (hin : ∀ w ∈ u_ws CN T N, w ∈ z_T) (hj : j < N) (hlink : Cond.fieldLink Y.1.cls idx (T j).1 (T j).2.1 (T j).2.2.1 ∈ z_T) (hw : w a = some (.inr (ci, fs))) (hv : fs[j]? = some v) (kk : z_E G Y d Z (pc + 3) L (v :: st) w k n) : z_E G Y d Z pc L (.ref a :: st) w k n := by
  intro p e R s m args below meth c H locs cells slots ls mc ms C hR hS hL hd hk
  obtain ⟨hP, -⟩ := hR.one hw
  exact va_get C.1 C.2.1 C.2.2.2.2.1 hin C.2.2.2.1 C.2.2.2.2.2.2.2.2.2.1 hP 0 rfl hc j hj (C.2.2.2.2.1 _ hlink) (fun _ h => h) hv d0 (kk p e R s m args below meth c H locs cells slots ls mc ms C hR hS hL hd hk)
theorem z_put {ci N idx j a : Nat} {CN : String} {T : u_T} {fs : List Value} {v : Value} (d0 : decode Y.2.1 pc = .ok (.putfield idx, 3)) (hc : vwCl[ci]? = some (CN, T, N)) (hin : ∀ w ∈ u_ws CN T N, w ∈ z_T) (ty : Nat → FieldType) (hty : ∀ j, j < N → parseFieldDescriptor (T j).2.2.1 = some (ty j)) (hnm : ∀ a, a < N → ∀ b, b < N → a ≠ b → (T a).2.1 ≠ (T b).2.1) (hj : j < N) (hlink : Cond.fieldLink Y.1.cls idx (T j).1 (T j).2.1 (T j).2.2.1 ∈ z_T) (hfin : (T j).2.2.2 = false) (hn : narrow (ty j) v = v) (hfit : fits (ty j) v = true) (hw : w a = some (.inr (ci, fs))) (hl : j < fs.length)
    (kk : z_E G Y d Z (pc + 3) L st (z_up w a (.inr (ci, fs.set j v))) k n) : z_E G Y d Z pc L (v :: .ref a :: st) w k n := by
  intro p e R s m args below meth c H locs cells slots ls mc ms C hR hS hL hd hk
  obtain ⟨ws, hP, hD, hws⟩ := hR
  obtain ⟨q0, hq0⟩ := hws _ _ hw
  exact va_put C.1 C.2.1 C.2.2.2.2.1 hin ty hty hnm C.2.2.2.1 C.2.2.2.2.2.2.2.2.2.1 hP hD hS q0 hq0 hc j hj (C.2.2.2.2.1 _ hlink) (fun _ h => h) hfin (hty j hj) hn hfit hl d0 (fun H1 locs1 hP1 hD1 hS1 => kk p e R s m args below meth c H1 locs1 cells slots ls mc ms C (z_R_set hD hq0 hws hP1 hD1) hS1 hL hd hk)
theorem z_putF {ci N idx j a : Nat} {CN : String} {T : u_T} {fs : List Value} {v : Value} (d0 : decode Y.2.1 pc = .ok (.putfield idx, 3)) (hc : vwCl[ci]? = some (CN, T, N)) (hin : ∀ w ∈ u_ws CN T N, w ∈ z_T) (ty : Nat → FieldType) (hty : ∀ j, j < N → parseFieldDescriptor (T j).2.2.1 = some (ty j)) (hnm : ∀ a, a < N → ∀ b, b < N → a ≠ b → (T a).2.1 ≠ (T b).2.1) (hj : j < N) (hlink : Cond.fieldLink Y.1.cls idx (T j).1 (T j).2.1 (T j).2.2.1 ∈ z_T) (hfin : (T j).2.2.2 = true) (hini : Y.1.name = "<init>") (hdecl : (T j).1 = Y.1.cls) (hn : narrow (ty j) v = v) (hfit : fits (ty j) v = true) (hw : w a = some (.inr (ci, fs))) (hl : j < fs.length)
    (kk : z_E G Y d Z (pc + 3) L st (z_up w a (.inr (ci, fs.set j v))) k n) : z_E G Y d Z pc L (v :: .ref a :: st) w k n := by
  intro p e R s m args below meth c H locs cells slots ls mc ms C hR hS hL hd hk
  obtain ⟨ws, hP, hD, hws⟩ := hR
  obtain ⟨q0, hq0⟩ := hws _ _ hw
  exact va_putF C.1 C.2.1 C.2.2.2.2.1 hin ty hty hnm C.2.2.2.1 C.2.2.2.2.2.2.2.2.2.1 hP hD hS q0 hq0 hc j hj (C.2.2.2.2.1 _ hlink) (fun _ h => h) hfin (C.2.2.2.2.2.2.2.1.trans hini) hdecl (hty j hj) hn hfit hl d0 (fun H1 locs1 hP1 hD1 hS1 => kk p e R s m args below meth c H1 locs1 cells slots ls mc ms C (z_R_set hD hq0 hws hP1 hD1) hS1 hL hd hk)
theorem z_E.mono {k2 n2 : Nat} (h1 : k ≤ k2) (h2 : n ≤ n2) (kk : z_E G Y d Z pc L st w k n) : z_E G Y d Z pc L st w k2 n2 := by
  intro p e R s m args below meth c H locs cells slots ls mc ms C hR hS hL hd hk
  exact kk p e R s m args below meth c H locs cells slots ls mc ms C hR hS hL hd ⟨by omega, by omega, hk.2.2⟩
theorem z_E.depth {d2 : Nat} (h1 : d ≤ d2) (kk : z_E G Y d Z pc L st w k n) : z_E G Y d2 Z pc L st w k n := by
  intro p e R s m args below meth c H locs cells slots ls mc ms C hR hS hL hd hk
  exact kk p e R s m args below meth c H locs cells slots ls mc ms C hR hS hL ⟨Nat.le_trans h1 hd.1, Nat.le_trans (Nat.mul_le_mul_left 35 h1) hd.2⟩ hk
theorem z_objInit {idx a : Nat} (d0 : decode Y.2.1 pc = .ok (.invokespecial idx, 3)) (h1 : Cond.methodLink Y.1.cls idx Lib.objectInit ∈ z_T) (h2 : Cond.instanceMethod Lib.objectInit ∈ z_T) (h3 : Cond.code Lib.objectInit ⟨#[0xb1]⟩ 1 none ∈ z_T) (hdd : 1 ≤ d) (hst : (st.map fun v => v.category).sum ≤ 8) (kk : z_E G Y d Z (pc + 3) L st w k n) : z_E G Y d Z pc L (.ref a :: st) w k n := by
  intro p e R s m args below meth c H locs cells slots ls mc ms C hR hS hL hd hk
  have hd2 : 35 * d ≤ R.locals := hd.2
  exact W.objInit C.1 C.2.1 C.2.2.2.1 (C.2.2.2.2.1 _ h1) (C.2.2.2.2.1 _ h2) (C.2.2.2.2.1 _ h3) rfl (hL.2.1.trans C.2.2.1.symm) rfl d0 (Nat.le_trans hdd hd.1) (by have := lv_room (m := m) (pc := pc) (ls := ls) (rest := .ref a :: st) hst; omega) (kk p e R s m args below meth c H locs cells slots ls mc ms C hR hS hL hd hk)
theorem z_ldc {idx : Nat} {v : Int32} (d0 : decode Y.2.1 pc = .ok (.ldc idx, 2)) (hc : Cond.constant Y.1.cls idx v ∈ z_T) (kk : z_E G Y d Z (pc + 2) L (.int v :: st) w k n) : z_E G Y d Z pc L st w k n := by
  intro p e R s m args below meth c H locs cells slots ls mc ms C hR hS hL hd hk
  exact lv_ldc C.1 C.2.1 C.2.2.2.1 (C.2.2.2.2.1 _ hc) d0 (kk p e R s m args below meth c H locs cells slots ls mc ms C hR hS hL hd hk)
theorem z_ldcf {idx : Nat} {v : UInt32} (d0 : decode Y.2.1 pc = .ok (.ldc idx, 2)) (hc : Cond.constantFloat Y.1.cls idx v ∈ z_T) (kk : z_E G Y d Z (pc + 2) L (.float v :: st) w k n) : z_E G Y d Z pc L st w k n := by
  intro p e R s m args below meth c H locs cells slots ls mc ms C hR hS hL hd hk
  exact lv_ldcf C.1 C.2.1 C.2.2.2.1 (C.2.2.2.2.1 _ hc) d0 (kk p e R s m args below meth c H locs cells slots ls mc ms C hR hS hL hd hk)
end ZROWS
