def xushr (x y : Int32) : Int32 := (x.toUInt32 >>> (y.toUInt32 &&& Int32.toUInt32 31)).toInt32
def xlshl (x : Int64) (y : Int32) : Int64 := x <<< (y.toInt64 &&& 63)
def xlushr (x : Int64) (y : Int32) : Int64 := (x.toUInt64 >>> (y.toInt64.toUInt64 &&& Int64.toUInt64 63)).toInt64
section XROWS
variable {T : xT} {Y : xY} {d CM SM : Nat} {P : xPost} {pc : Nat} {lv : List (Nat × Value)} {st : List Value} {g : xG} {I : xI} {R : xR} {L : xL}
theorem x_iconst {n : Int} {v : Int32} (hd : decode Y.2.1 pc = .ok (.iconst n, 1)) (hv : Int32.ofInt n = v) (K : X T Y d CM SM P (pc + 1) lv (.int v :: st) g I R L) : X T Y d CM SM P (pc) lv (st) g I R L := by
  intro p l e Rm s m args below meth c Q dC dI dA ad adV A H locs ls C hl hr hx
  exact lv_iconst C.1 C.2.1 hd hv (K p l e Rm s m args below meth c Q dC dI dA ad adV A H locs ls C hl hr hx)
theorem x_bipush {n : Int} {v : Int32} (hd : decode Y.2.1 pc = .ok (.bipush n, 2)) (hv : (Int8.ofInt n).toInt32 = v) (K : X T Y d CM SM P (pc + 2) lv (.int v :: st) g I R L) : X T Y d CM SM P (pc) lv (st) g I R L := by
  intro p l e Rm s m args below meth c Q dC dI dA ad adV A H locs ls C hl hr hx
  exact lv_bipush C.1 C.2.1 hd hv (K p l e Rm s m args below meth c Q dC dI dA ad adV A H locs ls C hl hr hx)
theorem x_sipush {n : Int} {v : Int32} (hd : decode Y.2.1 pc = .ok (.sipush n, 3)) (hv : (Int16.ofInt n).toInt32 = v) (K : X T Y d CM SM P (pc + 3) lv (.int v :: st) g I R L) : X T Y d CM SM P (pc) lv (st) g I R L := by
  intro p l e Rm s m args below meth c Q dC dI dA ad adV A H locs ls C hl hr hx
  exact lv_sipush C.1 C.2.1 hd hv (K p l e Rm s m args below meth c Q dC dI dA ad adV A H locs ls C hl hr hx)
theorem x_lconst {n : Fin 2} {v : Int64} (hd : decode Y.2.1 pc = .ok (.lconst n, 1)) (hv : Int64.ofNat (n : Nat) = v) (K : X T Y d CM SM P (pc + 1) lv (.long v :: st) g I R L) : X T Y d CM SM P (pc) lv (st) g I R L := by
  intro p l e Rm s m args below meth c Q dC dI dA ad adV A H locs ls C hl hr hx
  exact lv_lconst C.1 C.2.1 hd hv (K p l e Rm s m args below meth c Q dC dI dA ad adV A H locs ls C hl hr hx)
theorem x_null  (hd : decode Y.2.1 pc = .ok (.aconst_null, 1))  (K : X T Y d CM SM P (pc + 1) lv (.null :: st) g I R L) : X T Y d CM SM P (pc) lv (st) g I R L := by
  intro p l e Rm s m args below meth c Q dC dI dA ad adV A H locs ls C hl hr hx
  exact lv_null C.1 C.2.1 hd  (K p l e Rm s m args below meth c Q dC dI dA ad adV A H locs ls C hl hr hx)
theorem x_iload {i : Nat} {x : Int32} (hd : decode Y.2.1 pc = .ok (.iload i, 2)) (hv : xl lv i = some (.int x)) (K : X T Y d CM SM P (pc + 2) lv (.int x :: st) g I R L) : X T Y d CM SM P (pc) lv (st) g I R L := by
  intro p l e Rm s m args below meth c Q dC dI dA ad adV A H locs ls C hl hr hx
  exact lv_iload C.1 C.2.1 hd (xl_at hl hv) (K p l e Rm s m args below meth c Q dC dI dA ad adV A H locs ls C hl hr hx)
theorem x_iload_n {k : Fin 4} {i : Nat} {x : Int32} (hd : decode Y.2.1 pc = .ok (.iload_n k, 1)) (hi : (k : Nat) = i) (hv : xl lv i = some (.int x)) (K : X T Y d CM SM P (pc + 1) lv (.int x :: st) g I R L) : X T Y d CM SM P (pc) lv (st) g I R L := by
  intro p l e Rm s m args below meth c Q dC dI dA ad adV A H locs ls C hl hr hx
  exact lv_iload_n C.1 C.2.1 hd hi (xl_at hl hv) (K p l e Rm s m args below meth c Q dC dI dA ad adV A H locs ls C hl hr hx)
theorem x_lload {i : Nat} {x : Int64} (hd : decode Y.2.1 pc = .ok (.lload i, 2)) (hv : xl lv i = some (.long x)) (K : X T Y d CM SM P (pc + 2) lv (.long x :: st) g I R L) : X T Y d CM SM P (pc) lv (st) g I R L := by
  intro p l e Rm s m args below meth c Q dC dI dA ad adV A H locs ls C hl hr hx
  exact lv_lload C.1 C.2.1 hd (xl_at hl hv) (K p l e Rm s m args below meth c Q dC dI dA ad adV A H locs ls C hl hr hx)
theorem x_lload_n {k : Fin 4} {i : Nat} {x : Int64} (hd : decode Y.2.1 pc = .ok (.lload_n k, 1)) (hi : (k : Nat) = i) (hv : xl lv i = some (.long x)) (K : X T Y d CM SM P (pc + 1) lv (.long x :: st) g I R L) : X T Y d CM SM P (pc) lv (st) g I R L := by
  intro p l e Rm s m args below meth c Q dC dI dA ad adV A H locs ls C hl hr hx
  exact lv_lload_n C.1 C.2.1 hd hi (xl_at hl hv) (K p l e Rm s m args below meth c Q dC dI dA ad adV A H locs ls C hl hr hx)
theorem x_aload {i x : Nat} (hd : decode Y.2.1 pc = .ok (.aload i, 2)) (hv : xl lv i = some (.ref x)) (K : X T Y d CM SM P (pc + 2) lv (.ref x :: st) g I R L) : X T Y d CM SM P (pc) lv (st) g I R L := by
  intro p l e Rm s m args below meth c Q dC dI dA ad adV A H locs ls C hl hr hx
  exact lv_aload C.1 C.2.1 hd (xl_at hl hv) (K p l e Rm s m args below meth c Q dC dI dA ad adV A H locs ls C hl hr hx)
theorem x_aload_n {k : Fin 4} {i x : Nat} (hd : decode Y.2.1 pc = .ok (.aload_n k, 1)) (hi : (k : Nat) = i) (hv : xl lv i = some (.ref x)) (K : X T Y d CM SM P (pc + 1) lv (.ref x :: st) g I R L) : X T Y d CM SM P (pc) lv (st) g I R L := by
  intro p l e Rm s m args below meth c Q dC dI dA ad adV A H locs ls C hl hr hx
  exact lv_aload_n C.1 C.2.1 hd hi (xl_at hl hv) (K p l e Rm s m args below meth c Q dC dI dA ad adV A H locs ls C hl hr hx)
theorem x_aloadN {i : Nat} (hd : decode Y.2.1 pc = .ok (.aload i, 2)) (hv : xl lv i = some .null) (K : X T Y d CM SM P (pc + 2) lv (.null :: st) g I R L) : X T Y d CM SM P (pc) lv (st) g I R L := by
  intro p l e Rm s m args below meth c Q dC dI dA ad adV A H locs ls C hl hr hx
  exact lv_aloadN C.1 C.2.1 hd (xl_at hl hv) (K p l e Rm s m args below meth c Q dC dI dA ad adV A H locs ls C hl hr hx)
theorem x_aload_nN {k : Fin 4} {i : Nat} (hd : decode Y.2.1 pc = .ok (.aload_n k, 1)) (hi : (k : Nat) = i) (hv : xl lv i = some .null) (K : X T Y d CM SM P (pc + 1) lv (.null :: st) g I R L) : X T Y d CM SM P (pc) lv (st) g I R L := by
  intro p l e Rm s m args below meth c Q dC dI dA ad adV A H locs ls C hl hr hx
  exact lv_aload_nN C.1 C.2.1 hd hi (xl_at hl hv) (K p l e Rm s m args below meth c Q dC dI dA ad adV A H locs ls C hl hr hx)
theorem x_iadd {x y : Int32} (hd : decode Y.2.1 pc = .ok (.iadd, 1))  (K : X T Y d CM SM P (pc + 1) lv (.int (x + y) :: st) g I R L) : X T Y d CM SM P (pc) lv (.int y :: .int x :: st) g I R L := by
  intro p l e Rm s m args below meth c Q dC dI dA ad adV A H locs ls C hl hr hx
  exact lv_iadd C.1 C.2.1 hd  (K p l e Rm s m args below meth c Q dC dI dA ad adV A H locs ls C hl hr hx)
theorem x_isub {x y : Int32} (hd : decode Y.2.1 pc = .ok (.isub, 1))  (K : X T Y d CM SM P (pc + 1) lv (.int (x - y) :: st) g I R L) : X T Y d CM SM P (pc) lv (.int y :: .int x :: st) g I R L := by
  intro p l e Rm s m args below meth c Q dC dI dA ad adV A H locs ls C hl hr hx
  exact lv_isub C.1 C.2.1 hd  (K p l e Rm s m args below meth c Q dC dI dA ad adV A H locs ls C hl hr hx)
theorem x_imul {x y : Int32} (hd : decode Y.2.1 pc = .ok (.imul, 1))  (K : X T Y d CM SM P (pc + 1) lv (.int (x * y) :: st) g I R L) : X T Y d CM SM P (pc) lv (.int y :: .int x :: st) g I R L := by
  intro p l e Rm s m args below meth c Q dC dI dA ad adV A H locs ls C hl hr hx
  exact lv_imul C.1 C.2.1 hd  (K p l e Rm s m args below meth c Q dC dI dA ad adV A H locs ls C hl hr hx)
theorem x_iand {x y : Int32} (hd : decode Y.2.1 pc = .ok (.iand, 1))  (K : X T Y d CM SM P (pc + 1) lv (.int (x &&& y) :: st) g I R L) : X T Y d CM SM P (pc) lv (.int y :: .int x :: st) g I R L := by
  intro p l e Rm s m args below meth c Q dC dI dA ad adV A H locs ls C hl hr hx
  exact lv_iand C.1 C.2.1 hd  (K p l e Rm s m args below meth c Q dC dI dA ad adV A H locs ls C hl hr hx)
theorem x_ior {x y : Int32} (hd : decode Y.2.1 pc = .ok (.ior, 1))  (K : X T Y d CM SM P (pc + 1) lv (.int (x ||| y) :: st) g I R L) : X T Y d CM SM P (pc) lv (.int y :: .int x :: st) g I R L := by
  intro p l e Rm s m args below meth c Q dC dI dA ad adV A H locs ls C hl hr hx
  exact lv_ior C.1 C.2.1 hd  (K p l e Rm s m args below meth c Q dC dI dA ad adV A H locs ls C hl hr hx)
theorem x_ixor {x y : Int32} (hd : decode Y.2.1 pc = .ok (.ixor, 1))  (K : X T Y d CM SM P (pc + 1) lv (.int (x ^^^ y) :: st) g I R L) : X T Y d CM SM P (pc) lv (.int y :: .int x :: st) g I R L := by
  intro p l e Rm s m args below meth c Q dC dI dA ad adV A H locs ls C hl hr hx
  exact lv_ixor C.1 C.2.1 hd  (K p l e Rm s m args below meth c Q dC dI dA ad adV A H locs ls C hl hr hx)
theorem x_ishl {x y : Int32} (hd : decode Y.2.1 pc = .ok (.ishl, 1))  (K : X T Y d CM SM P (pc + 1) lv (.int (x <<< (y &&& 31)) :: st) g I R L) : X T Y d CM SM P (pc) lv (.int y :: .int x :: st) g I R L := by
  intro p l e Rm s m args below meth c Q dC dI dA ad adV A H locs ls C hl hr hx
  exact lv_ishl C.1 C.2.1 hd  (K p l e Rm s m args below meth c Q dC dI dA ad adV A H locs ls C hl hr hx)
theorem x_ishr {x y : Int32} (hd : decode Y.2.1 pc = .ok (.ishr, 1))  (K : X T Y d CM SM P (pc + 1) lv (.int (x >>> (y &&& 31)) :: st) g I R L) : X T Y d CM SM P (pc) lv (.int y :: .int x :: st) g I R L := by
  intro p l e Rm s m args below meth c Q dC dI dA ad adV A H locs ls C hl hr hx
  exact lv_ishr C.1 C.2.1 hd  (K p l e Rm s m args below meth c Q dC dI dA ad adV A H locs ls C hl hr hx)
theorem x_idiv {x y : Int32} (hd : decode Y.2.1 pc = .ok (.idiv, 1)) (hne : ¬ y = 0) (K : X T Y d CM SM P (pc + 1) lv (.int (x / y) :: st) g I R L) : X T Y d CM SM P (pc) lv (.int y :: .int x :: st) g I R L := by
  intro p l e Rm s m args below meth c Q dC dI dA ad adV A H locs ls C hl hr hx
  exact lv_idiv C.1 C.2.1 hd hne (K p l e Rm s m args below meth c Q dC dI dA ad adV A H locs ls C hl hr hx)
theorem x_irem {x y : Int32} (hd : decode Y.2.1 pc = .ok (.irem, 1)) (hne : ¬ y = 0) (K : X T Y d CM SM P (pc + 1) lv (.int (x - x / y * y) :: st) g I R L) : X T Y d CM SM P (pc) lv (.int y :: .int x :: st) g I R L := by
  intro p l e Rm s m args below meth c Q dC dI dA ad adV A H locs ls C hl hr hx
  exact lv_irem C.1 C.2.1 hd hne (K p l e Rm s m args below meth c Q dC dI dA ad adV A H locs ls C hl hr hx)
theorem x_ineg {x : Int32} (hd : decode Y.2.1 pc = .ok (.ineg, 1))  (K : X T Y d CM SM P (pc + 1) lv (.int (-x) :: st) g I R L) : X T Y d CM SM P (pc) lv (.int x :: st) g I R L := by
  intro p l e Rm s m args below meth c Q dC dI dA ad adV A H locs ls C hl hr hx
  exact lv_ineg C.1 C.2.1 hd  (K p l e Rm s m args below meth c Q dC dI dA ad adV A H locs ls C hl hr hx)
theorem x_ladd {x y : Int64} (hd : decode Y.2.1 pc = .ok (.ladd, 1))  (K : X T Y d CM SM P (pc + 1) lv (.long (x + y) :: st) g I R L) : X T Y d CM SM P (pc) lv (.long y :: .long x :: st) g I R L := by
  intro p l e Rm s m args below meth c Q dC dI dA ad adV A H locs ls C hl hr hx
  exact lv_ladd C.1 C.2.1 hd  (K p l e Rm s m args below meth c Q dC dI dA ad adV A H locs ls C hl hr hx)
theorem x_lsub {x y : Int64} (hd : decode Y.2.1 pc = .ok (.lsub, 1))  (K : X T Y d CM SM P (pc + 1) lv (.long (x - y) :: st) g I R L) : X T Y d CM SM P (pc) lv (.long y :: .long x :: st) g I R L := by
  intro p l e Rm s m args below meth c Q dC dI dA ad adV A H locs ls C hl hr hx
  exact lv_lsub C.1 C.2.1 hd  (K p l e Rm s m args below meth c Q dC dI dA ad adV A H locs ls C hl hr hx)
theorem x_lmul {x y : Int64} (hd : decode Y.2.1 pc = .ok (.lmul, 1))  (K : X T Y d CM SM P (pc + 1) lv (.long (x * y) :: st) g I R L) : X T Y d CM SM P (pc) lv (.long y :: .long x :: st) g I R L := by
  intro p l e Rm s m args below meth c Q dC dI dA ad adV A H locs ls C hl hr hx
  exact lv_lmul C.1 C.2.1 hd  (K p l e Rm s m args below meth c Q dC dI dA ad adV A H locs ls C hl hr hx)
theorem x_land {x y : Int64} (hd : decode Y.2.1 pc = .ok (.land, 1))  (K : X T Y d CM SM P (pc + 1) lv (.long (x &&& y) :: st) g I R L) : X T Y d CM SM P (pc) lv (.long y :: .long x :: st) g I R L := by
  intro p l e Rm s m args below meth c Q dC dI dA ad adV A H locs ls C hl hr hx
  exact lv_land C.1 C.2.1 hd  (K p l e Rm s m args below meth c Q dC dI dA ad adV A H locs ls C hl hr hx)
theorem x_lor {x y : Int64} (hd : decode Y.2.1 pc = .ok (.lor, 1))  (K : X T Y d CM SM P (pc + 1) lv (.long (x ||| y) :: st) g I R L) : X T Y d CM SM P (pc) lv (.long y :: .long x :: st) g I R L := by
  intro p l e Rm s m args below meth c Q dC dI dA ad adV A H locs ls C hl hr hx
  exact lv_lor C.1 C.2.1 hd  (K p l e Rm s m args below meth c Q dC dI dA ad adV A H locs ls C hl hr hx)
theorem x_lxor {x y : Int64} (hd : decode Y.2.1 pc = .ok (.lxor, 1))  (K : X T Y d CM SM P (pc + 1) lv (.long (x ^^^ y) :: st) g I R L) : X T Y d CM SM P (pc) lv (.long y :: .long x :: st) g I R L := by
  intro p l e Rm s m args below meth c Q dC dI dA ad adV A H locs ls C hl hr hx
  exact lv_lxor C.1 C.2.1 hd  (K p l e Rm s m args below meth c Q dC dI dA ad adV A H locs ls C hl hr hx)
theorem x_ldiv {x y : Int64} (hd : decode Y.2.1 pc = .ok (.ldiv, 1)) (hne : ¬ y = 0) (K : X T Y d CM SM P (pc + 1) lv (.long (x / y) :: st) g I R L) : X T Y d CM SM P (pc) lv (.long y :: .long x :: st) g I R L := by
  intro p l e Rm s m args below meth c Q dC dI dA ad adV A H locs ls C hl hr hx
  exact lv_ldiv C.1 C.2.1 hd hne (K p l e Rm s m args below meth c Q dC dI dA ad adV A H locs ls C hl hr hx)
theorem x_lrem {x y : Int64} (hd : decode Y.2.1 pc = .ok (.lrem, 1)) (hne : ¬ y = 0) (K : X T Y d CM SM P (pc + 1) lv (.long (x - x / y * y) :: st) g I R L) : X T Y d CM SM P (pc) lv (.long y :: .long x :: st) g I R L := by
  intro p l e Rm s m args below meth c Q dC dI dA ad adV A H locs ls C hl hr hx
  exact lv_lrem C.1 C.2.1 hd hne (K p l e Rm s m args below meth c Q dC dI dA ad adV A H locs ls C hl hr hx)
theorem x_iushr {x y : Int32} (hd : decode Y.2.1 pc = .ok (.iushr, 1))  (K : X T Y d CM SM P (pc + 1) lv (.int (xushr x y) :: st) g I R L) : X T Y d CM SM P (pc) lv (.int y :: .int x :: st) g I R L := by
  intro p l e Rm s m args below meth c Q dC dI dA ad adV A H locs ls C hl hr hx
  exact lv_iushr C.1 C.2.1 hd rfl (K p l e Rm s m args below meth c Q dC dI dA ad adV A H locs ls C hl hr hx)
theorem x_lshl {x : Int64} {y : Int32} (hd : decode Y.2.1 pc = .ok (.lshl, 1))  (K : X T Y d CM SM P (pc + 1) lv (.long (xlshl x y) :: st) g I R L) : X T Y d CM SM P (pc) lv (.int y :: .long x :: st) g I R L := by
  intro p l e Rm s m args below meth c Q dC dI dA ad adV A H locs ls C hl hr hx
  exact lv_lshl C.1 C.2.1 hd rfl (K p l e Rm s m args below meth c Q dC dI dA ad adV A H locs ls C hl hr hx)
theorem x_lushr {x : Int64} {y : Int32} (hd : decode Y.2.1 pc = .ok (.lushr, 1))  (K : X T Y d CM SM P (pc + 1) lv (.long (xlushr x y) :: st) g I R L) : X T Y d CM SM P (pc) lv (.int y :: .long x :: st) g I R L := by
  intro p l e Rm s m args below meth c Q dC dI dA ad adV A H locs ls C hl hr hx
  exact lv_lushr C.1 C.2.1 hd rfl (K p l e Rm s m args below meth c Q dC dI dA ad adV A H locs ls C hl hr hx)
theorem x_i2l {x : Int32} (hd : decode Y.2.1 pc = .ok (.i2l, 1))  (K : X T Y d CM SM P (pc + 1) lv (.long x.toInt64 :: st) g I R L) : X T Y d CM SM P (pc) lv (.int x :: st) g I R L := by
  intro p l e Rm s m args below meth c Q dC dI dA ad adV A H locs ls C hl hr hx
  exact lv_i2l C.1 C.2.1 hd rfl (K p l e Rm s m args below meth c Q dC dI dA ad adV A H locs ls C hl hr hx)
theorem x_l2i {x : Int64} (hd : decode Y.2.1 pc = .ok (.l2i, 1))  (K : X T Y d CM SM P (pc + 1) lv (.int x.toInt32 :: st) g I R L) : X T Y d CM SM P (pc) lv (.long x :: st) g I R L := by
  intro p l e Rm s m args below meth c Q dC dI dA ad adV A H locs ls C hl hr hx
  exact lv_l2i C.1 C.2.1 hd rfl (K p l e Rm s m args below meth c Q dC dI dA ad adV A H locs ls C hl hr hx)
theorem x_i2b {x : Int32} (hd : decode Y.2.1 pc = .ok (.i2b, 1))  (K : X T Y d CM SM P (pc + 1) lv (.int x.toInt8.toInt32 :: st) g I R L) : X T Y d CM SM P (pc) lv (.int x :: st) g I R L := by
  intro p l e Rm s m args below meth c Q dC dI dA ad adV A H locs ls C hl hr hx
  exact lv_i2b C.1 C.2.1 hd rfl (K p l e Rm s m args below meth c Q dC dI dA ad adV A H locs ls C hl hr hx)
theorem x_i2s {x : Int32} (hd : decode Y.2.1 pc = .ok (.i2s, 1))  (K : X T Y d CM SM P (pc + 1) lv (.int x.toInt16.toInt32 :: st) g I R L) : X T Y d CM SM P (pc) lv (.int x :: st) g I R L := by
  intro p l e Rm s m args below meth c Q dC dI dA ad adV A H locs ls C hl hr hx
  exact lv_i2s C.1 C.2.1 hd rfl (K p l e Rm s m args below meth c Q dC dI dA ad adV A H locs ls C hl hr hx)
theorem x_i2c {x : Int32} (hd : decode Y.2.1 pc = .ok (.i2c, 1))  (K : X T Y d CM SM P (pc + 1) lv (.int (x.toUInt32 % 65536).toInt32 :: st) g I R L) : X T Y d CM SM P (pc) lv (.int x :: st) g I R L := by
  intro p l e Rm s m args below meth c Q dC dI dA ad adV A H locs ls C hl hr hx
  exact lv_i2c C.1 C.2.1 hd rfl (K p l e Rm s m args below meth c Q dC dI dA ad adV A H locs ls C hl hr hx)
theorem x_lcmp {x y : Int64} (hd : decode Y.2.1 pc = .ok (.lcmp, 1))  (K : X T Y d CM SM P (pc + 1) lv (.int (lg_cmp x y) :: st) g I R L) : X T Y d CM SM P (pc) lv (.long y :: .long x :: st) g I R L := by
  intro p l e Rm s m args below meth c Q dC dI dA ad adV A H locs ls C hl hr hx
  exact W.lcmp C.1 C.2.1 hd  (K p l e Rm s m args below meth c Q dC dI dA ad adV A H locs ls C hl hr hx)
theorem x_dup {v : Value} (hd : decode Y.2.1 pc = .ok (.dup, 1)) (hc : v.category = 1) (K : X T Y d CM SM P (pc + 1) lv (v :: v :: st) g I R L) : X T Y d CM SM P (pc) lv (v :: st) g I R L := by
  intro p l e Rm s m args below meth c Q dC dI dA ad adV A H locs ls C hl hr hx
  exact lv_dup C.1 C.2.1 hd (by rw [cV_cat]; exact hc) (K p l e Rm s m args below meth c Q dC dI dA ad adV A H locs ls C hl hr hx)
theorem x_pop {v : Value} (hd : decode Y.2.1 pc = .ok (.pop, 1)) (hc : v.category = 1) (K : X T Y d CM SM P (pc + 1) lv (st) g I R L) : X T Y d CM SM P (pc) lv (v :: st) g I R L := by
  intro p l e Rm s m args below meth c Q dC dI dA ad adV A H locs ls C hl hr hx
  exact lv_pop C.1 C.2.1 hd (by rw [cV_cat]; exact hc) (K p l e Rm s m args below meth c Q dC dI dA ad adV A H locs ls C hl hr hx)
theorem x_dup2 {v w : Value} (hd : decode Y.2.1 pc = .ok (.dup2, 1)) (hc : v.category = 1) (hc2 : w.category = 1) (K : X T Y d CM SM P (pc + 1) lv (v :: w :: v :: w :: st) g I R L) : X T Y d CM SM P (pc) lv (v :: w :: st) g I R L := by
  intro p l e Rm s m args below meth c Q dC dI dA ad adV A H locs ls C hl hr hx
  exact lv_dup2_11 C.1 C.2.1 hd (by rw [cV_cat]; exact hc) (by rw [cV_cat]; exact hc2) (K p l e Rm s m args below meth c Q dC dI dA ad adV A H locs ls C hl hr hx)
theorem x_istore {i : Nat} {x : Int32} {lv' : List (Nat × Value)} (hd : decode Y.2.1 pc = .ok (.istore i, 2))  (hn : i < Y.2.2.1) (he : xs1 lv i (.int x) = lv') (K : X T Y d CM SM P (pc + 2) lv' (st) g I R L) : X T Y d CM SM P (pc) lv (.int x :: st) g I R L := by
  intro p l e Rm s m args below meth c Q dC dI dA ad adV A H locs ls C hl hr hx
  exact lv_istore C.1 C.2.1 hd hl hn rfl (fun ls' hl' => K p l e Rm s m args below meth c Q dC dI dA ad adV A H locs ls' C (xs1_has he hl') hr hx)
theorem x_lstore {i : Nat} {x : Int64} {lv' : List (Nat × Value)} (hd : decode Y.2.1 pc = .ok (.lstore i, 2))  (hn : i + 1 < Y.2.2.1) (he : xs2 lv i (.long x) = lv') (K : X T Y d CM SM P (pc + 2) lv' (st) g I R L) : X T Y d CM SM P (pc) lv (.long x :: st) g I R L := by
  intro p l e Rm s m args below meth c Q dC dI dA ad adV A H locs ls C hl hr hx
  exact lv_lstore C.1 C.2.1 hd hl hn rfl (fun ls' hl' => K p l e Rm s m args below meth c Q dC dI dA ad adV A H locs ls' C (xs2_has he hl') hr hx)
theorem x_astore {i : Nat} {x : Nat} {lv' : List (Nat × Value)} (hd : decode Y.2.1 pc = .ok (.astore i, 2))  (hn : i < Y.2.2.1) (he : xs1 lv i (.ref x) = lv') (K : X T Y d CM SM P (pc + 2) lv' (st) g I R L) : X T Y d CM SM P (pc) lv (.ref x :: st) g I R L := by
  intro p l e Rm s m args below meth c Q dC dI dA ad adV A H locs ls C hl hr hx
  exact lv_astore C.1 C.2.1 hd hl hn rfl (fun ls' hl' => K p l e Rm s m args below meth c Q dC dI dA ad adV A H locs ls' C (xs1_has he hl') hr hx)
theorem x_astoreN {i : Nat}  {lv' : List (Nat × Value)} (hd : decode Y.2.1 pc = .ok (.astore i, 2))  (hn : i < Y.2.2.1) (he : xs1 lv i (.null) = lv') (K : X T Y d CM SM P (pc + 2) lv' (st) g I R L) : X T Y d CM SM P (pc) lv (.null :: st) g I R L := by
  intro p l e Rm s m args below meth c Q dC dI dA ad adV A H locs ls C hl hr hx
  exact lv_astoreN C.1 C.2.1 hd hl hn rfl (fun ls' hl' => K p l e Rm s m args below meth c Q dC dI dA ad adV A H locs ls' C (xs1_has he hl') hr hx)
theorem x_istore_n {k : Fin 4} {i : Nat} {x : Int32} {lv' : List (Nat × Value)} (hd : decode Y.2.1 pc = .ok (.istore_n k, 1)) (hi : (k : Nat) = i) (hn : i < Y.2.2.1) (he : xs1 lv i (.int x) = lv') (K : X T Y d CM SM P (pc + 1) lv' (st) g I R L) : X T Y d CM SM P (pc) lv (.int x :: st) g I R L := by
  intro p l e Rm s m args below meth c Q dC dI dA ad adV A H locs ls C hl hr hx
  exact lv_istore_n C.1 C.2.1 hd hi hl hn rfl (fun ls' hl' => K p l e Rm s m args below meth c Q dC dI dA ad adV A H locs ls' C (xs1_has he hl') hr hx)
theorem x_lstore_n {k : Fin 4} {i : Nat} {x : Int64} {lv' : List (Nat × Value)} (hd : decode Y.2.1 pc = .ok (.lstore_n k, 1)) (hi : (k : Nat) = i) (hn : i + 1 < Y.2.2.1) (he : xs2 lv i (.long x) = lv') (K : X T Y d CM SM P (pc + 1) lv' (st) g I R L) : X T Y d CM SM P (pc) lv (.long x :: st) g I R L := by
  intro p l e Rm s m args below meth c Q dC dI dA ad adV A H locs ls C hl hr hx
  exact lv_lstore_n C.1 C.2.1 hd hi hl hn rfl (fun ls' hl' => K p l e Rm s m args below meth c Q dC dI dA ad adV A H locs ls' C (xs2_has he hl') hr hx)
theorem x_astore_n {k : Fin 4} {i : Nat} {x : Nat} {lv' : List (Nat × Value)} (hd : decode Y.2.1 pc = .ok (.astore_n k, 1)) (hi : (k : Nat) = i) (hn : i < Y.2.2.1) (he : xs1 lv i (.ref x) = lv') (K : X T Y d CM SM P (pc + 1) lv' (st) g I R L) : X T Y d CM SM P (pc) lv (.ref x :: st) g I R L := by
  intro p l e Rm s m args below meth c Q dC dI dA ad adV A H locs ls C hl hr hx
  exact lv_astore_n C.1 C.2.1 hd hi hl hn rfl (fun ls' hl' => K p l e Rm s m args below meth c Q dC dI dA ad adV A H locs ls' C (xs1_has he hl') hr hx)
theorem x_astore_nN {k : Fin 4} {i : Nat}  {lv' : List (Nat × Value)} (hd : decode Y.2.1 pc = .ok (.astore_n k, 1)) (hi : (k : Nat) = i) (hn : i < Y.2.2.1) (he : xs1 lv i (.null) = lv') (K : X T Y d CM SM P (pc + 1) lv' (st) g I R L) : X T Y d CM SM P (pc) lv (.null :: st) g I R L := by
  intro p l e Rm s m args below meth c Q dC dI dA ad adV A H locs ls C hl hr hx
  exact lv_astore_nN C.1 C.2.1 hd hi hl hn rfl (fun ls' hl' => K p l e Rm s m args below meth c Q dC dI dA ad adV A H locs ls' C (xs1_has he hl') hr hx)
theorem x_iinc {i : Nat} {n : Int} {x v : Int32} {lv' : List (Nat × Value)} (hd : decode Y.2.1 pc = .ok (.iinc i n, 3)) (hk : xl lv i = some (.int x)) (hv : x + Int32.ofInt n = v) (hn : i < Y.2.2.1) (he : xs1 lv i (.int v) = lv') (K : X T Y d CM SM P (pc + 3) lv' (st) g I R L) : X T Y d CM SM P (pc) lv (st) g I R L := by
  intro p l e Rm s m args below meth c Q dC dI dA ad adV A H locs ls C hl hr hx
  obtain ⟨k, hk'⟩ := List.getElem?_of_mem (List.mem_map.mpr ⟨(i, .int x), xl_mem hk, rfl⟩ : (i, Value.int x) ∈ lv.map (xq ad))
  exact lv_iinc C.1 C.2.1 hd hl hk' hv hn rfl (fun ls' hl' => K p l e Rm s m args below meth c Q dC dI dA ad adV A H locs ls' C (xs1_has he hl') hr hx)
theorem x_if_eq {x : Int32} {off : Int} {tgt : Nat} (hd : decode Y.2.1 pc = .ok (.ifCond .eq off, 3)) (ht : (pc : Int) + off = (tgt : Int)) (K1 : x = 0 → X T Y d CM SM P (tgt) lv (st) g I R L) (K2 : ¬ x = 0 → X T Y d CM SM P (pc + 3) lv (st) g I R L) : X T Y d CM SM P (pc) lv (.int x :: st) g I R L := by
  intro p l e Rm s m args below meth c Q dC dI dA ad adV A H locs ls C hl hr hx
  exact lv_if_eq C.1 C.2.1 hd ht (fun q => K1 q p l e Rm s m args below meth c Q dC dI dA ad adV A H locs ls C hl hr hx) (fun q => K2 q p l e Rm s m args below meth c Q dC dI dA ad adV A H locs ls C hl hr hx)
theorem x_if_eq_t {x : Int32} {off : Int} {tgt : Nat} (hd : decode Y.2.1 pc = .ok (.ifCond .eq off, 3)) (ht : (pc : Int) + off = (tgt : Int)) (q : x = 0) (K : X T Y d CM SM P (tgt) lv (st) g I R L) : X T Y d CM SM P (pc) lv (.int x :: st) g I R L := x_if_eq hd ht (fun _ => K) (fun h => absurd q h)
theorem x_if_eq_f {x : Int32} {off : Int} {tgt : Nat} (hd : decode Y.2.1 pc = .ok (.ifCond .eq off, 3)) (ht : (pc : Int) + off = (tgt : Int)) (q : ¬ x = 0) (K : X T Y d CM SM P (pc + 3) lv (st) g I R L) : X T Y d CM SM P (pc) lv (.int x :: st) g I R L := x_if_eq hd ht (fun h => absurd h q) (fun _ => K)
theorem x_icmp_eq {x y : Int32} {off : Int} {tgt : Nat} (hd : decode Y.2.1 pc = .ok (.if_icmp .eq off, 3)) (ht : (pc : Int) + off = (tgt : Int)) (K1 : x = y → X T Y d CM SM P (tgt) lv (st) g I R L) (K2 : ¬ x = y → X T Y d CM SM P (pc + 3) lv (st) g I R L) : X T Y d CM SM P (pc) lv (.int y :: .int x :: st) g I R L := by
  intro p l e Rm s m args below meth c Q dC dI dA ad adV A H locs ls C hl hr hx
  exact lv_icmp_eq C.1 C.2.1 hd ht (fun q => K1 q p l e Rm s m args below meth c Q dC dI dA ad adV A H locs ls C hl hr hx) (fun q => K2 q p l e Rm s m args below meth c Q dC dI dA ad adV A H locs ls C hl hr hx)
theorem x_icmp_eq_t {x y : Int32} {off : Int} {tgt : Nat} (hd : decode Y.2.1 pc = .ok (.if_icmp .eq off, 3)) (ht : (pc : Int) + off = (tgt : Int)) (q : x = y) (K : X T Y d CM SM P (tgt) lv (st) g I R L) : X T Y d CM SM P (pc) lv (.int y :: .int x :: st) g I R L := x_icmp_eq hd ht (fun _ => K) (fun h => absurd q h)
theorem x_icmp_eq_f {x y : Int32} {off : Int} {tgt : Nat} (hd : decode Y.2.1 pc = .ok (.if_icmp .eq off, 3)) (ht : (pc : Int) + off = (tgt : Int)) (q : ¬ x = y) (K : X T Y d CM SM P (pc + 3) lv (st) g I R L) : X T Y d CM SM P (pc) lv (.int y :: .int x :: st) g I R L := x_icmp_eq hd ht (fun h => absurd h q) (fun _ => K)
theorem x_if_ne {x : Int32} {off : Int} {tgt : Nat} (hd : decode Y.2.1 pc = .ok (.ifCond .ne off, 3)) (ht : (pc : Int) + off = (tgt : Int)) (K1 : ¬ x = 0 → X T Y d CM SM P (tgt) lv (st) g I R L) (K2 : x = 0 → X T Y d CM SM P (pc + 3) lv (st) g I R L) : X T Y d CM SM P (pc) lv (.int x :: st) g I R L := by
  intro p l e Rm s m args below meth c Q dC dI dA ad adV A H locs ls C hl hr hx
  exact lv_if_ne C.1 C.2.1 hd ht (fun q => K1 q p l e Rm s m args below meth c Q dC dI dA ad adV A H locs ls C hl hr hx) (fun q => K2 q p l e Rm s m args below meth c Q dC dI dA ad adV A H locs ls C hl hr hx)
theorem x_if_ne_t {x : Int32} {off : Int} {tgt : Nat} (hd : decode Y.2.1 pc = .ok (.ifCond .ne off, 3)) (ht : (pc : Int) + off = (tgt : Int)) (q : ¬ x = 0) (K : X T Y d CM SM P (tgt) lv (st) g I R L) : X T Y d CM SM P (pc) lv (.int x :: st) g I R L := x_if_ne hd ht (fun _ => K) (fun h => absurd h q)
theorem x_if_ne_f {x : Int32} {off : Int} {tgt : Nat} (hd : decode Y.2.1 pc = .ok (.ifCond .ne off, 3)) (ht : (pc : Int) + off = (tgt : Int)) (q : x = 0) (K : X T Y d CM SM P (pc + 3) lv (st) g I R L) : X T Y d CM SM P (pc) lv (.int x :: st) g I R L := x_if_ne hd ht (fun h => absurd q h) (fun _ => K)
theorem x_icmp_ne {x y : Int32} {off : Int} {tgt : Nat} (hd : decode Y.2.1 pc = .ok (.if_icmp .ne off, 3)) (ht : (pc : Int) + off = (tgt : Int)) (K1 : ¬ x = y → X T Y d CM SM P (tgt) lv (st) g I R L) (K2 : x = y → X T Y d CM SM P (pc + 3) lv (st) g I R L) : X T Y d CM SM P (pc) lv (.int y :: .int x :: st) g I R L := by
  intro p l e Rm s m args below meth c Q dC dI dA ad adV A H locs ls C hl hr hx
  exact lv_icmp_ne C.1 C.2.1 hd ht (fun q => K1 q p l e Rm s m args below meth c Q dC dI dA ad adV A H locs ls C hl hr hx) (fun q => K2 q p l e Rm s m args below meth c Q dC dI dA ad adV A H locs ls C hl hr hx)
theorem x_icmp_ne_t {x y : Int32} {off : Int} {tgt : Nat} (hd : decode Y.2.1 pc = .ok (.if_icmp .ne off, 3)) (ht : (pc : Int) + off = (tgt : Int)) (q : ¬ x = y) (K : X T Y d CM SM P (tgt) lv (st) g I R L) : X T Y d CM SM P (pc) lv (.int y :: .int x :: st) g I R L := x_icmp_ne hd ht (fun _ => K) (fun h => absurd h q)
theorem x_icmp_ne_f {x y : Int32} {off : Int} {tgt : Nat} (hd : decode Y.2.1 pc = .ok (.if_icmp .ne off, 3)) (ht : (pc : Int) + off = (tgt : Int)) (q : x = y) (K : X T Y d CM SM P (pc + 3) lv (st) g I R L) : X T Y d CM SM P (pc) lv (.int y :: .int x :: st) g I R L := x_icmp_ne hd ht (fun h => absurd q h) (fun _ => K)
theorem x_if_lt {x : Int32} {off : Int} {tgt : Nat} (hd : decode Y.2.1 pc = .ok (.ifCond .lt off, 3)) (ht : (pc : Int) + off = (tgt : Int)) (K1 : x < 0 → X T Y d CM SM P (tgt) lv (st) g I R L) (K2 : ¬ x < 0 → X T Y d CM SM P (pc + 3) lv (st) g I R L) : X T Y d CM SM P (pc) lv (.int x :: st) g I R L := by
  intro p l e Rm s m args below meth c Q dC dI dA ad adV A H locs ls C hl hr hx
  exact lv_if_lt C.1 C.2.1 hd ht (fun q => K1 q p l e Rm s m args below meth c Q dC dI dA ad adV A H locs ls C hl hr hx) (fun q => K2 q p l e Rm s m args below meth c Q dC dI dA ad adV A H locs ls C hl hr hx)
theorem x_if_lt_t {x : Int32} {off : Int} {tgt : Nat} (hd : decode Y.2.1 pc = .ok (.ifCond .lt off, 3)) (ht : (pc : Int) + off = (tgt : Int)) (q : x < 0) (K : X T Y d CM SM P (tgt) lv (st) g I R L) : X T Y d CM SM P (pc) lv (.int x :: st) g I R L := x_if_lt hd ht (fun _ => K) (fun h => absurd q h)
theorem x_if_lt_f {x : Int32} {off : Int} {tgt : Nat} (hd : decode Y.2.1 pc = .ok (.ifCond .lt off, 3)) (ht : (pc : Int) + off = (tgt : Int)) (q : ¬ x < 0) (K : X T Y d CM SM P (pc + 3) lv (st) g I R L) : X T Y d CM SM P (pc) lv (.int x :: st) g I R L := x_if_lt hd ht (fun h => absurd h q) (fun _ => K)
theorem x_icmp_lt {x y : Int32} {off : Int} {tgt : Nat} (hd : decode Y.2.1 pc = .ok (.if_icmp .lt off, 3)) (ht : (pc : Int) + off = (tgt : Int)) (K1 : x < y → X T Y d CM SM P (tgt) lv (st) g I R L) (K2 : ¬ x < y → X T Y d CM SM P (pc + 3) lv (st) g I R L) : X T Y d CM SM P (pc) lv (.int y :: .int x :: st) g I R L := by
  intro p l e Rm s m args below meth c Q dC dI dA ad adV A H locs ls C hl hr hx
  exact lv_icmp_lt C.1 C.2.1 hd ht (fun q => K1 q p l e Rm s m args below meth c Q dC dI dA ad adV A H locs ls C hl hr hx) (fun q => K2 q p l e Rm s m args below meth c Q dC dI dA ad adV A H locs ls C hl hr hx)
theorem x_icmp_lt_t {x y : Int32} {off : Int} {tgt : Nat} (hd : decode Y.2.1 pc = .ok (.if_icmp .lt off, 3)) (ht : (pc : Int) + off = (tgt : Int)) (q : x < y) (K : X T Y d CM SM P (tgt) lv (st) g I R L) : X T Y d CM SM P (pc) lv (.int y :: .int x :: st) g I R L := x_icmp_lt hd ht (fun _ => K) (fun h => absurd q h)
theorem x_icmp_lt_f {x y : Int32} {off : Int} {tgt : Nat} (hd : decode Y.2.1 pc = .ok (.if_icmp .lt off, 3)) (ht : (pc : Int) + off = (tgt : Int)) (q : ¬ x < y) (K : X T Y d CM SM P (pc + 3) lv (st) g I R L) : X T Y d CM SM P (pc) lv (.int y :: .int x :: st) g I R L := x_icmp_lt hd ht (fun h => absurd h q) (fun _ => K)
theorem x_if_ge {x : Int32} {off : Int} {tgt : Nat} (hd : decode Y.2.1 pc = .ok (.ifCond .ge off, 3)) (ht : (pc : Int) + off = (tgt : Int)) (K1 : 0 ≤ x → X T Y d CM SM P (tgt) lv (st) g I R L) (K2 : ¬ 0 ≤ x → X T Y d CM SM P (pc + 3) lv (st) g I R L) : X T Y d CM SM P (pc) lv (.int x :: st) g I R L := by
  intro p l e Rm s m args below meth c Q dC dI dA ad adV A H locs ls C hl hr hx
  exact lv_if_ge C.1 C.2.1 hd ht (fun q => K1 q p l e Rm s m args below meth c Q dC dI dA ad adV A H locs ls C hl hr hx) (fun q => K2 q p l e Rm s m args below meth c Q dC dI dA ad adV A H locs ls C hl hr hx)
theorem x_if_ge_t {x : Int32} {off : Int} {tgt : Nat} (hd : decode Y.2.1 pc = .ok (.ifCond .ge off, 3)) (ht : (pc : Int) + off = (tgt : Int)) (q : 0 ≤ x) (K : X T Y d CM SM P (tgt) lv (st) g I R L) : X T Y d CM SM P (pc) lv (.int x :: st) g I R L := x_if_ge hd ht (fun _ => K) (fun h => absurd q h)
theorem x_if_ge_f {x : Int32} {off : Int} {tgt : Nat} (hd : decode Y.2.1 pc = .ok (.ifCond .ge off, 3)) (ht : (pc : Int) + off = (tgt : Int)) (q : ¬ 0 ≤ x) (K : X T Y d CM SM P (pc + 3) lv (st) g I R L) : X T Y d CM SM P (pc) lv (.int x :: st) g I R L := x_if_ge hd ht (fun h => absurd h q) (fun _ => K)
theorem x_icmp_ge {x y : Int32} {off : Int} {tgt : Nat} (hd : decode Y.2.1 pc = .ok (.if_icmp .ge off, 3)) (ht : (pc : Int) + off = (tgt : Int)) (K1 : y ≤ x → X T Y d CM SM P (tgt) lv (st) g I R L) (K2 : ¬ y ≤ x → X T Y d CM SM P (pc + 3) lv (st) g I R L) : X T Y d CM SM P (pc) lv (.int y :: .int x :: st) g I R L := by
  intro p l e Rm s m args below meth c Q dC dI dA ad adV A H locs ls C hl hr hx
  exact lv_icmp_ge C.1 C.2.1 hd ht (fun q => K1 q p l e Rm s m args below meth c Q dC dI dA ad adV A H locs ls C hl hr hx) (fun q => K2 q p l e Rm s m args below meth c Q dC dI dA ad adV A H locs ls C hl hr hx)
theorem x_icmp_ge_t {x y : Int32} {off : Int} {tgt : Nat} (hd : decode Y.2.1 pc = .ok (.if_icmp .ge off, 3)) (ht : (pc : Int) + off = (tgt : Int)) (q : y ≤ x) (K : X T Y d CM SM P (tgt) lv (st) g I R L) : X T Y d CM SM P (pc) lv (.int y :: .int x :: st) g I R L := x_icmp_ge hd ht (fun _ => K) (fun h => absurd q h)
theorem x_icmp_ge_f {x y : Int32} {off : Int} {tgt : Nat} (hd : decode Y.2.1 pc = .ok (.if_icmp .ge off, 3)) (ht : (pc : Int) + off = (tgt : Int)) (q : ¬ y ≤ x) (K : X T Y d CM SM P (pc + 3) lv (st) g I R L) : X T Y d CM SM P (pc) lv (.int y :: .int x :: st) g I R L := x_icmp_ge hd ht (fun h => absurd h q) (fun _ => K)
theorem x_if_gt {x : Int32} {off : Int} {tgt : Nat} (hd : decode Y.2.1 pc = .ok (.ifCond .gt off, 3)) (ht : (pc : Int) + off = (tgt : Int)) (K1 : 0 < x → X T Y d CM SM P (tgt) lv (st) g I R L) (K2 : ¬ 0 < x → X T Y d CM SM P (pc + 3) lv (st) g I R L) : X T Y d CM SM P (pc) lv (.int x :: st) g I R L := by
  intro p l e Rm s m args below meth c Q dC dI dA ad adV A H locs ls C hl hr hx
  exact lv_if_gt C.1 C.2.1 hd ht (fun q => K1 q p l e Rm s m args below meth c Q dC dI dA ad adV A H locs ls C hl hr hx) (fun q => K2 q p l e Rm s m args below meth c Q dC dI dA ad adV A H locs ls C hl hr hx)
theorem x_if_gt_t {x : Int32} {off : Int} {tgt : Nat} (hd : decode Y.2.1 pc = .ok (.ifCond .gt off, 3)) (ht : (pc : Int) + off = (tgt : Int)) (q : 0 < x) (K : X T Y d CM SM P (tgt) lv (st) g I R L) : X T Y d CM SM P (pc) lv (.int x :: st) g I R L := x_if_gt hd ht (fun _ => K) (fun h => absurd q h)
theorem x_if_gt_f {x : Int32} {off : Int} {tgt : Nat} (hd : decode Y.2.1 pc = .ok (.ifCond .gt off, 3)) (ht : (pc : Int) + off = (tgt : Int)) (q : ¬ 0 < x) (K : X T Y d CM SM P (pc + 3) lv (st) g I R L) : X T Y d CM SM P (pc) lv (.int x :: st) g I R L := x_if_gt hd ht (fun h => absurd h q) (fun _ => K)
theorem x_icmp_gt {x y : Int32} {off : Int} {tgt : Nat} (hd : decode Y.2.1 pc = .ok (.if_icmp .gt off, 3)) (ht : (pc : Int) + off = (tgt : Int)) (K1 : y < x → X T Y d CM SM P (tgt) lv (st) g I R L) (K2 : ¬ y < x → X T Y d CM SM P (pc + 3) lv (st) g I R L) : X T Y d CM SM P (pc) lv (.int y :: .int x :: st) g I R L := by
  intro p l e Rm s m args below meth c Q dC dI dA ad adV A H locs ls C hl hr hx
  exact lv_icmp_gt C.1 C.2.1 hd ht (fun q => K1 q p l e Rm s m args below meth c Q dC dI dA ad adV A H locs ls C hl hr hx) (fun q => K2 q p l e Rm s m args below meth c Q dC dI dA ad adV A H locs ls C hl hr hx)
theorem x_icmp_gt_t {x y : Int32} {off : Int} {tgt : Nat} (hd : decode Y.2.1 pc = .ok (.if_icmp .gt off, 3)) (ht : (pc : Int) + off = (tgt : Int)) (q : y < x) (K : X T Y d CM SM P (tgt) lv (st) g I R L) : X T Y d CM SM P (pc) lv (.int y :: .int x :: st) g I R L := x_icmp_gt hd ht (fun _ => K) (fun h => absurd q h)
theorem x_icmp_gt_f {x y : Int32} {off : Int} {tgt : Nat} (hd : decode Y.2.1 pc = .ok (.if_icmp .gt off, 3)) (ht : (pc : Int) + off = (tgt : Int)) (q : ¬ y < x) (K : X T Y d CM SM P (pc + 3) lv (st) g I R L) : X T Y d CM SM P (pc) lv (.int y :: .int x :: st) g I R L := x_icmp_gt hd ht (fun h => absurd h q) (fun _ => K)
theorem x_if_le {x : Int32} {off : Int} {tgt : Nat} (hd : decode Y.2.1 pc = .ok (.ifCond .le off, 3)) (ht : (pc : Int) + off = (tgt : Int)) (K1 : x ≤ 0 → X T Y d CM SM P (tgt) lv (st) g I R L) (K2 : ¬ x ≤ 0 → X T Y d CM SM P (pc + 3) lv (st) g I R L) : X T Y d CM SM P (pc) lv (.int x :: st) g I R L := by
  intro p l e Rm s m args below meth c Q dC dI dA ad adV A H locs ls C hl hr hx
  exact lv_if_le C.1 C.2.1 hd ht (fun q => K1 q p l e Rm s m args below meth c Q dC dI dA ad adV A H locs ls C hl hr hx) (fun q => K2 q p l e Rm s m args below meth c Q dC dI dA ad adV A H locs ls C hl hr hx)
theorem x_if_le_t {x : Int32} {off : Int} {tgt : Nat} (hd : decode Y.2.1 pc = .ok (.ifCond .le off, 3)) (ht : (pc : Int) + off = (tgt : Int)) (q : x ≤ 0) (K : X T Y d CM SM P (tgt) lv (st) g I R L) : X T Y d CM SM P (pc) lv (.int x :: st) g I R L := x_if_le hd ht (fun _ => K) (fun h => absurd q h)
theorem x_if_le_f {x : Int32} {off : Int} {tgt : Nat} (hd : decode Y.2.1 pc = .ok (.ifCond .le off, 3)) (ht : (pc : Int) + off = (tgt : Int)) (q : ¬ x ≤ 0) (K : X T Y d CM SM P (pc + 3) lv (st) g I R L) : X T Y d CM SM P (pc) lv (.int x :: st) g I R L := x_if_le hd ht (fun h => absurd h q) (fun _ => K)
theorem x_icmp_le {x y : Int32} {off : Int} {tgt : Nat} (hd : decode Y.2.1 pc = .ok (.if_icmp .le off, 3)) (ht : (pc : Int) + off = (tgt : Int)) (K1 : x ≤ y → X T Y d CM SM P (tgt) lv (st) g I R L) (K2 : ¬ x ≤ y → X T Y d CM SM P (pc + 3) lv (st) g I R L) : X T Y d CM SM P (pc) lv (.int y :: .int x :: st) g I R L := by
  intro p l e Rm s m args below meth c Q dC dI dA ad adV A H locs ls C hl hr hx
  exact lv_icmp_le C.1 C.2.1 hd ht (fun q => K1 q p l e Rm s m args below meth c Q dC dI dA ad adV A H locs ls C hl hr hx) (fun q => K2 q p l e Rm s m args below meth c Q dC dI dA ad adV A H locs ls C hl hr hx)
theorem x_icmp_le_t {x y : Int32} {off : Int} {tgt : Nat} (hd : decode Y.2.1 pc = .ok (.if_icmp .le off, 3)) (ht : (pc : Int) + off = (tgt : Int)) (q : x ≤ y) (K : X T Y d CM SM P (tgt) lv (st) g I R L) : X T Y d CM SM P (pc) lv (.int y :: .int x :: st) g I R L := x_icmp_le hd ht (fun _ => K) (fun h => absurd q h)
theorem x_icmp_le_f {x y : Int32} {off : Int} {tgt : Nat} (hd : decode Y.2.1 pc = .ok (.if_icmp .le off, 3)) (ht : (pc : Int) + off = (tgt : Int)) (q : ¬ x ≤ y) (K : X T Y d CM SM P (pc + 3) lv (st) g I R L) : X T Y d CM SM P (pc) lv (.int y :: .int x :: st) g I R L := x_icmp_le hd ht (fun h => absurd h q) (fun _ => K)
theorem x_goto {off : Int} {tgt : Nat} (hd : decode Y.2.1 pc = .ok (.goto off, 3)) (ht : (pc : Int) + off = (tgt : Int)) (K : X T Y d CM SM P (tgt) lv (st) g I R L) : X T Y d CM SM P (pc) lv (st) g I R L := by
  intro p l e Rm s m args below meth c Q dC dI dA ad adV A H locs ls C hl hr hx
  exact lv_goto C.1 C.2.1 hd ht (K p l e Rm s m args below meth c Q dC dI dA ad adV A H locs ls C hl hr hx)
theorem x_ifnull {off : Int} {x : Nat} (hd : decode Y.2.1 pc = .ok (.ifnull off, 3)) (K : X T Y d CM SM P (pc + 3) lv (st) g I R L) : X T Y d CM SM P (pc) lv (.ref x :: st) g I R L := by
  intro p l e Rm s m args below meth c Q dC dI dA ad adV A H locs ls C hl hr hx
  exact lv_ifnull C.1 C.2.1 hd (K p l e Rm s m args below meth c Q dC dI dA ad adV A H locs ls C hl hr hx)
theorem x_ifnullN {off : Int} {tgt : Nat} (hd : decode Y.2.1 pc = .ok (.ifnull off, 3)) (ht : (pc : Int) + off = (tgt : Int)) (K : X T Y d CM SM P (tgt) lv (st) g I R L) : X T Y d CM SM P (pc) lv (.null :: st) g I R L := by
  intro p l e Rm s m args below meth c Q dC dI dA ad adV A H locs ls C hl hr hx
  exact lv_ifnullN C.1 C.2.1 hd ht (K p l e Rm s m args below meth c Q dC dI dA ad adV A H locs ls C hl hr hx)
theorem x_ifnonnullN {off : Int} (hd : decode Y.2.1 pc = .ok (.ifnonnull off, 3)) (K : X T Y d CM SM P (pc + 3) lv (st) g I R L) : X T Y d CM SM P (pc) lv (.null :: st) g I R L := by
  intro p l e Rm s m args below meth c Q dC dI dA ad adV A H locs ls C hl hr hx
  exact lv_ifnonnullN C.1 C.2.1 hd (K p l e Rm s m args below meth c Q dC dI dA ad adV A H locs ls C hl hr hx)
theorem x_ifnonnull {off : Int} {x tgt : Nat} (hd : decode Y.2.1 pc = .ok (.ifnonnull off, 3)) (ht : (pc : Int) + off = (tgt : Int)) (K : X T Y d CM SM P (tgt) lv (st) g I R L) : X T Y d CM SM P (pc) lv (.ref x :: st) g I R L := by
  intro p l e Rm s m args below meth c Q dC dI dA ad adV A H locs ls C hl hr hx
  exact lv_ifnonnull C.1 C.2.1 hd ht (K p l e Rm s m args below meth c Q dC dI dA ad adV A H locs ls C hl hr hx)
theorem x_topi {x : Int32} (K : ∀ y : Int32, y = x → X T Y d CM SM P (pc) lv (.int y :: st) g I R L) : X T Y d CM SM P (pc) lv (.int x :: st) g I R L := K x rfl
theorem x_topl {x : Int64} (K : ∀ y : Int64, y = x → X T Y d CM SM P (pc) lv (.long y :: st) g I R L) : X T Y d CM SM P (pc) lv (.long x :: st) g I R L := K x rfl
end XROWS
