section SLR
variable {Y : sl_Y} {X : Option (Nat × (Nat → Int32))} {d kc ks : Nat} {Q : Option Value → sl_M → Prop} {pc q : Nat} {lv : List (Option Value)} {st : List Value} {M : sl_M}
theorem slv_iconst {n : Int} {v : Int32} (h : sl_D Y pc (.iconst n) 1 q) (hv : Int32.ofInt n = v)     (kk : sl_V Y X d kc ks Q q lv (.int v :: st) M) : sl_V Y X d kc ks Q pc lv (st) M := by
  obtain ⟨h, rfl⟩ := h
  intro p l e R s m args below meth c H locs cells slots mc ms D dA ad ad0 n n0 A d0 ls C
  exact lv_iconst C.1.1 C.1.2.1 h hv (kk p l e R s m args below meth c H locs cells slots mc ms D dA ad ad0 n n0 A d0 ls C)
theorem slv_bipush {n : Int} {v : Int32} (h : sl_D Y pc (.bipush n) 2 q) (hv : (Int8.ofInt n).toInt32 = v)     (kk : sl_V Y X d kc ks Q q lv (.int v :: st) M) : sl_V Y X d kc ks Q pc lv (st) M := by
  obtain ⟨h, rfl⟩ := h
  intro p l e R s m args below meth c H locs cells slots mc ms D dA ad ad0 n n0 A d0 ls C
  exact lv_bipush C.1.1 C.1.2.1 h hv (kk p l e R s m args below meth c H locs cells slots mc ms D dA ad ad0 n n0 A d0 ls C)
theorem slv_sipush {n : Int} {v : Int32} (h : sl_D Y pc (.sipush n) 3 q) (hv : (Int16.ofInt n).toInt32 = v)     (kk : sl_V Y X d kc ks Q q lv (.int v :: st) M) : sl_V Y X d kc ks Q pc lv (st) M := by
  obtain ⟨h, rfl⟩ := h
  intro p l e R s m args below meth c H locs cells slots mc ms D dA ad ad0 n n0 A d0 ls C
  exact lv_sipush C.1.1 C.1.2.1 h hv (kk p l e R s m args below meth c H locs cells slots mc ms D dA ad ad0 n n0 A d0 ls C)
theorem slv_lconst {n : Fin 2} {v : Int64} (h : sl_D Y pc (.lconst n) 1 q) (hv : Int64.ofNat (n : Nat) = v)     (kk : sl_V Y X d kc ks Q q lv (.long v :: st) M) : sl_V Y X d kc ks Q pc lv (st) M := by
  obtain ⟨h, rfl⟩ := h
  intro p l e R s m args below meth c H locs cells slots mc ms D dA ad ad0 n n0 A d0 ls C
  exact lv_lconst C.1.1 C.1.2.1 h hv (kk p l e R s m args below meth c H locs cells slots mc ms D dA ad ad0 n n0 A d0 ls C)
theorem slv_iadd {x y : Int32} (h : sl_D Y pc (.iadd) 1 q) (kk : sl_V Y X d kc ks Q q lv (.int (x + y) :: st) M) : sl_V Y X d kc ks Q pc lv (.int y :: .int x :: st) M := by
  obtain ⟨h, rfl⟩ := h
  intro p l e R s m args below meth c H locs cells slots mc ms D dA ad ad0 n n0 A d0 ls C
  exact lv_iadd C.1.1 C.1.2.1 h (kk p l e R s m args below meth c H locs cells slots mc ms D dA ad ad0 n n0 A d0 ls C)
theorem slv_isub {x y : Int32} (h : sl_D Y pc (.isub) 1 q) (kk : sl_V Y X d kc ks Q q lv (.int (x - y) :: st) M) : sl_V Y X d kc ks Q pc lv (.int y :: .int x :: st) M := by
  obtain ⟨h, rfl⟩ := h
  intro p l e R s m args below meth c H locs cells slots mc ms D dA ad ad0 n n0 A d0 ls C
  exact lv_isub C.1.1 C.1.2.1 h (kk p l e R s m args below meth c H locs cells slots mc ms D dA ad ad0 n n0 A d0 ls C)
theorem slv_imul {x y : Int32} (h : sl_D Y pc (.imul) 1 q) (kk : sl_V Y X d kc ks Q q lv (.int (x * y) :: st) M) : sl_V Y X d kc ks Q pc lv (.int y :: .int x :: st) M := by
  obtain ⟨h, rfl⟩ := h
  intro p l e R s m args below meth c H locs cells slots mc ms D dA ad ad0 n n0 A d0 ls C
  exact lv_imul C.1.1 C.1.2.1 h (kk p l e R s m args below meth c H locs cells slots mc ms D dA ad ad0 n n0 A d0 ls C)
theorem slv_iand {x y : Int32} (h : sl_D Y pc (.iand) 1 q) (kk : sl_V Y X d kc ks Q q lv (.int (x &&& y) :: st) M) : sl_V Y X d kc ks Q pc lv (.int y :: .int x :: st) M := by
  obtain ⟨h, rfl⟩ := h
  intro p l e R s m args below meth c H locs cells slots mc ms D dA ad ad0 n n0 A d0 ls C
  exact lv_iand C.1.1 C.1.2.1 h (kk p l e R s m args below meth c H locs cells slots mc ms D dA ad ad0 n n0 A d0 ls C)
theorem slv_ior {x y : Int32} (h : sl_D Y pc (.ior) 1 q) (kk : sl_V Y X d kc ks Q q lv (.int (x ||| y) :: st) M) : sl_V Y X d kc ks Q pc lv (.int y :: .int x :: st) M := by
  obtain ⟨h, rfl⟩ := h
  intro p l e R s m args below meth c H locs cells slots mc ms D dA ad ad0 n n0 A d0 ls C
  exact lv_ior C.1.1 C.1.2.1 h (kk p l e R s m args below meth c H locs cells slots mc ms D dA ad ad0 n n0 A d0 ls C)
theorem slv_ixor {x y : Int32} (h : sl_D Y pc (.ixor) 1 q) (kk : sl_V Y X d kc ks Q q lv (.int (x ^^^ y) :: st) M) : sl_V Y X d kc ks Q pc lv (.int y :: .int x :: st) M := by
  obtain ⟨h, rfl⟩ := h
  intro p l e R s m args below meth c H locs cells slots mc ms D dA ad ad0 n n0 A d0 ls C
  exact lv_ixor C.1.1 C.1.2.1 h (kk p l e R s m args below meth c H locs cells slots mc ms D dA ad ad0 n n0 A d0 ls C)
theorem slv_idiv {x y : Int32} (h : sl_D Y pc (.idiv) 1 q) (hne : ¬ y = 0)     (kk : sl_V Y X d kc ks Q q lv (.int (x / y) :: st) M) : sl_V Y X d kc ks Q pc lv (.int y :: .int x :: st) M := by
  obtain ⟨h, rfl⟩ := h
  intro p l e R s m args below meth c H locs cells slots mc ms D dA ad ad0 n n0 A d0 ls C
  exact lv_idiv C.1.1 C.1.2.1 h hne (kk p l e R s m args below meth c H locs cells slots mc ms D dA ad ad0 n n0 A d0 ls C)
theorem slv_irem {x y : Int32} (h : sl_D Y pc (.irem) 1 q) (hne : ¬ y = 0)     (kk : sl_V Y X d kc ks Q q lv (.int (x - x / y * y) :: st) M) : sl_V Y X d kc ks Q pc lv (.int y :: .int x :: st) M := by
  obtain ⟨h, rfl⟩ := h
  intro p l e R s m args below meth c H locs cells slots mc ms D dA ad ad0 n n0 A d0 ls C
  exact lv_irem C.1.1 C.1.2.1 h hne (kk p l e R s m args below meth c H locs cells slots mc ms D dA ad ad0 n n0 A d0 ls C)
theorem slv_ineg {x : Int32} (h : sl_D Y pc (.ineg) 1 q) (kk : sl_V Y X d kc ks Q q lv (.int (-x) :: st) M) : sl_V Y X d kc ks Q pc lv (.int x :: st) M := by
  obtain ⟨h, rfl⟩ := h
  intro p l e R s m args below meth c H locs cells slots mc ms D dA ad ad0 n n0 A d0 ls C
  exact lv_ineg C.1.1 C.1.2.1 h (kk p l e R s m args below meth c H locs cells slots mc ms D dA ad ad0 n n0 A d0 ls C)
theorem slv_ladd {x y : Int64} (h : sl_D Y pc (.ladd) 1 q) (kk : sl_V Y X d kc ks Q q lv (.long (x + y) :: st) M) : sl_V Y X d kc ks Q pc lv (.long y :: .long x :: st) M := by
  obtain ⟨h, rfl⟩ := h
  intro p l e R s m args below meth c H locs cells slots mc ms D dA ad ad0 n n0 A d0 ls C
  exact lv_ladd C.1.1 C.1.2.1 h (kk p l e R s m args below meth c H locs cells slots mc ms D dA ad ad0 n n0 A d0 ls C)
theorem slv_lsub {x y : Int64} (h : sl_D Y pc (.lsub) 1 q) (kk : sl_V Y X d kc ks Q q lv (.long (x - y) :: st) M) : sl_V Y X d kc ks Q pc lv (.long y :: .long x :: st) M := by
  obtain ⟨h, rfl⟩ := h
  intro p l e R s m args below meth c H locs cells slots mc ms D dA ad ad0 n n0 A d0 ls C
  exact lv_lsub C.1.1 C.1.2.1 h (kk p l e R s m args below meth c H locs cells slots mc ms D dA ad ad0 n n0 A d0 ls C)
theorem slv_land {x y : Int64} (h : sl_D Y pc (.land) 1 q) (kk : sl_V Y X d kc ks Q q lv (.long (x &&& y) :: st) M) : sl_V Y X d kc ks Q pc lv (.long y :: .long x :: st) M := by
  obtain ⟨h, rfl⟩ := h
  intro p l e R s m args below meth c H locs cells slots mc ms D dA ad ad0 n n0 A d0 ls C
  exact lv_land C.1.1 C.1.2.1 h (kk p l e R s m args below meth c H locs cells slots mc ms D dA ad ad0 n n0 A d0 ls C)
theorem slv_lor {x y : Int64} (h : sl_D Y pc (.lor) 1 q) (kk : sl_V Y X d kc ks Q q lv (.long (x ||| y) :: st) M) : sl_V Y X d kc ks Q pc lv (.long y :: .long x :: st) M := by
  obtain ⟨h, rfl⟩ := h
  intro p l e R s m args below meth c H locs cells slots mc ms D dA ad ad0 n n0 A d0 ls C
  exact lv_lor C.1.1 C.1.2.1 h (kk p l e R s m args below meth c H locs cells slots mc ms D dA ad ad0 n n0 A d0 ls C)
theorem slv_lxor {x y : Int64} (h : sl_D Y pc (.lxor) 1 q) (kk : sl_V Y X d kc ks Q q lv (.long (x ^^^ y) :: st) M) : sl_V Y X d kc ks Q pc lv (.long y :: .long x :: st) M := by
  obtain ⟨h, rfl⟩ := h
  intro p l e R s m args below meth c H locs cells slots mc ms D dA ad ad0 n n0 A d0 ls C
  exact lv_lxor C.1.1 C.1.2.1 h (kk p l e R s m args below meth c H locs cells slots mc ms D dA ad ad0 n n0 A d0 ls C)
theorem slv_ishl {x y : Int32} (h : sl_D Y pc (.ishl) 1 q) (kk : sl_V Y X d kc ks Q q lv (.int (x <<< (y &&& 31)) :: st) M) : sl_V Y X d kc ks Q pc lv (.int y :: .int x :: st) M := by
  obtain ⟨h, rfl⟩ := h
  intro p l e R s m args below meth c H locs cells slots mc ms D dA ad ad0 n n0 A d0 ls C
  exact lv_ishl C.1.1 C.1.2.1 h (kk p l e R s m args below meth c H locs cells slots mc ms D dA ad ad0 n n0 A d0 ls C)
theorem slv_ishr {x y : Int32} (h : sl_D Y pc (.ishr) 1 q) (kk : sl_V Y X d kc ks Q q lv (.int (x >>> (y &&& 31)) :: st) M) : sl_V Y X d kc ks Q pc lv (.int y :: .int x :: st) M := by
  obtain ⟨h, rfl⟩ := h
  intro p l e R s m args below meth c H locs cells slots mc ms D dA ad ad0 n n0 A d0 ls C
  exact lv_ishr C.1.1 C.1.2.1 h (kk p l e R s m args below meth c H locs cells slots mc ms D dA ad ad0 n n0 A d0 ls C)
theorem slv_i2l {x : Int32} {v : Int64} (h : sl_D Y pc (.i2l) 1 q) (hv : x.toInt64 = v)     (kk : sl_V Y X d kc ks Q q lv (.long v :: st) M) : sl_V Y X d kc ks Q pc lv (.int x :: st) M := by
  obtain ⟨h, rfl⟩ := h
  intro p l e R s m args below meth c H locs cells slots mc ms D dA ad ad0 n n0 A d0 ls C
  exact lv_i2l C.1.1 C.1.2.1 h hv (kk p l e R s m args below meth c H locs cells slots mc ms D dA ad ad0 n n0 A d0 ls C)
theorem slv_l2i {x : Int64} {v : Int32} (h : sl_D Y pc (.l2i) 1 q) (hv : x.toInt32 = v)     (kk : sl_V Y X d kc ks Q q lv (.int v :: st) M) : sl_V Y X d kc ks Q pc lv (.long x :: st) M := by
  obtain ⟨h, rfl⟩ := h
  intro p l e R s m args below meth c H locs cells slots mc ms D dA ad ad0 n n0 A d0 ls C
  exact lv_l2i C.1.1 C.1.2.1 h hv (kk p l e R s m args below meth c H locs cells slots mc ms D dA ad ad0 n n0 A d0 ls C)
theorem slv_i2b {x : Int32} {v : Int32} (h : sl_D Y pc (.i2b) 1 q) (hv : x.toInt8.toInt32 = v)     (kk : sl_V Y X d kc ks Q q lv (.int v :: st) M) : sl_V Y X d kc ks Q pc lv (.int x :: st) M := by
  obtain ⟨h, rfl⟩ := h
  intro p l e R s m args below meth c H locs cells slots mc ms D dA ad ad0 n n0 A d0 ls C
  exact lv_i2b C.1.1 C.1.2.1 h hv (kk p l e R s m args below meth c H locs cells slots mc ms D dA ad ad0 n n0 A d0 ls C)
theorem slv_i2c {x : Int32} {v : Int32} (h : sl_D Y pc (.i2c) 1 q) (hv : (x.toUInt32 % 65536).toInt32 = v)     (kk : sl_V Y X d kc ks Q q lv (.int v :: st) M) : sl_V Y X d kc ks Q pc lv (.int x :: st) M := by
  obtain ⟨h, rfl⟩ := h
  intro p l e R s m args below meth c H locs cells slots mc ms D dA ad ad0 n n0 A d0 ls C
  exact lv_i2c C.1.1 C.1.2.1 h hv (kk p l e R s m args below meth c H locs cells slots mc ms D dA ad ad0 n n0 A d0 ls C)
theorem slv_iushr {x y v : Int32} (h : sl_D Y pc (.iushr) 1 q) (hv : (x.toUInt32 >>> (y.toUInt32 &&& Int32.toUInt32 31)).toInt32 = v)     (kk : sl_V Y X d kc ks Q q lv (.int v :: st) M) : sl_V Y X d kc ks Q pc lv (.int y :: .int x :: st) M := by
  obtain ⟨h, rfl⟩ := h
  intro p l e R s m args below meth c H locs cells slots mc ms D dA ad ad0 n n0 A d0 ls C
  exact lv_iushr C.1.1 C.1.2.1 h hv (kk p l e R s m args below meth c H locs cells slots mc ms D dA ad ad0 n n0 A d0 ls C)
theorem slv_lshl {x v : Int64} {y : Int32} (h : sl_D Y pc (.lshl) 1 q) (hv : x <<< (y.toInt64 &&& 63) = v)     (kk : sl_V Y X d kc ks Q q lv (.long v :: st) M) : sl_V Y X d kc ks Q pc lv (.int y :: .long x :: st) M := by
  obtain ⟨h, rfl⟩ := h
  intro p l e R s m args below meth c H locs cells slots mc ms D dA ad ad0 n n0 A d0 ls C
  exact lv_lshl C.1.1 C.1.2.1 h hv (kk p l e R s m args below meth c H locs cells slots mc ms D dA ad ad0 n n0 A d0 ls C)
theorem slv_fconst0 (h : sl_D Y pc (.fconst 0) 1 q) (kk : sl_V Y X d kc ks Q q lv (.float FP.fconst0 :: st) M) : sl_V Y X d kc ks Q pc lv (st) M := by
  obtain ⟨h, rfl⟩ := h
  intro p l e R s m args below meth c H locs cells slots mc ms D dA ad ad0 n n0 A d0 ls C
  exact lv_fconst0 C.1.1 C.1.2.1 h (kk p l e R s m args below meth c H locs cells slots mc ms D dA ad ad0 n n0 A d0 ls C)
theorem slv_fconst1 (h : sl_D Y pc (.fconst 1) 1 q) (kk : sl_V Y X d kc ks Q q lv (.float FP.fconst1 :: st) M) : sl_V Y X d kc ks Q pc lv (st) M := by
  obtain ⟨h, rfl⟩ := h
  intro p l e R s m args below meth c H locs cells slots mc ms D dA ad ad0 n n0 A d0 ls C
  exact lv_fconst1 C.1.1 C.1.2.1 h (kk p l e R s m args below meth c H locs cells slots mc ms D dA ad ad0 n n0 A d0 ls C)
theorem slv_fconst2 (h : sl_D Y pc (.fconst 2) 1 q) (kk : sl_V Y X d kc ks Q q lv (.float FP.fconst2 :: st) M) : sl_V Y X d kc ks Q pc lv (st) M := by
  obtain ⟨h, rfl⟩ := h
  intro p l e R s m args below meth c H locs cells slots mc ms D dA ad ad0 n n0 A d0 ls C
  exact lv_fconst2 C.1.1 C.1.2.1 h (kk p l e R s m args below meth c H locs cells slots mc ms D dA ad ad0 n n0 A d0 ls C)
theorem slv_dconst0 (h : sl_D Y pc (.dconst 0) 1 q) (kk : sl_V Y X d kc ks Q q lv (.double FP.dconst0 :: st) M) : sl_V Y X d kc ks Q pc lv (st) M := by
  obtain ⟨h, rfl⟩ := h
  intro p l e R s m args below meth c H locs cells slots mc ms D dA ad ad0 n n0 A d0 ls C
  exact lv_dconst0 C.1.1 C.1.2.1 h (kk p l e R s m args below meth c H locs cells slots mc ms D dA ad ad0 n n0 A d0 ls C)
theorem slv_dconst1 (h : sl_D Y pc (.dconst 1) 1 q) (kk : sl_V Y X d kc ks Q q lv (.double FP.dconst1 :: st) M) : sl_V Y X d kc ks Q pc lv (st) M := by
  obtain ⟨h, rfl⟩ := h
  intro p l e R s m args below meth c H locs cells slots mc ms D dA ad ad0 n n0 A d0 ls C
  exact lv_dconst1 C.1.1 C.1.2.1 h (kk p l e R s m args below meth c H locs cells slots mc ms D dA ad ad0 n n0 A d0 ls C)
theorem slv_fneg {x : UInt32} (h : sl_D Y pc (.fneg) 1 q) (kk : sl_V Y X d kc ks Q q lv (.float (FP.fneg x) :: st) M) : sl_V Y X d kc ks Q pc lv (.float x :: st) M := by
  obtain ⟨h, rfl⟩ := h
  intro p l e R s m args below meth c H locs cells slots mc ms D dA ad ad0 n n0 A d0 ls C
  exact lv_fneg C.1.1 C.1.2.1 h (kk p l e R s m args below meth c H locs cells slots mc ms D dA ad ad0 n n0 A d0 ls C)
theorem slv_fcmp {x y : UInt32} {op : CmpOp} (h : sl_D Y pc (.fcmp op) 1 q) (kk : sl_V Y X d kc ks Q q lv (.int (Op.cmpValue (FP.fcmp x y) op) :: st) M) : sl_V Y X d kc ks Q pc lv (.float y :: .float x :: st) M := by
  obtain ⟨h, rfl⟩ := h
  intro p l e R s m args below meth c H locs cells slots mc ms D dA ad ad0 n n0 A d0 ls C
  exact lv_fcmp C.1.1 C.1.2.1 h (kk p l e R s m args below meth c H locs cells slots mc ms D dA ad ad0 n n0 A d0 ls C)
theorem slv_i2f {x : Int32} (h : sl_D Y pc (.i2f) 1 q) (kk : sl_V Y X d kc ks Q q lv (.float (FP.i2f x) :: st) M) : sl_V Y X d kc ks Q pc lv (.int x :: st) M := by
  obtain ⟨h, rfl⟩ := h
  intro p l e R s m args below meth c H locs cells slots mc ms D dA ad ad0 n n0 A d0 ls C
  exact lv_i2f C.1.1 C.1.2.1 h (kk p l e R s m args below meth c H locs cells slots mc ms D dA ad ad0 n n0 A d0 ls C)
theorem slv_f2i {x : UInt32} (h : sl_D Y pc (.f2i) 1 q) (kk : sl_V Y X d kc ks Q q lv (.int (FP.f2i x) :: st) M) : sl_V Y X d kc ks Q pc lv (.float x :: st) M := by
  obtain ⟨h, rfl⟩ := h
  intro p l e R s m args below meth c H locs cells slots mc ms D dA ad ad0 n n0 A d0 ls C
  exact lv_f2i C.1.1 C.1.2.1 h (kk p l e R s m args below meth c H locs cells slots mc ms D dA ad ad0 n n0 A d0 ls C)
theorem slv_dcmp {x y : UInt64} {op : CmpOp} (h : sl_D Y pc (.dcmp op) 1 q) (kk : sl_V Y X d kc ks Q q lv (.int (Op.cmpValue (FP.dcmp x y) op) :: st) M) : sl_V Y X d kc ks Q pc lv (.double y :: .double x :: st) M := by
  obtain ⟨h, rfl⟩ := h
  intro p l e R s m args below meth c H locs cells slots mc ms D dA ad ad0 n n0 A d0 ls C
  exact lv_dcmp C.1.1 C.1.2.1 h (kk p l e R s m args below meth c H locs cells slots mc ms D dA ad ad0 n n0 A d0 ls C)
theorem slv_i2d {x : Int32} (h : sl_D Y pc (.i2d) 1 q) (kk : sl_V Y X d kc ks Q q lv (.double (FP.i2d x) :: st) M) : sl_V Y X d kc ks Q pc lv (.int x :: st) M := by
  obtain ⟨h, rfl⟩ := h
  intro p l e R s m args below meth c H locs cells slots mc ms D dA ad ad0 n n0 A d0 ls C
  exact lv_i2d C.1.1 C.1.2.1 h (kk p l e R s m args below meth c H locs cells slots mc ms D dA ad ad0 n n0 A d0 ls C)
theorem slv_d2i {x : UInt64} (h : sl_D Y pc (.d2i) 1 q) (kk : sl_V Y X d kc ks Q q lv (.int (FP.d2i x) :: st) M) : sl_V Y X d kc ks Q pc lv (.double x :: st) M := by
  obtain ⟨h, rfl⟩ := h
  intro p l e R s m args below meth c H locs cells slots mc ms D dA ad ad0 n n0 A d0 ls C
  exact lv_d2i C.1.1 C.1.2.1 h (kk p l e R s m args below meth c H locs cells slots mc ms D dA ad ad0 n n0 A d0 ls C)
theorem slv_d2l {x : UInt64} (h : sl_D Y pc (.d2l) 1 q) (kk : sl_V Y X d kc ks Q q lv (.long (FP.d2l x) :: st) M) : sl_V Y X d kc ks Q pc lv (.double x :: st) M := by
  obtain ⟨h, rfl⟩ := h
  intro p l e R s m args below meth c H locs cells slots mc ms D dA ad ad0 n n0 A d0 ls C
  exact lv_d2l C.1.1 C.1.2.1 h (kk p l e R s m args below meth c H locs cells slots mc ms D dA ad ad0 n n0 A d0 ls C)
theorem slv_if_eq {x : Int32} {t : Nat} (h : sl_B Y pc (fun o => .ifCond .eq o) q t) (kt : x = 0 → sl_V Y X d kc ks Q t lv st M) (kf : ¬ x = 0 → sl_V Y X d kc ks Q q lv st M) : sl_V Y X d kc ks Q pc lv (.int x :: st) M := by
  obtain ⟨off, h, rfl, ht⟩ := h
  intro p l e R s m args below meth c H locs cells slots mc ms D dA ad ad0 n n0 A d0 ls C
  exact lv_if_eq C.1.1 C.1.2.1 h ht (fun g => kt g p l e R s m args below meth c H locs cells slots mc ms D dA ad ad0 n n0 A d0 ls C) (fun g => kf g p l e R s m args below meth c H locs cells slots mc ms D dA ad ad0 n n0 A d0 ls C)
theorem slv_icmp_eq {x y : Int32} {t : Nat} (h : sl_B Y pc (fun o => .if_icmp .eq o) q t) (kt : x = y → sl_V Y X d kc ks Q t lv st M) (kf : ¬ x = y → sl_V Y X d kc ks Q q lv st M) : sl_V Y X d kc ks Q pc lv (.int y :: .int x :: st) M := by
  obtain ⟨off, h, rfl, ht⟩ := h
  intro p l e R s m args below meth c H locs cells slots mc ms D dA ad ad0 n n0 A d0 ls C
  exact lv_icmp_eq C.1.1 C.1.2.1 h ht (fun g => kt g p l e R s m args below meth c H locs cells slots mc ms D dA ad ad0 n n0 A d0 ls C) (fun g => kf g p l e R s m args below meth c H locs cells slots mc ms D dA ad ad0 n n0 A d0 ls C)
theorem slv_if_ne {x : Int32} {t : Nat} (h : sl_B Y pc (fun o => .ifCond .ne o) q t) (kt : ¬ x = 0 → sl_V Y X d kc ks Q t lv st M) (kf : x = 0 → sl_V Y X d kc ks Q q lv st M) : sl_V Y X d kc ks Q pc lv (.int x :: st) M := by
  obtain ⟨off, h, rfl, ht⟩ := h
  intro p l e R s m args below meth c H locs cells slots mc ms D dA ad ad0 n n0 A d0 ls C
  exact lv_if_ne C.1.1 C.1.2.1 h ht (fun g => kt g p l e R s m args below meth c H locs cells slots mc ms D dA ad ad0 n n0 A d0 ls C) (fun g => kf g p l e R s m args below meth c H locs cells slots mc ms D dA ad ad0 n n0 A d0 ls C)
theorem slv_icmp_ne {x y : Int32} {t : Nat} (h : sl_B Y pc (fun o => .if_icmp .ne o) q t) (kt : ¬ x = y → sl_V Y X d kc ks Q t lv st M) (kf : x = y → sl_V Y X d kc ks Q q lv st M) : sl_V Y X d kc ks Q pc lv (.int y :: .int x :: st) M := by
  obtain ⟨off, h, rfl, ht⟩ := h
  intro p l e R s m args below meth c H locs cells slots mc ms D dA ad ad0 n n0 A d0 ls C
  exact lv_icmp_ne C.1.1 C.1.2.1 h ht (fun g => kt g p l e R s m args below meth c H locs cells slots mc ms D dA ad ad0 n n0 A d0 ls C) (fun g => kf g p l e R s m args below meth c H locs cells slots mc ms D dA ad ad0 n n0 A d0 ls C)
theorem slv_if_lt {x : Int32} {t : Nat} (h : sl_B Y pc (fun o => .ifCond .lt o) q t) (kt : x < 0 → sl_V Y X d kc ks Q t lv st M) (kf : ¬ x < 0 → sl_V Y X d kc ks Q q lv st M) : sl_V Y X d kc ks Q pc lv (.int x :: st) M := by
  obtain ⟨off, h, rfl, ht⟩ := h
  intro p l e R s m args below meth c H locs cells slots mc ms D dA ad ad0 n n0 A d0 ls C
  exact lv_if_lt C.1.1 C.1.2.1 h ht (fun g => kt g p l e R s m args below meth c H locs cells slots mc ms D dA ad ad0 n n0 A d0 ls C) (fun g => kf g p l e R s m args below meth c H locs cells slots mc ms D dA ad ad0 n n0 A d0 ls C)
theorem slv_icmp_lt {x y : Int32} {t : Nat} (h : sl_B Y pc (fun o => .if_icmp .lt o) q t) (kt : x < y → sl_V Y X d kc ks Q t lv st M) (kf : ¬ x < y → sl_V Y X d kc ks Q q lv st M) : sl_V Y X d kc ks Q pc lv (.int y :: .int x :: st) M := by
  obtain ⟨off, h, rfl, ht⟩ := h
  intro p l e R s m args below meth c H locs cells slots mc ms D dA ad ad0 n n0 A d0 ls C
  exact lv_icmp_lt C.1.1 C.1.2.1 h ht (fun g => kt g p l e R s m args below meth c H locs cells slots mc ms D dA ad ad0 n n0 A d0 ls C) (fun g => kf g p l e R s m args below meth c H locs cells slots mc ms D dA ad ad0 n n0 A d0 ls C)
theorem slv_if_ge {x : Int32} {t : Nat} (h : sl_B Y pc (fun o => .ifCond .ge o) q t) (kt : 0 ≤ x → sl_V Y X d kc ks Q t lv st M) (kf : ¬ 0 ≤ x → sl_V Y X d kc ks Q q lv st M) : sl_V Y X d kc ks Q pc lv (.int x :: st) M := by
  obtain ⟨off, h, rfl, ht⟩ := h
  intro p l e R s m args below meth c H locs cells slots mc ms D dA ad ad0 n n0 A d0 ls C
  exact lv_if_ge C.1.1 C.1.2.1 h ht (fun g => kt g p l e R s m args below meth c H locs cells slots mc ms D dA ad ad0 n n0 A d0 ls C) (fun g => kf g p l e R s m args below meth c H locs cells slots mc ms D dA ad ad0 n n0 A d0 ls C)
theorem slv_icmp_ge {x y : Int32} {t : Nat} (h : sl_B Y pc (fun o => .if_icmp .ge o) q t) (kt : y ≤ x → sl_V Y X d kc ks Q t lv st M) (kf : ¬ y ≤ x → sl_V Y X d kc ks Q q lv st M) : sl_V Y X d kc ks Q pc lv (.int y :: .int x :: st) M := by
  obtain ⟨off, h, rfl, ht⟩ := h
  intro p l e R s m args below meth c H locs cells slots mc ms D dA ad ad0 n n0 A d0 ls C
  exact lv_icmp_ge C.1.1 C.1.2.1 h ht (fun g => kt g p l e R s m args below meth c H locs cells slots mc ms D dA ad ad0 n n0 A d0 ls C) (fun g => kf g p l e R s m args below meth c H locs cells slots mc ms D dA ad ad0 n n0 A d0 ls C)
theorem slv_if_gt {x : Int32} {t : Nat} (h : sl_B Y pc (fun o => .ifCond .gt o) q t) (kt : 0 < x → sl_V Y X d kc ks Q t lv st M) (kf : ¬ 0 < x → sl_V Y X d kc ks Q q lv st M) : sl_V Y X d kc ks Q pc lv (.int x :: st) M := by
  obtain ⟨off, h, rfl, ht⟩ := h
  intro p l e R s m args below meth c H locs cells slots mc ms D dA ad ad0 n n0 A d0 ls C
  exact lv_if_gt C.1.1 C.1.2.1 h ht (fun g => kt g p l e R s m args below meth c H locs cells slots mc ms D dA ad ad0 n n0 A d0 ls C) (fun g => kf g p l e R s m args below meth c H locs cells slots mc ms D dA ad ad0 n n0 A d0 ls C)
theorem slv_icmp_gt {x y : Int32} {t : Nat} (h : sl_B Y pc (fun o => .if_icmp .gt o) q t) (kt : y < x → sl_V Y X d kc ks Q t lv st M) (kf : ¬ y < x → sl_V Y X d kc ks Q q lv st M) : sl_V Y X d kc ks Q pc lv (.int y :: .int x :: st) M := by
  obtain ⟨off, h, rfl, ht⟩ := h
  intro p l e R s m args below meth c H locs cells slots mc ms D dA ad ad0 n n0 A d0 ls C
  exact lv_icmp_gt C.1.1 C.1.2.1 h ht (fun g => kt g p l e R s m args below meth c H locs cells slots mc ms D dA ad ad0 n n0 A d0 ls C) (fun g => kf g p l e R s m args below meth c H locs cells slots mc ms D dA ad ad0 n n0 A d0 ls C)
theorem slv_if_le {x : Int32} {t : Nat} (h : sl_B Y pc (fun o => .ifCond .le o) q t) (kt : x ≤ 0 → sl_V Y X d kc ks Q t lv st M) (kf : ¬ x ≤ 0 → sl_V Y X d kc ks Q q lv st M) : sl_V Y X d kc ks Q pc lv (.int x :: st) M := by
  obtain ⟨off, h, rfl, ht⟩ := h
  intro p l e R s m args below meth c H locs cells slots mc ms D dA ad ad0 n n0 A d0 ls C
  exact lv_if_le C.1.1 C.1.2.1 h ht (fun g => kt g p l e R s m args below meth c H locs cells slots mc ms D dA ad ad0 n n0 A d0 ls C) (fun g => kf g p l e R s m args below meth c H locs cells slots mc ms D dA ad ad0 n n0 A d0 ls C)
theorem slv_icmp_le {x y : Int32} {t : Nat} (h : sl_B Y pc (fun o => .if_icmp .le o) q t) (kt : x ≤ y → sl_V Y X d kc ks Q t lv st M) (kf : ¬ x ≤ y → sl_V Y X d kc ks Q q lv st M) : sl_V Y X d kc ks Q pc lv (.int y :: .int x :: st) M := by
  obtain ⟨off, h, rfl, ht⟩ := h
  intro p l e R s m args below meth c H locs cells slots mc ms D dA ad ad0 n n0 A d0 ls C
  exact lv_icmp_le C.1.1 C.1.2.1 h ht (fun g => kt g p l e R s m args below meth c H locs cells slots mc ms D dA ad ad0 n n0 A d0 ls C) (fun g => kf g p l e R s m args below meth c H locs cells slots mc ms D dA ad ad0 n n0 A d0 ls C)
theorem slv_goto {t : Nat} (h : sl_B Y pc (fun o => .goto o) q t) (kk : sl_V Y X d kc ks Q t lv st M) : sl_V Y X d kc ks Q pc lv st M := by
  obtain ⟨off, h, rfl, ht⟩ := h
  intro p l e R s m args below meth c H locs cells slots mc ms D dA ad ad0 n n0 A d0 ls C
  exact lv_goto C.1.1 C.1.2.1 h ht (kk p l e R s m args below meth c H locs cells slots mc ms D dA ad ad0 n n0 A d0 ls C)
theorem slv_lcmp {x y : Int64} (h : sl_D Y pc .lcmp 1 q) (kk : sl_V Y X d kc ks Q q lv (.int (lg_cmp x y) :: st) M) : sl_V Y X d kc ks Q pc lv (.long y :: .long x :: st) M := by
  obtain ⟨h, rfl⟩ := h
  intro p l e R s m args below meth c H locs cells slots mc ms D dA ad ad0 n n0 A d0 ls C
  exact W.lcmp C.1.1 C.1.2.1 h (kk p l e R s m args below meth c H locs cells slots mc ms D dA ad ad0 n n0 A d0 ls C)
theorem slv_dup {va : Value} (h : sl_D Y pc .dup 1 q) (hva : va.category = 1) (kk : sl_V Y X d kc ks Q q lv (va :: va :: st) M) : sl_V Y X d kc ks Q pc lv (va :: st) M := by
  obtain ⟨h, rfl⟩ := h
  intro p l e R s m args below meth c H locs cells slots mc ms D dA ad ad0 n n0 A d0 ls C
  exact lv_dup C.1.1 C.1.2.1 h ((sl_v_cat ad va).trans hva) (kk p l e R s m args below meth c H locs cells slots mc ms D dA ad ad0 n n0 A d0 ls C)
theorem slv_pop {va : Value} (h : sl_D Y pc .pop 1 q) (hva : va.category = 1) (kk : sl_V Y X d kc ks Q q lv st M) : sl_V Y X d kc ks Q pc lv (va :: st) M := by
  obtain ⟨h, rfl⟩ := h
  intro p l e R s m args below meth c H locs cells slots mc ms D dA ad ad0 n n0 A d0 ls C
  exact lv_pop C.1.1 C.1.2.1 h ((sl_v_cat ad va).trans hva) (kk p l e R s m args below meth c H locs cells slots mc ms D dA ad ad0 n n0 A d0 ls C)
theorem slv_dup2 {va vb : Value} (h : sl_D Y pc .dup2 1 q) (hva : va.category = 1) (hvb : vb.category = 1) (kk : sl_V Y X d kc ks Q q lv (va :: vb :: va :: vb :: st) M) : sl_V Y X d kc ks Q pc lv (va :: vb :: st) M := by
  obtain ⟨h, rfl⟩ := h
  intro p l e R s m args below meth c H locs cells slots mc ms D dA ad ad0 n n0 A d0 ls C
  exact lv_dup2_11 C.1.1 C.1.2.1 h ((sl_v_cat ad va).trans hva) ((sl_v_cat ad vb).trans hvb) (kk p l e R s m args below meth c H locs cells slots mc ms D dA ad ad0 n n0 A d0 ls C)
theorem slv_dup_x1 {va vb : Value} (h : sl_D Y pc .dup_x1 1 q) (hva : va.category = 1) (hvb : vb.category = 1) (kk : sl_V Y X d kc ks Q q lv (va :: vb :: va :: st) M) : sl_V Y X d kc ks Q pc lv (va :: vb :: st) M := by
  obtain ⟨h, rfl⟩ := h
  intro p l e R s m args below meth c H locs cells slots mc ms D dA ad ad0 n n0 A d0 ls C
  exact lv_dup_x1 C.1.1 C.1.2.1 h ((sl_v_cat ad va).trans hva) ((sl_v_cat ad vb).trans hvb) (kk p l e R s m args below meth c H locs cells slots mc ms D dA ad ad0 n n0 A d0 ls C)
theorem slv_iload_n {k : Fin 4} {x : Int32} (h : sl_D Y pc (.iload_n k) 1 q) (hv : lv[(k : Nat)]? = some (some (.int x))) (kk : sl_V Y X d kc ks Q q lv (.int x :: st) M) : sl_V Y X d kc ks Q pc lv st M := by
  obtain ⟨h, rfl⟩ := h
  intro p l e R s m args below meth c H locs cells slots mc ms D dA ad ad0 n n0 A d0 ls C
  exact lv_iload_n C.1.1 C.1.2.1 h rfl (C.2.2.2.1.2.2.2 _ _ hv) (kk p l e R s m args below meth c H locs cells slots mc ms D dA ad ad0 n n0 A d0 ls C)
theorem slv_iload {i : Nat} {x : Int32} (h : sl_D Y pc (.iload i) 2 q) (hv : lv[i]? = some (some (.int x))) (kk : sl_V Y X d kc ks Q q lv (.int x :: st) M) : sl_V Y X d kc ks Q pc lv st M := by
  obtain ⟨h, rfl⟩ := h
  intro p l e R s m args below meth c H locs cells slots mc ms D dA ad ad0 n n0 A d0 ls C
  exact lv_iload C.1.1 C.1.2.1 h (C.2.2.2.1.2.2.2 _ _ hv) (kk p l e R s m args below meth c H locs cells slots mc ms D dA ad ad0 n n0 A d0 ls C)
theorem slv_lload_n {k : Fin 4} {x : Int64} (h : sl_D Y pc (.lload_n k) 1 q) (hv : lv[(k : Nat)]? = some (some (.long x))) (kk : sl_V Y X d kc ks Q q lv (.long x :: st) M) : sl_V Y X d kc ks Q pc lv st M := by
  obtain ⟨h, rfl⟩ := h
  intro p l e R s m args below meth c H locs cells slots mc ms D dA ad ad0 n n0 A d0 ls C
  exact lv_lload_n C.1.1 C.1.2.1 h rfl (C.2.2.2.1.2.2.2 _ _ hv) (kk p l e R s m args below meth c H locs cells slots mc ms D dA ad ad0 n n0 A d0 ls C)
theorem slv_lload {i : Nat} {x : Int64} (h : sl_D Y pc (.lload i) 2 q) (hv : lv[i]? = some (some (.long x))) (kk : sl_V Y X d kc ks Q q lv (.long x :: st) M) : sl_V Y X d kc ks Q pc lv st M := by
  obtain ⟨h, rfl⟩ := h
  intro p l e R s m args below meth c H locs cells slots mc ms D dA ad ad0 n n0 A d0 ls C
  exact lv_lload C.1.1 C.1.2.1 h (C.2.2.2.1.2.2.2 _ _ hv) (kk p l e R s m args below meth c H locs cells slots mc ms D dA ad ad0 n n0 A d0 ls C)
theorem slv_fload_n {k : Fin 4} {x : UInt32} (h : sl_D Y pc (.fload_n k) 1 q) (hv : lv[(k : Nat)]? = some (some (.float x))) (kk : sl_V Y X d kc ks Q q lv (.float x :: st) M) : sl_V Y X d kc ks Q pc lv st M := by
  obtain ⟨h, rfl⟩ := h
  intro p l e R s m args below meth c H locs cells slots mc ms D dA ad ad0 n n0 A d0 ls C
  exact lv_fload_n C.1.1 C.1.2.1 h rfl (C.2.2.2.1.2.2.2 _ _ hv) (kk p l e R s m args below meth c H locs cells slots mc ms D dA ad ad0 n n0 A d0 ls C)
theorem slv_fload {i : Nat} {x : UInt32} (h : sl_D Y pc (.fload i) 2 q) (hv : lv[i]? = some (some (.float x))) (kk : sl_V Y X d kc ks Q q lv (.float x :: st) M) : sl_V Y X d kc ks Q pc lv st M := by
  obtain ⟨h, rfl⟩ := h
  intro p l e R s m args below meth c H locs cells slots mc ms D dA ad ad0 n n0 A d0 ls C
  exact lv_fload C.1.1 C.1.2.1 h (C.2.2.2.1.2.2.2 _ _ hv) (kk p l e R s m args below meth c H locs cells slots mc ms D dA ad ad0 n n0 A d0 ls C)
theorem slv_dload_n {k : Fin 4} {x : UInt64} (h : sl_D Y pc (.dload_n k) 1 q) (hv : lv[(k : Nat)]? = some (some (.double x))) (kk : sl_V Y X d kc ks Q q lv (.double x :: st) M) : sl_V Y X d kc ks Q pc lv st M := by
  obtain ⟨h, rfl⟩ := h
  intro p l e R s m args below meth c H locs cells slots mc ms D dA ad ad0 n n0 A d0 ls C
  exact lv_dload_n C.1.1 C.1.2.1 h rfl (C.2.2.2.1.2.2.2 _ _ hv) (kk p l e R s m args below meth c H locs cells slots mc ms D dA ad ad0 n n0 A d0 ls C)
theorem slv_dload {i : Nat} {x : UInt64} (h : sl_D Y pc (.dload i) 2 q) (hv : lv[i]? = some (some (.double x))) (kk : sl_V Y X d kc ks Q q lv (.double x :: st) M) : sl_V Y X d kc ks Q pc lv st M := by
  obtain ⟨h, rfl⟩ := h
  intro p l e R s m args below meth c H locs cells slots mc ms D dA ad ad0 n n0 A d0 ls C
  exact lv_dload C.1.1 C.1.2.1 h (C.2.2.2.1.2.2.2 _ _ hv) (kk p l e R s m args below meth c H locs cells slots mc ms D dA ad ad0 n n0 A d0 ls C)
theorem slv_aload_n {k : Fin 4} {x : Nat} (h : sl_D Y pc (.aload_n k) 1 q) (hv : lv[(k : Nat)]? = some (some (.ref x))) (kk : sl_V Y X d kc ks Q q lv (.ref x :: st) M) : sl_V Y X d kc ks Q pc lv st M := by
  obtain ⟨h, rfl⟩ := h
  intro p l e R s m args below meth c H locs cells slots mc ms D dA ad ad0 n n0 A d0 ls C
  exact lv_aload_n C.1.1 C.1.2.1 h rfl (C.2.2.2.1.2.2.2 _ _ hv) (kk p l e R s m args below meth c H locs cells slots mc ms D dA ad ad0 n n0 A d0 ls C)
theorem slv_aload {i : Nat} {x : Nat} (h : sl_D Y pc (.aload i) 2 q) (hv : lv[i]? = some (some (.ref x))) (kk : sl_V Y X d kc ks Q q lv (.ref x :: st) M) : sl_V Y X d kc ks Q pc lv st M := by
  obtain ⟨h, rfl⟩ := h
  intro p l e R s m args below meth c H locs cells slots mc ms D dA ad ad0 n n0 A d0 ls C
  exact lv_aload C.1.1 C.1.2.1 h (C.2.2.2.1.2.2.2 _ _ hv) (kk p l e R s m args below meth c H locs cells slots mc ms D dA ad ad0 n n0 A d0 ls C)
end SLR
