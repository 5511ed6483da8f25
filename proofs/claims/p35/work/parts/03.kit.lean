/-! MY ROWS: a configuration of a method (world, locals, stack) at a program counter; one row an instruction. Written by wip/p35/gen_kit.py. -/
section GK
variable {p : Program} {l : Launch} {e : Env} {R : Room} {s : State} {m : MethodId} {args : Array Value} {below : List Frame} {meth : Method} {c : Code}
variable {own : String} {nL : Nat} {cc : ByteArray} {Ts : List Cond} {D : va_G} {tys : List (ClassId × FieldType)} {A : Nat → Prop} {cells slots pc : Nat} {Q : State → Prop} {w : va_W} {lv : List (Nat × Value)} {st : List Value} {a : Nat} {ret : Option FieldType}
/-- what stays the same along a method -/
def gk_G (p : Program) (s : State) (m : MethodId) (args : Array Value) (meth : Method) (c : Code) (own : String) (nL : Nat) (cc : ByteArray) (ret : Option FieldType) (Ts : List Cond) (D : va_G) (tys : List (ClassId × FieldType)) (A : Nat → Prop) : Prop :=
  p.tables.exec = Jvm.exec ∧ c.code = cc ∧ c.maxLocals = nL ∧ s.vm.findClass own = some m.cls ∧ (∀ w ∈ Ts, w.before args s = true) ∧ va_K D vwCl tys s ∧ (∀ q : Nat, s.heap.size ≤ q → A q) ∧ meth.sig.returnType = ret ∧ meth.locks = false
/-- the machine at pc, with this world, these locals, this stack, comes to Q -/
def gk_C (p : Program) (l : Launch) (e : Env) (R : Room) (s : State) (m : MethodId) (args : Array Value) (below : List Frame) (meth : Method) (c : Code) (nL : Nat) (D : va_G) (A : Nat → Prop) (Q : State → Prop) (cells slots : Nat) (w : va_W) (lv : List (Nat × Value)) (pc : Nat) (st : List Value) : Prop :=
  ∀ (H : Heap) (locs : List Loc) (ls : Array Slot), va_P D vwCl w H → va_D A w → va_S A s.heap H locs → lv_has ls nL lv → W p l e R s m args below meth c H locs cells slots Q (F0 m pc ls st)

theorem gk_iconst (G : gk_G p s m args meth c own nL cc ret Ts D tys A) {n : Int} {v : Int32} (d : decode cc pc = .ok (.iconst n, 1)) (hv : Int32.ofInt n = v) (K : gk_C p l e R s m args below meth c nL D A Q cells slots w lv (pc + 1) (.int v :: st)) : gk_C p l e R s m args below meth c nL D A Q cells slots w lv (pc) (st) :=
  fun H locs ls hP hD hS hl => lv_iconst G.1 G.2.1 d hv (K H locs ls hP hD hS hl)
theorem gk_bipush (G : gk_G p s m args meth c own nL cc ret Ts D tys A) {n : Int} {v : Int32} (d : decode cc pc = .ok (.bipush n, 2)) (hv : (Int8.ofInt n).toInt32 = v) (K : gk_C p l e R s m args below meth c nL D A Q cells slots w lv (pc + 2) (.int v :: st)) : gk_C p l e R s m args below meth c nL D A Q cells slots w lv (pc) (st) :=
  fun H locs ls hP hD hS hl => lv_bipush G.1 G.2.1 d hv (K H locs ls hP hD hS hl)
theorem gk_sipush (G : gk_G p s m args meth c own nL cc ret Ts D tys A) {n : Int} {v : Int32} (d : decode cc pc = .ok (.sipush n, 3)) (hv : (Int16.ofInt n).toInt32 = v) (K : gk_C p l e R s m args below meth c nL D A Q cells slots w lv (pc + 3) (.int v :: st)) : gk_C p l e R s m args below meth c nL D A Q cells slots w lv (pc) (st) :=
  fun H locs ls hP hD hS hl => lv_sipush G.1 G.2.1 d hv (K H locs ls hP hD hS hl)
theorem gk_lconst (G : gk_G p s m args meth c own nL cc ret Ts D tys A) {n : Fin 2} {v : Int64} (d : decode cc pc = .ok (.lconst n, 1)) (hv : Int64.ofNat (n : Nat) = v) (K : gk_C p l e R s m args below meth c nL D A Q cells slots w lv (pc + 1) (.long v :: st)) : gk_C p l e R s m args below meth c nL D A Q cells slots w lv (pc) (st) :=
  fun H locs ls hP hD hS hl => lv_lconst G.1 G.2.1 d hv (K H locs ls hP hD hS hl)
theorem gk_ldc2 (G : gk_G p s m args meth c own nL cc ret Ts D tys A) {index : Nat} {v : Int64} (hc : (Jvm.Cond.constantLong own index v).before args s = true) (d : decode cc pc = .ok (.ldc2_w index, 3)) (K : gk_C p l e R s m args below meth c nL D A Q cells slots w lv (pc + 3) (.long v :: st)) : gk_C p l e R s m args below meth c nL D A Q cells slots w lv (pc) (st) :=
  fun H locs ls hP hD hS hl => lv_ldc2 G.1 G.2.1 G.2.2.2.1 hc d (K H locs ls hP hD hS hl)
theorem gk_dconst0 (G : gk_G p s m args meth c own nL cc ret Ts D tys A) (d : decode cc pc = .ok (.dconst 0, 1)) (K : gk_C p l e R s m args below meth c nL D A Q cells slots w lv (pc + 1) (.double FP.dconst0 :: st)) : gk_C p l e R s m args below meth c nL D A Q cells slots w lv (pc) (st) :=
  fun H locs ls hP hD hS hl => lv_dconst0 G.1 G.2.1 d (K H locs ls hP hD hS hl)
theorem gk_iload_n (G : gk_G p s m args meth c own nL cc ret Ts D tys A) {k : Fin 4} {x : Int32} (d : decode cc pc = .ok (.iload_n k, 1)) (j : Nat) (h : lv[j]? = some ((k : Nat), .int x)) (K : gk_C p l e R s m args below meth c nL D A Q cells slots w lv (pc + 1) (.int x :: st)) : gk_C p l e R s m args below meth c nL D A Q cells slots w lv (pc) (st) :=
  fun H locs ls hP hD hS hl => lv_iload_n G.1 G.2.1 d rfl (lv_at hl j h) (K H locs ls hP hD hS hl)
theorem gk_iload (G : gk_G p s m args meth c own nL cc ret Ts D tys A) {i : Nat} {x : Int32} (d : decode cc pc = .ok (.iload i, 2)) (j : Nat) (h : lv[j]? = some (i, .int x)) (K : gk_C p l e R s m args below meth c nL D A Q cells slots w lv (pc + 2) (.int x :: st)) : gk_C p l e R s m args below meth c nL D A Q cells slots w lv (pc) (st) :=
  fun H locs ls hP hD hS hl => lv_iload G.1 G.2.1 d (lv_at hl j h) (K H locs ls hP hD hS hl)
theorem gk_istore_n (G : gk_G p s m args meth c own nL cc ret Ts D tys A) {k : Fin 4} {i : Nat} {x : Int32} {lv' : List (Nat × Value)} (d : decode cc pc = .ok (.istore_n k, 1)) (hi : (k : Nat) = i) (hn : i < nL) (h : (i, Value.int x) :: lv.filter (fun q => !(q.1 == i) && !(q.1 + 1 == i && q.2.category == 2)) = lv') (K : gk_C p l e R s m args below meth c nL D A Q cells slots w lv' (pc + 1) (st)) : gk_C p l e R s m args below meth c nL D A Q cells slots w lv (pc) (.int x :: st) :=
  fun H locs ls hP hD hS hl => lv_istore_n G.1 G.2.1 d hi hl hn h (fun ls' h' => K H locs ls' hP hD hS h')
theorem gk_istore (G : gk_G p s m args meth c own nL cc ret Ts D tys A) {i : Nat} {x : Int32} {lv' : List (Nat × Value)} (d : decode cc pc = .ok (.istore i, 2)) (hn : i < nL) (h : (i, Value.int x) :: lv.filter (fun q => !(q.1 == i) && !(q.1 + 1 == i && q.2.category == 2)) = lv') (K : gk_C p l e R s m args below meth c nL D A Q cells slots w lv' (pc + 2) (st)) : gk_C p l e R s m args below meth c nL D A Q cells slots w lv (pc) (.int x :: st) :=
  fun H locs ls hP hD hS hl => lv_istore G.1 G.2.1 d hl hn h (fun ls' h' => K H locs ls' hP hD hS h')
theorem gk_lload_n (G : gk_G p s m args meth c own nL cc ret Ts D tys A) {k : Fin 4} {x : Int64} (d : decode cc pc = .ok (.lload_n k, 1)) (j : Nat) (h : lv[j]? = some ((k : Nat), .long x)) (K : gk_C p l e R s m args below meth c nL D A Q cells slots w lv (pc + 1) (.long x :: st)) : gk_C p l e R s m args below meth c nL D A Q cells slots w lv (pc) (st) :=
  fun H locs ls hP hD hS hl => lv_lload_n G.1 G.2.1 d rfl (lv_at hl j h) (K H locs ls hP hD hS hl)
theorem gk_lload (G : gk_G p s m args meth c own nL cc ret Ts D tys A) {i : Nat} {x : Int64} (d : decode cc pc = .ok (.lload i, 2)) (j : Nat) (h : lv[j]? = some (i, .long x)) (K : gk_C p l e R s m args below meth c nL D A Q cells slots w lv (pc + 2) (.long x :: st)) : gk_C p l e R s m args below meth c nL D A Q cells slots w lv (pc) (st) :=
  fun H locs ls hP hD hS hl => lv_lload G.1 G.2.1 d (lv_at hl j h) (K H locs ls hP hD hS hl)
theorem gk_lstore_n (G : gk_G p s m args meth c own nL cc ret Ts D tys A) {k : Fin 4} {i : Nat} {x : Int64} {lv' : List (Nat × Value)} (d : decode cc pc = .ok (.lstore_n k, 1)) (hi : (k : Nat) = i) (hn : i + 1 < nL) (h : (i, Value.long x) :: lv.filter (fun q => !(q.1 == i) && (!(q.1 == i + 1) && !(q.1 + 1 == i && q.2.category == 2))) = lv') (K : gk_C p l e R s m args below meth c nL D A Q cells slots w lv' (pc + 1) (st)) : gk_C p l e R s m args below meth c nL D A Q cells slots w lv (pc) (.long x :: st) :=
  fun H locs ls hP hD hS hl => lv_lstore_n G.1 G.2.1 d hi hl hn h (fun ls' h' => K H locs ls' hP hD hS h')
theorem gk_lstore (G : gk_G p s m args meth c own nL cc ret Ts D tys A) {i : Nat} {x : Int64} {lv' : List (Nat × Value)} (d : decode cc pc = .ok (.lstore i, 2)) (hn : i + 1 < nL) (h : (i, Value.long x) :: lv.filter (fun q => !(q.1 == i) && (!(q.1 == i + 1) && !(q.1 + 1 == i && q.2.category == 2))) = lv') (K : gk_C p l e R s m args below meth c nL D A Q cells slots w lv' (pc + 2) (st)) : gk_C p l e R s m args below meth c nL D A Q cells slots w lv (pc) (.long x :: st) :=
  fun H locs ls hP hD hS hl => lv_lstore G.1 G.2.1 d hl hn h (fun ls' h' => K H locs ls' hP hD hS h')
theorem gk_aload_n (G : gk_G p s m args meth c own nL cc ret Ts D tys A) {k : Fin 4} {x : Nat} (d : decode cc pc = .ok (.aload_n k, 1)) (j : Nat) (h : lv[j]? = some ((k : Nat), .ref x)) (K : gk_C p l e R s m args below meth c nL D A Q cells slots w lv (pc + 1) (.ref x :: st)) : gk_C p l e R s m args below meth c nL D A Q cells slots w lv (pc) (st) :=
  fun H locs ls hP hD hS hl => lv_aload_n G.1 G.2.1 d rfl (lv_at hl j h) (K H locs ls hP hD hS hl)
theorem gk_aload (G : gk_G p s m args meth c own nL cc ret Ts D tys A) {i : Nat} {x : Nat} (d : decode cc pc = .ok (.aload i, 2)) (j : Nat) (h : lv[j]? = some (i, .ref x)) (K : gk_C p l e R s m args below meth c nL D A Q cells slots w lv (pc + 2) (.ref x :: st)) : gk_C p l e R s m args below meth c nL D A Q cells slots w lv (pc) (st) :=
  fun H locs ls hP hD hS hl => lv_aload G.1 G.2.1 d (lv_at hl j h) (K H locs ls hP hD hS hl)
theorem gk_astore_n (G : gk_G p s m args meth c own nL cc ret Ts D tys A) {k : Fin 4} {i : Nat} {x : Nat} {lv' : List (Nat × Value)} (d : decode cc pc = .ok (.astore_n k, 1)) (hi : (k : Nat) = i) (hn : i < nL) (h : (i, Value.ref x) :: lv.filter (fun q => !(q.1 == i) && !(q.1 + 1 == i && q.2.category == 2)) = lv') (K : gk_C p l e R s m args below meth c nL D A Q cells slots w lv' (pc + 1) (st)) : gk_C p l e R s m args below meth c nL D A Q cells slots w lv (pc) (.ref x :: st) :=
  fun H locs ls hP hD hS hl => lv_astore_n G.1 G.2.1 d hi hl hn h (fun ls' h' => K H locs ls' hP hD hS h')
theorem gk_astore (G : gk_G p s m args meth c own nL cc ret Ts D tys A) {i : Nat} {x : Nat} {lv' : List (Nat × Value)} (d : decode cc pc = .ok (.astore i, 2)) (hn : i < nL) (h : (i, Value.ref x) :: lv.filter (fun q => !(q.1 == i) && !(q.1 + 1 == i && q.2.category == 2)) = lv') (K : gk_C p l e R s m args below meth c nL D A Q cells slots w lv' (pc + 2) (st)) : gk_C p l e R s m args below meth c nL D A Q cells slots w lv (pc) (.ref x :: st) :=
  fun H locs ls hP hD hS hl => lv_astore G.1 G.2.1 d hl hn h (fun ls' h' => K H locs ls' hP hD hS h')
theorem gk_dload_n (G : gk_G p s m args meth c own nL cc ret Ts D tys A) {k : Fin 4} {x : UInt64} (d : decode cc pc = .ok (.dload_n k, 1)) (j : Nat) (h : lv[j]? = some ((k : Nat), .double x)) (K : gk_C p l e R s m args below meth c nL D A Q cells slots w lv (pc + 1) (.double x :: st)) : gk_C p l e R s m args below meth c nL D A Q cells slots w lv (pc) (st) :=
  fun H locs ls hP hD hS hl => lv_dload_n G.1 G.2.1 d rfl (lv_at hl j h) (K H locs ls hP hD hS hl)
theorem gk_dload (G : gk_G p s m args meth c own nL cc ret Ts D tys A) {i : Nat} {x : UInt64} (d : decode cc pc = .ok (.dload i, 2)) (j : Nat) (h : lv[j]? = some (i, .double x)) (K : gk_C p l e R s m args below meth c nL D A Q cells slots w lv (pc + 2) (.double x :: st)) : gk_C p l e R s m args below meth c nL D A Q cells slots w lv (pc) (st) :=
  fun H locs ls hP hD hS hl => lv_dload G.1 G.2.1 d (lv_at hl j h) (K H locs ls hP hD hS hl)
theorem gk_dstore_n (G : gk_G p s m args meth c own nL cc ret Ts D tys A) {k : Fin 4} {i : Nat} {x : UInt64} {lv' : List (Nat × Value)} (d : decode cc pc = .ok (.dstore_n k, 1)) (hi : (k : Nat) = i) (hn : i + 1 < nL) (h : (i, Value.double x) :: lv.filter (fun q => !(q.1 == i) && (!(q.1 == i + 1) && !(q.1 + 1 == i && q.2.category == 2))) = lv') (K : gk_C p l e R s m args below meth c nL D A Q cells slots w lv' (pc + 1) (st)) : gk_C p l e R s m args below meth c nL D A Q cells slots w lv (pc) (.double x :: st) :=
  fun H locs ls hP hD hS hl => lv_dstore_n G.1 G.2.1 d hi hl hn h (fun ls' h' => K H locs ls' hP hD hS h')
theorem gk_dstore (G : gk_G p s m args meth c own nL cc ret Ts D tys A) {i : Nat} {x : UInt64} {lv' : List (Nat × Value)} (d : decode cc pc = .ok (.dstore i, 2)) (hn : i + 1 < nL) (h : (i, Value.double x) :: lv.filter (fun q => !(q.1 == i) && (!(q.1 == i + 1) && !(q.1 + 1 == i && q.2.category == 2))) = lv') (K : gk_C p l e R s m args below meth c nL D A Q cells slots w lv' (pc + 2) (st)) : gk_C p l e R s m args below meth c nL D A Q cells slots w lv (pc) (.double x :: st) :=
  fun H locs ls hP hD hS hl => lv_dstore G.1 G.2.1 d hl hn h (fun ls' h' => K H locs ls' hP hD hS h')
theorem gk_iinc (G : gk_G p s m args meth c own nL cc ret Ts D tys A) {i j : Nat} {n : Int} {x v : Int32} {lv' : List (Nat × Value)} (d : decode cc pc = .ok (.iinc i n, 3)) (hj : lv[j]? = some (i, .int x)) (hv : x + Int32.ofInt n = v) (hn : i < nL) (h : (i, Value.int v) :: lv.filter (fun q => !(q.1 == i) && !(q.1 + 1 == i && q.2.category == 2)) = lv') (K : gk_C p l e R s m args below meth c nL D A Q cells slots w lv' (pc + 3) (st)) : gk_C p l e R s m args below meth c nL D A Q cells slots w lv (pc) (st) :=
  fun H locs ls hP hD hS hl => lv_iinc G.1 G.2.1 d hl hj hv hn h (fun ls' h' => K H locs ls' hP hD hS h')
theorem gk_iadd (G : gk_G p s m args meth c own nL cc ret Ts D tys A) {x y v : Int32} (d : decode cc pc = .ok (.iadd, 1)) (hv : x + y = v) (K : gk_C p l e R s m args below meth c nL D A Q cells slots w lv (pc + 1) (.int v :: st)) : gk_C p l e R s m args below meth c nL D A Q cells slots w lv (pc) (.int y :: .int x :: st) :=
  fun H locs ls hP hD hS hl => lv_iadd G.1 G.2.1 d (hv ▸ (K H locs ls hP hD hS hl))
theorem gk_isub (G : gk_G p s m args meth c own nL cc ret Ts D tys A) {x y v : Int32} (d : decode cc pc = .ok (.isub, 1)) (hv : x - y = v) (K : gk_C p l e R s m args below meth c nL D A Q cells slots w lv (pc + 1) (.int v :: st)) : gk_C p l e R s m args below meth c nL D A Q cells slots w lv (pc) (.int y :: .int x :: st) :=
  fun H locs ls hP hD hS hl => lv_isub G.1 G.2.1 d (hv ▸ (K H locs ls hP hD hS hl))
theorem gk_imul (G : gk_G p s m args meth c own nL cc ret Ts D tys A) {x y v : Int32} (d : decode cc pc = .ok (.imul, 1)) (hv : x * y = v) (K : gk_C p l e R s m args below meth c nL D A Q cells slots w lv (pc + 1) (.int v :: st)) : gk_C p l e R s m args below meth c nL D A Q cells slots w lv (pc) (.int y :: .int x :: st) :=
  fun H locs ls hP hD hS hl => lv_imul G.1 G.2.1 d (hv ▸ (K H locs ls hP hD hS hl))
theorem gk_iand (G : gk_G p s m args meth c own nL cc ret Ts D tys A) {x y v : Int32} (d : decode cc pc = .ok (.iand, 1)) (hv : x &&& y = v) (K : gk_C p l e R s m args below meth c nL D A Q cells slots w lv (pc + 1) (.int v :: st)) : gk_C p l e R s m args below meth c nL D A Q cells slots w lv (pc) (.int y :: .int x :: st) :=
  fun H locs ls hP hD hS hl => lv_iand G.1 G.2.1 d (hv ▸ (K H locs ls hP hD hS hl))
theorem gk_ixor (G : gk_G p s m args meth c own nL cc ret Ts D tys A) {x y v : Int32} (d : decode cc pc = .ok (.ixor, 1)) (hv : x ^^^ y = v) (K : gk_C p l e R s m args below meth c nL D A Q cells slots w lv (pc + 1) (.int v :: st)) : gk_C p l e R s m args below meth c nL D A Q cells slots w lv (pc) (.int y :: .int x :: st) :=
  fun H locs ls hP hD hS hl => lv_ixor G.1 G.2.1 d (hv ▸ (K H locs ls hP hD hS hl))
theorem gk_ladd (G : gk_G p s m args meth c own nL cc ret Ts D tys A) {x y v : Int64} (d : decode cc pc = .ok (.ladd, 1)) (hv : x + y = v) (K : gk_C p l e R s m args below meth c nL D A Q cells slots w lv (pc + 1) (.long v :: st)) : gk_C p l e R s m args below meth c nL D A Q cells slots w lv (pc) (.long y :: .long x :: st) :=
  fun H locs ls hP hD hS hl => lv_ladd G.1 G.2.1 d (hv ▸ (K H locs ls hP hD hS hl))
theorem gk_lmul (G : gk_G p s m args meth c own nL cc ret Ts D tys A) {x y v : Int64} (d : decode cc pc = .ok (.lmul, 1)) (hv : x * y = v) (K : gk_C p l e R s m args below meth c nL D A Q cells slots w lv (pc + 1) (.long v :: st)) : gk_C p l e R s m args below meth c nL D A Q cells slots w lv (pc) (.long y :: .long x :: st) :=
  fun H locs ls hP hD hS hl => lv_lmul G.1 G.2.1 d (hv ▸ (K H locs ls hP hD hS hl))
theorem gk_irem (G : gk_G p s m args meth c own nL cc ret Ts D tys A) {x y v : Int32} (d : decode cc pc = .ok (.irem, 1)) (hne : ¬ y = 0) (hv : x - x / y * y = v) (K : gk_C p l e R s m args below meth c nL D A Q cells slots w lv (pc + 1) (.int v :: st)) : gk_C p l e R s m args below meth c nL D A Q cells slots w lv (pc) (.int y :: .int x :: st) :=
  fun H locs ls hP hD hS hl => lv_irem G.1 G.2.1 d hne (hv ▸ (K H locs ls hP hD hS hl))
theorem gk_i2l (G : gk_G p s m args meth c own nL cc ret Ts D tys A) {x : Int32} {v : Int64} (d : decode cc pc = .ok (.i2l, 1)) (hv : x.toInt64 = v) (K : gk_C p l e R s m args below meth c nL D A Q cells slots w lv (pc + 1) (.long v :: st)) : gk_C p l e R s m args below meth c nL D A Q cells slots w lv (pc) (.int x :: st) :=
  fun H locs ls hP hD hS hl => lv_i2l G.1 G.2.1 d hv (K H locs ls hP hD hS hl)
theorem gk_i2d (G : gk_G p s m args meth c own nL cc ret Ts D tys A) {x : Int32} (d : decode cc pc = .ok (.i2d, 1)) (K : gk_C p l e R s m args below meth c nL D A Q cells slots w lv (pc + 1) (.double (FP.i2d x) :: st)) : gk_C p l e R s m args below meth c nL D A Q cells slots w lv (pc) (.int x :: st) :=
  fun H locs ls hP hD hS hl => lv_i2d G.1 G.2.1 d (K H locs ls hP hD hS hl)
theorem gk_lcmp (G : gk_G p s m args meth c own nL cc ret Ts D tys A) {x y : Int64} (d : decode cc pc = .ok (.lcmp, 1)) (K : gk_C p l e R s m args below meth c nL D A Q cells slots w lv (pc + 1) (.int (lg_cmp x y) :: st)) : gk_C p l e R s m args below meth c nL D A Q cells slots w lv (pc) (.long y :: .long x :: st) :=
  fun H locs ls hP hD hS hl => W.lcmp G.1 G.2.1 d (K H locs ls hP hD hS hl)
theorem gk_dcmp (G : gk_G p s m args meth c own nL cc ret Ts D tys A) {x y : UInt64} {op : CmpOp} (d : decode cc pc = .ok (.dcmp op, 1)) (K : gk_C p l e R s m args below meth c nL D A Q cells slots w lv (pc + 1) (.int (Op.cmpValue (FP.dcmp x y) op) :: st)) : gk_C p l e R s m args below meth c nL D A Q cells slots w lv (pc) (.double y :: .double x :: st) :=
  fun H locs ls hP hD hS hl => lv_dcmp G.1 G.2.1 d (K H locs ls hP hD hS hl)
theorem gk_dup (G : gk_G p s m args meth c own nL cc ret Ts D tys A) {v : Value} (d : decode cc pc = .ok (.dup, 1)) (hv : v.category = 1) (K : gk_C p l e R s m args below meth c nL D A Q cells slots w lv (pc + 1) (v :: v :: st)) : gk_C p l e R s m args below meth c nL D A Q cells slots w lv (pc) (v :: st) :=
  fun H locs ls hP hD hS hl => lv_dup G.1 G.2.1 d hv (K H locs ls hP hD hS hl)
theorem gk_pop (G : gk_G p s m args meth c own nL cc ret Ts D tys A) {v : Value} (d : decode cc pc = .ok (.pop, 1)) (hv : v.category = 1) (K : gk_C p l e R s m args below meth c nL D A Q cells slots w lv (pc + 1) (st)) : gk_C p l e R s m args below meth c nL D A Q cells slots w lv (pc) (v :: st) :=
  fun H locs ls hP hD hS hl => lv_pop G.1 G.2.1 d hv (K H locs ls hP hD hS hl)
theorem gk_dup2 (G : gk_G p s m args meth c own nL cc ret Ts D tys A) {v x : Value} (d : decode cc pc = .ok (.dup2, 1)) (hv : v.category = 1) (hx : x.category = 1) (K : gk_C p l e R s m args below meth c nL D A Q cells slots w lv (pc + 1) (v :: x :: v :: x :: st)) : gk_C p l e R s m args below meth c nL D A Q cells slots w lv (pc) (v :: x :: st) :=
  fun H locs ls hP hD hS hl => lv_dup2_11 G.1 G.2.1 d hv hx (K H locs ls hP hD hS hl)
theorem gk_goto (G : gk_G p s m args meth c own nL cc ret Ts D tys A) {off : Int} {tgt : Nat} (d : decode cc pc = .ok (.goto off, 3)) (ht : (pc : Int) + off = (tgt : Int)) (K : gk_C p l e R s m args below meth c nL D A Q cells slots w lv (tgt) (st)) : gk_C p l e R s m args below meth c nL D A Q cells slots w lv (pc) (st) :=
  fun H locs ls hP hD hS hl => lv_goto G.1 G.2.1 d ht (K H locs ls hP hD hS hl)
theorem gk_icmp_eq (G : gk_G p s m args meth c own nL cc ret Ts D tys A) {x y : Int32} {off : Int} {tgt : Nat} (d : decode cc pc = .ok (.if_icmp .eq off, 3)) (ht : (pc : Int) + off = (tgt : Int)) (kt : x = y → gk_C p l e R s m args below meth c nL D A Q cells slots w lv (tgt) (st)) (kf : ¬ x = y → gk_C p l e R s m args below meth c nL D A Q cells slots w lv (pc + 3) (st)) : gk_C p l e R s m args below meth c nL D A Q cells slots w lv (pc) (.int y :: .int x :: st) :=
  fun H locs ls hP hD hS hl => lv_icmp_eq G.1 G.2.1 d ht (fun h => kt h H locs ls hP hD hS hl) (fun h => kf h H locs ls hP hD hS hl)
theorem gk_if_eq (G : gk_G p s m args meth c own nL cc ret Ts D tys A) {x : Int32} {off : Int} {tgt : Nat} (d : decode cc pc = .ok (.ifCond .eq off, 3)) (ht : (pc : Int) + off = (tgt : Int)) (kt : x = 0 → gk_C p l e R s m args below meth c nL D A Q cells slots w lv (tgt) (st)) (kf : ¬ x = 0 → gk_C p l e R s m args below meth c nL D A Q cells slots w lv (pc + 3) (st)) : gk_C p l e R s m args below meth c nL D A Q cells slots w lv (pc) (.int x :: st) :=
  fun H locs ls hP hD hS hl => lv_if_eq G.1 G.2.1 d ht (fun h => kt h H locs ls hP hD hS hl) (fun h => kf h H locs ls hP hD hS hl)
theorem gk_icmp_ne (G : gk_G p s m args meth c own nL cc ret Ts D tys A) {x y : Int32} {off : Int} {tgt : Nat} (d : decode cc pc = .ok (.if_icmp .ne off, 3)) (ht : (pc : Int) + off = (tgt : Int)) (kt : ¬ x = y → gk_C p l e R s m args below meth c nL D A Q cells slots w lv (tgt) (st)) (kf : x = y → gk_C p l e R s m args below meth c nL D A Q cells slots w lv (pc + 3) (st)) : gk_C p l e R s m args below meth c nL D A Q cells slots w lv (pc) (.int y :: .int x :: st) :=
  fun H locs ls hP hD hS hl => lv_icmp_ne G.1 G.2.1 d ht (fun h => kt h H locs ls hP hD hS hl) (fun h => kf h H locs ls hP hD hS hl)
theorem gk_if_ne (G : gk_G p s m args meth c own nL cc ret Ts D tys A) {x : Int32} {off : Int} {tgt : Nat} (d : decode cc pc = .ok (.ifCond .ne off, 3)) (ht : (pc : Int) + off = (tgt : Int)) (kt : ¬ x = 0 → gk_C p l e R s m args below meth c nL D A Q cells slots w lv (tgt) (st)) (kf : x = 0 → gk_C p l e R s m args below meth c nL D A Q cells slots w lv (pc + 3) (st)) : gk_C p l e R s m args below meth c nL D A Q cells slots w lv (pc) (.int x :: st) :=
  fun H locs ls hP hD hS hl => lv_if_ne G.1 G.2.1 d ht (fun h => kt h H locs ls hP hD hS hl) (fun h => kf h H locs ls hP hD hS hl)
theorem gk_icmp_lt (G : gk_G p s m args meth c own nL cc ret Ts D tys A) {x y : Int32} {off : Int} {tgt : Nat} (d : decode cc pc = .ok (.if_icmp .lt off, 3)) (ht : (pc : Int) + off = (tgt : Int)) (kt : x < y → gk_C p l e R s m args below meth c nL D A Q cells slots w lv (tgt) (st)) (kf : ¬ x < y → gk_C p l e R s m args below meth c nL D A Q cells slots w lv (pc + 3) (st)) : gk_C p l e R s m args below meth c nL D A Q cells slots w lv (pc) (.int y :: .int x :: st) :=
  fun H locs ls hP hD hS hl => lv_icmp_lt G.1 G.2.1 d ht (fun h => kt h H locs ls hP hD hS hl) (fun h => kf h H locs ls hP hD hS hl)
theorem gk_if_lt (G : gk_G p s m args meth c own nL cc ret Ts D tys A) {x : Int32} {off : Int} {tgt : Nat} (d : decode cc pc = .ok (.ifCond .lt off, 3)) (ht : (pc : Int) + off = (tgt : Int)) (kt : x < 0 → gk_C p l e R s m args below meth c nL D A Q cells slots w lv (tgt) (st)) (kf : ¬ x < 0 → gk_C p l e R s m args below meth c nL D A Q cells slots w lv (pc + 3) (st)) : gk_C p l e R s m args below meth c nL D A Q cells slots w lv (pc) (.int x :: st) :=
  fun H locs ls hP hD hS hl => lv_if_lt G.1 G.2.1 d ht (fun h => kt h H locs ls hP hD hS hl) (fun h => kf h H locs ls hP hD hS hl)
theorem gk_icmp_ge (G : gk_G p s m args meth c own nL cc ret Ts D tys A) {x y : Int32} {off : Int} {tgt : Nat} (d : decode cc pc = .ok (.if_icmp .ge off, 3)) (ht : (pc : Int) + off = (tgt : Int)) (kt : y ≤ x → gk_C p l e R s m args below meth c nL D A Q cells slots w lv (tgt) (st)) (kf : ¬ y ≤ x → gk_C p l e R s m args below meth c nL D A Q cells slots w lv (pc + 3) (st)) : gk_C p l e R s m args below meth c nL D A Q cells slots w lv (pc) (.int y :: .int x :: st) :=
  fun H locs ls hP hD hS hl => lv_icmp_ge G.1 G.2.1 d ht (fun h => kt h H locs ls hP hD hS hl) (fun h => kf h H locs ls hP hD hS hl)
theorem gk_if_ge (G : gk_G p s m args meth c own nL cc ret Ts D tys A) {x : Int32} {off : Int} {tgt : Nat} (d : decode cc pc = .ok (.ifCond .ge off, 3)) (ht : (pc : Int) + off = (tgt : Int)) (kt : 0 ≤ x → gk_C p l e R s m args below meth c nL D A Q cells slots w lv (tgt) (st)) (kf : ¬ 0 ≤ x → gk_C p l e R s m args below meth c nL D A Q cells slots w lv (pc + 3) (st)) : gk_C p l e R s m args below meth c nL D A Q cells slots w lv (pc) (.int x :: st) :=
  fun H locs ls hP hD hS hl => lv_if_ge G.1 G.2.1 d ht (fun h => kt h H locs ls hP hD hS hl) (fun h => kf h H locs ls hP hD hS hl)
theorem gk_icmp_gt (G : gk_G p s m args meth c own nL cc ret Ts D tys A) {x y : Int32} {off : Int} {tgt : Nat} (d : decode cc pc = .ok (.if_icmp .gt off, 3)) (ht : (pc : Int) + off = (tgt : Int)) (kt : y < x → gk_C p l e R s m args below meth c nL D A Q cells slots w lv (tgt) (st)) (kf : ¬ y < x → gk_C p l e R s m args below meth c nL D A Q cells slots w lv (pc + 3) (st)) : gk_C p l e R s m args below meth c nL D A Q cells slots w lv (pc) (.int y :: .int x :: st) :=
  fun H locs ls hP hD hS hl => lv_icmp_gt G.1 G.2.1 d ht (fun h => kt h H locs ls hP hD hS hl) (fun h => kf h H locs ls hP hD hS hl)
theorem gk_if_gt (G : gk_G p s m args meth c own nL cc ret Ts D tys A) {x : Int32} {off : Int} {tgt : Nat} (d : decode cc pc = .ok (.ifCond .gt off, 3)) (ht : (pc : Int) + off = (tgt : Int)) (kt : 0 < x → gk_C p l e R s m args below meth c nL D A Q cells slots w lv (tgt) (st)) (kf : ¬ 0 < x → gk_C p l e R s m args below meth c nL D A Q cells slots w lv (pc + 3) (st)) : gk_C p l e R s m args below meth c nL D A Q cells slots w lv (pc) (.int x :: st) :=
  fun H locs ls hP hD hS hl => lv_if_gt G.1 G.2.1 d ht (fun h => kt h H locs ls hP hD hS hl) (fun h => kf h H locs ls hP hD hS hl)
theorem gk_icmp_le (G : gk_G p s m args meth c own nL cc ret Ts D tys A) {x y : Int32} {off : Int} {tgt : Nat} (d : decode cc pc = .ok (.if_icmp .le off, 3)) (ht : (pc : Int) + off = (tgt : Int)) (kt : x ≤ y → gk_C p l e R s m args below meth c nL D A Q cells slots w lv (tgt) (st)) (kf : ¬ x ≤ y → gk_C p l e R s m args below meth c nL D A Q cells slots w lv (pc + 3) (st)) : gk_C p l e R s m args below meth c nL D A Q cells slots w lv (pc) (.int y :: .int x :: st) :=
  fun H locs ls hP hD hS hl => lv_icmp_le G.1 G.2.1 d ht (fun h => kt h H locs ls hP hD hS hl) (fun h => kf h H locs ls hP hD hS hl)
theorem gk_if_le (G : gk_G p s m args meth c own nL cc ret Ts D tys A) {x : Int32} {off : Int} {tgt : Nat} (d : decode cc pc = .ok (.ifCond .le off, 3)) (ht : (pc : Int) + off = (tgt : Int)) (kt : x ≤ 0 → gk_C p l e R s m args below meth c nL D A Q cells slots w lv (tgt) (st)) (kf : ¬ x ≤ 0 → gk_C p l e R s m args below meth c nL D A Q cells slots w lv (pc + 3) (st)) : gk_C p l e R s m args below meth c nL D A Q cells slots w lv (pc) (.int x :: st) :=
  fun H locs ls hP hD hS hl => lv_if_le G.1 G.2.1 d ht (fun h => kt h H locs ls hP hD hS hl) (fun h => kf h H locs ls hP hD hS hl)
theorem gk_lsub {lv' : List (Nat × Value)} (ks : List Nat) (h : lv_pick lv ks = lv') (K : gk_C p l e R s m args below meth c nL D A Q cells slots w lv' (pc) (st)) : gk_C p l e R s m args below meth c nL D A Q cells slots w lv (pc) (st) :=
  fun H locs ls hP hD hS hl => K H locs ls hP hD hS (lv_sub hl ks h)
theorem gk_fm {α : Type} {ws ws' : List α} (is : List Nat) (h : is.map (fun i => ws[i]?) = ws'.map some) : is.filterMap (fun i => ws[i]?) = ws' := by
  induction is generalizing ws' with
  | nil => cases ws' with
    | nil => rfl
    | cons a b => simp at h
  | cons i is ih => cases ws' with
    | nil => simp at h
    | cons a b =>
      simp only [List.map_cons, List.cons.injEq] at h
      rw [List.filterMap_cons, h.1, ih h.2]
theorem gk_wsub {w' : va_W} (is : List Nat) (h : is.map (fun i => w[i]?) = w'.map some) (hn : va_nd is = true) (K : gk_C p l e R s m args below meth c nL D A Q cells slots w' lv (pc) (st)) : gk_C p l e R s m args below meth c nL D A Q cells slots w lv (pc) (st) :=
  fun H locs ls hP hD hS hl => K H locs ls (hP.sub is (gk_fm is h)) (hD.sub is hn h) hS hl
theorem gk_weq {w' : va_W} (h : w = w') (K : gk_C p l e R s m args below meth c nL D A Q cells slots w' lv (pc) (st)) : gk_C p l e R s m args below meth c nL D A Q cells slots w lv (pc) (st) := h ▸ K
theorem gk_steq {st' : List Value} (h : st = st') (K : gk_C p l e R s m args below meth c nL D A Q cells slots w lv (pc) (st')) : gk_C p l e R s m args below meth c nL D A Q cells slots w lv (pc) (st) := h ▸ K
theorem gk_topi {x : Int32} (K : ∀ y : Int32, y = x → gk_C p l e R s m args below meth c nL D A Q cells slots w lv (pc) (.int y :: st)) : gk_C p l e R s m args below meth c nL D A Q cells slots w lv (pc) (.int x :: st) := K x rfl
theorem gk_widen {k n : Nat} (h1 : cells ≤ k) (h2 : slots ≤ n) (K : gk_C p l e R s m args below meth c nL D A Q k n w lv (pc) (st)) : gk_C p l e R s m args below meth c nL D A Q cells slots w lv (pc) (st) :=
  fun H locs ls hP hD hS hl => W.widen h1 h2 (K H locs ls hP hD hS hl)
theorem gk_get (G : gk_G p s m args meth c own nL cc ret Ts D tys A) {C : String} {T : u_T} {N ci idx q0 : Nat} {fs : List Value} (hin : ∀ w ∈ u_ws C T N, w ∈ Ts) (he : w[q0]? = some (a, .inr (ci, fs))) (hc : vwCl[ci]? = some (C, T, N)) (k : Nat) (hk : k < N) (hlink : (Cond.fieldLink own idx (T k).1 (T k).2.1 (T k).2.2.1).before args s = true) {v v' : Value} (hv : fs[k]? = some v) (hx : v = v') (d : decode cc pc = .ok (.getfield idx, 3)) (K : gk_C p l e R s m args below meth c nL D A Q cells slots w lv (pc + 3) (v' :: st)) : gk_C p l e R s m args below meth c nL D A Q cells slots w lv (pc) (.ref a :: st) :=
  fun H locs ls hP hD hS hl => va_get (D := D) G.1 G.2.1 G.2.2.2.2.1 hin G.2.2.2.1 G.2.2.2.2.2.1 hP q0 he hc k hk hlink (fun _ h9 => h9) hv d (hx ▸ (K H locs ls hP hD hS hl))
theorem gk_getN (G : gk_G p s m args meth c own nL cc ret Ts D tys A) {C host : String} {T : u_T} {N ci idx q0 : Nat} {fs : List Value} (hin : ∀ w ∈ u_ws C T N, w ∈ Ts) (he : w[q0]? = some (a, .inr (ci, fs))) (hc : vwCl[ci]? = some (C, T, N)) (k : Nat) (hk : k < N) (hlink : (Cond.fieldLinkNest own idx (T k).1 (T k).2.1 (T k).2.2.1 host).before args s = true) {v v' : Value} (hv : fs[k]? = some v) (hx : v = v') (d : decode cc pc = .ok (.getfield idx, 3)) (K : gk_C p l e R s m args below meth c nL D A Q cells slots w lv (pc + 3) (v' :: st)) : gk_C p l e R s m args below meth c nL D A Q cells slots w lv (pc) (.ref a :: st) :=
  fun H locs ls hP hD hS hl => va_getN (D := D) G.1 G.2.1 G.2.2.2.2.1 hin G.2.2.2.1 G.2.2.2.2.2.1 hP q0 he hc k hk hlink (fun _ h9 => h9) hv d (hx ▸ (K H locs ls hP hD hS hl))
theorem gk_put (G : gk_G p s m args meth c own nL cc ret Ts D tys A) {C : String} {T : u_T} {N ci idx q0 : Nat} {fs : List Value} {ty0 : Nat → FieldType} (hin : ∀ w ∈ u_ws C T N, w ∈ Ts) (hty : ∀ k, k < N → parseFieldDescriptor (T k).2.2.1 = some (ty0 k)) (hnm : ∀ a, a < N → ∀ b, b < N → a ≠ b → (T a).2.1 ≠ (T b).2.1) (he : w[q0]? = some (a, .inr (ci, fs))) (hc : vwCl[ci]? = some (C, T, N)) (k : Nat) (hk : k < N) (hlink : (Cond.fieldLink own idx (T k).1 (T k).2.1 (T k).2.2.1).before args s = true) (hfin : (T k).2.2.2 = false) {v : Value} {w' : va_W} (hn : narrow (ty0 k) v = v) (hfit : fits (ty0 k) v = true) (hl0 : k < fs.length) (hw : w.set q0 (a, .inr (ci, fs.set k v)) = w') (d : decode cc pc = .ok (.putfield idx, 3)) (K : gk_C p l e R s m args below meth c nL D A Q cells slots w' lv (pc + 3) (st)) : gk_C p l e R s m args below meth c nL D A Q cells slots w lv (pc) (v :: .ref a :: st) :=
  fun H locs ls hP hD hS hl => va_put (D := D) G.1 G.2.1 G.2.2.2.2.1 hin ty0 hty hnm G.2.2.2.1 G.2.2.2.2.2.1 hP hD hS q0 he hc k hk hlink (fun _ h9 => h9) hfin (hty k hk) hn hfit hl0 d (fun H1 locs1 hP hD hS => K H1 locs1 ls (hw ▸ hP) (hw ▸ hD) hS hl)
theorem gk_putN (G : gk_G p s m args meth c own nL cc ret Ts D tys A) {C host : String} {T : u_T} {N ci idx q0 : Nat} {fs : List Value} {ty0 : Nat → FieldType} (hin : ∀ w ∈ u_ws C T N, w ∈ Ts) (hty : ∀ k, k < N → parseFieldDescriptor (T k).2.2.1 = some (ty0 k)) (hnm : ∀ a, a < N → ∀ b, b < N → a ≠ b → (T a).2.1 ≠ (T b).2.1) (he : w[q0]? = some (a, .inr (ci, fs))) (hc : vwCl[ci]? = some (C, T, N)) (k : Nat) (hk : k < N) (hlink : (Cond.fieldLinkNest own idx (T k).1 (T k).2.1 (T k).2.2.1 host).before args s = true) (hfin : (T k).2.2.2 = false) {v : Value} {w' : va_W} (hn : narrow (ty0 k) v = v) (hfit : fits (ty0 k) v = true) (hl0 : k < fs.length) (hw : w.set q0 (a, .inr (ci, fs.set k v)) = w') (d : decode cc pc = .ok (.putfield idx, 3)) (K : gk_C p l e R s m args below meth c nL D A Q cells slots w' lv (pc + 3) (st)) : gk_C p l e R s m args below meth c nL D A Q cells slots w lv (pc) (v :: .ref a :: st) :=
  fun H locs ls hP hD hS hl => va_putN (D := D) G.1 G.2.1 G.2.2.2.2.1 hin ty0 hty hnm G.2.2.2.1 G.2.2.2.2.2.1 hP hD hS q0 he hc k hk hlink (fun _ h9 => h9) hfin (hty k hk) hn hfit hl0 d (fun H1 locs1 hP hD hS => K H1 locs1 ls (hw ▸ hP) (hw ▸ hD) hS hl)
theorem gk_putF (G : gk_G p s m args meth c own nL cc ret Ts D tys A) {C : String} {T : u_T} {N ci idx q0 : Nat} {fs : List Value} {ty0 : Nat → FieldType} (hin : ∀ w ∈ u_ws C T N, w ∈ Ts) (hty : ∀ k, k < N → parseFieldDescriptor (T k).2.2.1 = some (ty0 k)) (hnm : ∀ a, a < N → ∀ b, b < N → a ≠ b → (T a).2.1 ≠ (T b).2.1) (he : w[q0]? = some (a, .inr (ci, fs))) (hc : vwCl[ci]? = some (C, T, N)) (k : Nat) (hk : k < N) (hlink : (Cond.fieldLink own idx (T k).1 (T k).2.1 (T k).2.2.1).before args s = true) (hfin : (T k).2.2.2 = true) (hin2 : meth.name = "<init>") (hdecl : (T k).1 = own) {v : Value} {w' : va_W} (hn : narrow (ty0 k) v = v) (hfit : fits (ty0 k) v = true) (hl0 : k < fs.length) (hw : w.set q0 (a, .inr (ci, fs.set k v)) = w') (d : decode cc pc = .ok (.putfield idx, 3)) (K : gk_C p l e R s m args below meth c nL D A Q cells slots w' lv (pc + 3) (st)) : gk_C p l e R s m args below meth c nL D A Q cells slots w lv (pc) (v :: .ref a :: st) :=
  fun H locs ls hP hD hS hl => va_putF (D := D) G.1 G.2.1 G.2.2.2.2.1 hin ty0 hty hnm G.2.2.2.1 G.2.2.2.2.2.1 hP hD hS q0 he hc k hk hlink (fun _ h9 => h9) hfin hin2 hdecl (hty k hk) hn hfit hl0 d (fun H1 locs1 hP hD hS => K H1 locs1 ls (hw ▸ hP) (hw ▸ hD) hS hl)
theorem gk_in {i : Int32} {j n : Nat} (hi : i = nI j) (hj : j < n) (hn : n < 2 ^ 31) : vp_in i n := by rw [hi]; exact vp_in_nI hj hn
theorem gk_cl {i : Int32} {j n : Nat} (hi : i = nI j) (hj : j < n) (hn : n < 2 ^ 31) : i.toNatClampNeg = j := by rw [hi]; exact nI_clamp (Nat.lt_trans hj hn)
theorem gk_iald (G : gk_G p s m args meth c own nL cc ret Ts D tys A) {q0 t0 : Nat} {cA : ClassId} {n : Nat} {f : Nat → Int32} (ha : w[q0]? = some (a, .inl (cA, n, .inl f))) (ht : tys[t0]? = some (cA, .int)) {i v : Int32} (j : Nat) (hi : i = nI j) (hj : j < n) (hn : n < 2 ^ 31) (hv : f j = v) (d : decode cc pc = .ok (.iaload, 1)) (K : gk_C p l e R s m args below meth c nL D A Q cells slots w lv (pc + 1) (.int v :: st)) : gk_C p l e R s m args below meth c nL D A Q cells slots w lv (pc) (.int i :: .ref a :: st) :=
  fun H locs ls hP hD hS hl => va_iald (D := D) G.1 G.2.1 G.2.2.2.2.2.1 hP q0 t0 ha ht (gk_in hi hj hn) d ((gk_cl hi hj hn).symm ▸ hv.symm ▸ (K H locs ls hP hD hS hl))
theorem gk_zald (G : gk_G p s m args meth c own nL cc ret Ts D tys A) {q0 t0 : Nat} {cA : ClassId} {n : Nat} {f : Nat → Int32} (ha : w[q0]? = some (a, .inl (cA, n, .inl f))) (ht : tys[t0]? = some (cA, .boolean)) {i v : Int32} (j : Nat) (hi : i = nI j) (hj : j < n) (hn : n < 2 ^ 31) (hv : f j = v) (d : decode cc pc = .ok (.baload, 1)) (K : gk_C p l e R s m args below meth c nL D A Q cells slots w lv (pc + 1) (.int v :: st)) : gk_C p l e R s m args below meth c nL D A Q cells slots w lv (pc) (.int i :: .ref a :: st) :=
  fun H locs ls hP hD hS hl => va_zald (D := D) G.1 G.2.1 G.2.2.2.2.2.1 hP q0 t0 ha ht (gk_in hi hj hn) d ((gk_cl hi hj hn).symm ▸ hv.symm ▸ (K H locs ls hP hD hS hl))
theorem gk_iast (G : gk_G p s m args meth c own nL cc ret Ts D tys A) {q0 t0 : Nat} {cA : ClassId} {n : Nat} {f : Nat → Int32} (ha : w[q0]? = some (a, .inl (cA, n, .inl f))) (ht : tys[t0]? = some (cA, .int)) {i x : Int32} (j : Nat) (hi : i = nI j) (hj : j < n) (hn : n < 2 ^ 31) {w' : va_W} (hw : w.set q0 (a, .inl (cA, n, .inl (upd f j x))) = w') (d : decode cc pc = .ok (.iastore, 1)) (K : gk_C p l e R s m args below meth c nL D A Q cells slots w' lv (pc + 1) (st)) : gk_C p l e R s m args below meth c nL D A Q cells slots w lv (pc) (.int x :: .int i :: .ref a :: st) :=
  fun H locs ls hP hD hS hl => by
  subst hi
  have hcl := nI_clamp (Nat.lt_trans hj hn)
  refine va_iast (D := D) G.1 G.2.1 G.2.2.2.2.2.1 hP hD hS q0 t0 ha ht (vp_in_nI hj hn) d (fun H1 locs1 hP hD hS => ?_)
  rw [hcl, hw] at hP hD
  exact K H1 locs1 ls hP hD hS hl
theorem gk_zast (G : gk_G p s m args meth c own nL cc ret Ts D tys A) {q0 t0 : Nat} {cA : ClassId} {n : Nat} {f : Nat → Int32} (ha : w[q0]? = some (a, .inl (cA, n, .inl f))) (ht : tys[t0]? = some (cA, .boolean)) {i x : Int32} (j : Nat) (hi : i = nI j) (hj : j < n) (hn : n < 2 ^ 31) (hx : x = 0 ∨ x = 1) {w' : va_W} (hw : w.set q0 (a, .inl (cA, n, .inl (upd f j x))) = w') (d : decode cc pc = .ok (.bastore, 1)) (K : gk_C p l e R s m args below meth c nL D A Q cells slots w' lv (pc + 1) (st)) : gk_C p l e R s m args below meth c nL D A Q cells slots w lv (pc) (.int x :: .int i :: .ref a :: st) :=
  fun H locs ls hP hD hS hl => by
  subst hi
  have hcl := nI_clamp (Nat.lt_trans hj hn)
  have hb9 : vp_nar .boolean x = x := by rcases hx with rfl | rfl <;> rfl
  refine va_zast (D := D) G.1 G.2.1 G.2.2.2.2.2.1 hP hD hS q0 t0 ha ht (vp_in_nI hj hn) d (fun H1 locs1 hP hD hS => ?_)
  rw [hcl, hb9, hw] at hP hD
  exact K H1 locs1 ls hP hD hS hl
theorem gk_alen (G : gk_G p s m args meth c own nL cc ret Ts D tys A) {q0 t0 : Nat} {cA : ClassId} {x : vp_A} (ha : w[q0]? = some (a, .inl (cA, x))) {ty : FieldType} (ht : tys[t0]? = some (cA, ty)) {v : Int32} (hv : Int32.ofNat x.1 = v) (d : decode cc pc = .ok (.arraylength, 1)) (K : gk_C p l e R s m args below meth c nL D A Q cells slots w lv (pc + 1) (.int v :: st)) : gk_C p l e R s m args below meth c nL D A Q cells slots w lv (pc) (.ref a :: st) :=
  fun H locs ls hP hD hS hl => va_alen (D := D) G.1 G.2.1 G.2.2.2.2.2.1 hP q0 t0 ha ht hv d (K H locs ls hP hD hS hl)
theorem gk_mmin (G : gk_G p s m args meth c own nL cc ret Ts D tys A) {idx : Nat} (hl1 : (Cond.methodLink own idx Lib.Math.min.name).before args s = true) (hl2 : (Cond.static Lib.Math.min.name).before args s = true) (hl3 : (Cond.initialized "java/lang/Math").before args s = true) (hl4 : (Cond.code Lib.Math.min.name Lib.Math.min.code 2 (some .int)).before args s = true) (hfr : 1 ≤ R.frames) (hlo : (st.map fun v => v.category).sum + 13 ≤ R.locals) (hc : cells ≤ R.cells) (hs : slots ≤ R.slots) {x y v : Int32} (hv : (if y < x then y else x) = v) (d : decode cc pc = .ok (.invokestatic idx, 3)) (K : gk_C p l e R s m args below meth c nL D A Q cells slots w lv (pc + 3) (.int v :: st)) : gk_C p l e R s m args below meth c nL D A Q cells slots w lv (pc) (.int y :: .int x :: st) :=
  fun H locs ls hP hD hS hl => va_mmin G.1 G.2.1 (G.2.2.1.trans hl.1.symm) G.2.2.2.1 hl1 hl2 hl3 hl4 hfr hlo hc hs d (hv ▸ (K H locs ls hP hD hS hl))
theorem gk_mmax (G : gk_G p s m args meth c own nL cc ret Ts D tys A) {idx : Nat} (hl1 : (Cond.methodLink own idx Lib.Math.max.name).before args s = true) (hl2 : (Cond.static Lib.Math.max.name).before args s = true) (hl3 : (Cond.initialized "java/lang/Math").before args s = true) (hl4 : (Cond.code Lib.Math.max.name Lib.Math.max.code 2 (some .int)).before args s = true) (hfr : 1 ≤ R.frames) (hlo : (st.map fun v => v.category).sum + 13 ≤ R.locals) (hc : cells ≤ R.cells) (hs : slots ≤ R.slots) {x y v : Int32} (hv : (if x < y then y else x) = v) (d : decode cc pc = .ok (.invokestatic idx, 3)) (K : gk_C p l e R s m args below meth c nL D A Q cells slots w lv (pc + 3) (.int v :: st)) : gk_C p l e R s m args below meth c nL D A Q cells slots w lv (pc) (.int y :: .int x :: st) :=
  fun H locs ls hP hD hS hl => va_mmax G.1 G.2.1 (G.2.2.1.trans hl.1.symm) G.2.2.2.1 hl1 hl2 hl3 hl4 hfr hlo hc hs d (hv ▸ (K H locs ls hP hD hS hl))
theorem gk_ra {U : State} {cA cB : ClassId} {ty : FieldType} (h1 : va_RA U cA ty) (h2 : va_RA U cB ty) (hty : ∀ C : String, ty ≠ .object C) : cA = cB := by
  cases ty with
  | object C => exact absurd rfl (hty C)
  | _ => exact Option.some.inj (Eq.trans (Eq.symm h1) h2)
theorem gk_newa (G : gk_G p s m args meth c own nL cc ret Ts D tys A) {atype : ArrayType} {ty : FieldType} {cI : ClassId} {n : Int32} {N : Nat} {a0 : vp_A} (harr : (Cond.arrayClass (newarray.typeOf atype)).before args s = true) (hty : newarray.typeOf atype = ty) (hob : ∀ C : String, ty ≠ .object C) (t0 : Nat) (ht : tys[t0]? = some (cI, ty)) (ha : ∀ cA : ClassId, vp_cell cA a0 = arrV cA N (fun _ => defaultValue ty)) (hn : n = nI N) (hN : N < 2 ^ 31) (hbytes : N * componentBytes ty ≤ 536870912) (hcells : cells + 1 ≤ R.cells) (hslots : slots + N ≤ R.slots) (d : decode cc pc = .ok (.newarray atype, 2))
    (K : ∀ q : Nat, gk_C p l e R s m args below meth c nL D A Q (cells + 1) (slots + N) (w ++ [(q, .inl (cI, a0))]) lv (pc + 2) (.ref q :: st)) : gk_C p l e R s m args below meth c nL D A Q cells slots w lv (pc) (.int n :: st) := by
  intro H locs ls hP hD hS hl
  subst hn
  refine va_newa G.1 G.2.1 harr hty G.2.2.2.2.2.1 hP hD hS G.2.2.2.2.2.2.1 ha (nI_pos hN) (nI_clamp hN) hbytes hcells hslots d (fun q cA H1 hK1 hP1 hD1 hS1 => ?_)
  have e : cA = cI := gk_ra (hK1.2 tys.length (cA, ty) (by simp)).2 (G.2.2.2.2.2.1.2 t0 _ ht).2 hob
  subst e
  exact K q H1 locs ls hP1 hD1 hS1 hl
theorem gk_acopy (G : gk_G p s m args meth c own nL cc ret Ts D tys A) {idx : Nat} (hl1 : (Cond.methodLink own idx arraycopyName).before args s = true) (hnat : (Cond.native arraycopyName).before args s = true) (hstat : (Cond.static arraycopyName).before args s = true) (hini : (Cond.initialized "java/lang/System").before args s = true) {q0 q1 t0 a0 : Nat} {c0 : ClassId} {n0 n1 : Nat} {f g : Nat → Int32} (ha0 : w[q0]? = some (a0, .inl (c0, n0, .inl f))) (ha1 : w[q1]? = some (a, .inl (c0, n1, .inl g))) (ht0 : tys[t0]? = some (c0, .int)) (N : Nat) (h0 : N ≤ n0) (h1 : N ≤ n1) (h31 : N < 2 ^ 31) (hfr : 1 ≤ R.frames) (hlo : (st.map fun v => v.category).sum + (nativeFrameWords "java/lang/System" "arraycopy" 5 + 11) ≤ R.locals) {w' : va_W} (hw : w.set q1 (a, .inl (c0, n1, .inl (va_cpy f g 0 0 N))) = w') (d : decode cc pc = .ok (.invokestatic idx, 3)) (K : gk_C p l e R s m args below meth c nL D A Q cells slots w' lv (pc + 3) (st)) : gk_C p l e R s m args below meth c nL D A Q cells slots w lv (pc) (.int (nI N) :: .int (nI 0) :: .ref a :: .int (nI 0) :: .ref a0 :: st) := by
  intro H locs ls hP hD hS hl
  have z0 : (nI 0).toNatClampNeg = 0 := nI_clamp (by decide)
  have zN : (nI N).toNatClampNeg = N := nI_clamp h31
  refine va_copyi G.1 G.2.1 (G.2.2.1.trans hl.1.symm) G.2.2.2.1 hl1 hnat hstat hini G.2.2.2.2.2.1 hP hD hS q0 q1 t0 t0 ha0 ha1 ht0 ht0 rfl (nI_pos (by decide)) (nI_pos (by decide)) (nI_pos h31) (by rw [z0, zN]; omega) (by rw [z0, zN]; omega) (fun i _ => rfl) hfr hlo d (fun H1 locs1 hP hD hS => ?_)
  rw [z0, zN, hw] at hP hD
  exact K H1 locs1 ls hP hD hS hl
theorem gk_objInit (G : gk_G p s m args meth c own nL cc ret Ts D tys A) {idx : Nat} (h1 : (Cond.methodLink own idx Lib.objectInit).before args s = true) (h2 : (Cond.instanceMethod Lib.objectInit).before args s = true) (h3 : (Cond.code Lib.objectInit ⟨#[0xb1]⟩ 1 none).before args s = true) (hfr : 1 ≤ R.frames) (hlo : (st.map fun v => v.category).sum + 12 ≤ R.locals) (d : decode cc pc = .ok (.invokespecial idx, 3)) (K : gk_C p l e R s m args below meth c nL D A Q cells slots w lv (pc + 3) (st)) : gk_C p l e R s m args below meth c nL D A Q cells slots w lv (pc) (.ref a :: st) :=
  fun H locs ls hP hD hS hl => W.objInit G.1 G.2.1 G.2.2.2.1 h1 h2 h3 rfl (hl.1.trans G.2.2.1.symm) rfl d hfr (by show 2 * 0 + _ + 12 ≤ _; omega) (K H locs ls hP hD hS hl)
end GK
section GM
variable {l : Launch} {y : MethodName} {ws ws' : List Cond} {rm : Room} {D : va_G} {tys : List (ClassId × FieldType)} {E : (Nat → Prop) → State → Heap → Prop} {av : List Value} {w : va_W} {mc ms : Nat} {S : Type}
def gk_Pre (D : va_G) (tys : List (ClassId × FieldType)) (E : (Nat → Prop) → State → Heap → Prop) (w : va_W) (sz : Nat) : State → Prop := fun U => U.heap.size = sz ∧ va_P D vwCl w U.heap ∧ va_K D vwCl tys U ∧ va_D (fun _ => True) w ∧ E (va_A w sz) U U.heap
def gk_Post (D : va_G) (tys : List (ClassId × FieldType)) (A : Nat → Prop) (w : va_W) (t : State) : Prop := va_P D vwCl w t.heap ∧ va_K D vwCl tys t ∧ va_D A w
/-- what a method knows of the launch besides its world: kept by moves, by narrower regions and by writes inside the region -/
def gk_Ok (E : (Nat → Prop) → State → Heap → Prop) : Prop := ∀ (A B : Nat → Prop) (u U : State) (H H1 : Heap), u.vm.Alike U.vm → u.WarmedH U.vm ∨ U.vm = u.vm → (∀ q, q < H.size → B q → A q) → H.size ≤ H1.size → (∀ q : Nat, q < H.size → ¬ A q → H1[q]? = H[q]?) → E A u H → E B U H1
abbrev gk_E0 : (Nat → Prop) → State → Heap → Prop := fun _ _ _ => True
theorem gk_ok0 : gk_Ok gk_E0 := fun _ _ _ _ _ _ _ _ _ _ _ _ => trivial

def gk_I (l : Launch) (y : MethodName) (ws : List Cond) (rm : Room) (D : va_G) (tys : List (ClassId × FieldType)) (E : (Nat → Prop) → State → Heap → Prop) (av : List Value) (w : va_W) (mc ms : Nat) {S : Type} (post : Int32 → S → Prop) (wo : S → va_W) : Prop :=
  ∀ sz : Nat, Met l y ws rm (va_Pc av (gk_Pre D tys E w sz)) (va_Qi post (fun u t => gk_Post D tys (va_A w sz) (wo u) t) (va_A w sz)) mc ms (va_A w sz)
def gk_L (l : Launch) (y : MethodName) (ws : List Cond) (rm : Room) (D : va_G) (tys : List (ClassId × FieldType)) (E : (Nat → Prop) → State → Heap → Prop) (av : List Value) (w : va_W) (mc ms : Nat) {S : Type} (post : Int64 → S → Prop) (wo : S → va_W) : Prop :=
  ∀ sz : Nat, Met l y ws rm (va_Pc av (gk_Pre D tys E w sz)) (va_Ql post (fun u t => gk_Post D tys (va_A w sz) (wo u) t) (va_A w sz)) mc ms (va_A w sz)
def gk_V (l : Launch) (y : MethodName) (ws : List Cond) (rm : Room) (D : va_G) (tys : List (ClassId × FieldType)) (E : (Nat → Prop) → State → Heap → Prop) (av : List Value) (w : va_W) (mc ms : Nat) {S : Type} (post : S → Prop) (wo : S → va_W) : Prop :=
  ∀ sz : Nat, Met l y ws rm (va_Pc av (gk_Pre D tys E w sz)) (va_Qv post (fun u t => gk_Post D tys (va_A w sz) (wo u) t) (va_A w sz)) mc ms (va_A w sz)
end GM
section GR
variable {p : Program} {l : Launch} {e : Env} {R : Room} {s : State} {m : MethodId} {args : Array Value} {below : List Frame} {meth : Method} {c : Code}
variable {own : String} {nL : Nat} {cc : ByteArray} {Ts : List Cond} {D : va_G} {tys tys0 : List (ClassId × FieldType)} {A : Nat → Prop} {cells slots pc mc ms : Nat} {Q : State → Prop} {w : va_W} {lv : List (Nat × Value)} {st : List Value} {a : Nat} {ret : Option FieldType} {S : Type}

theorem gk_retI {ty : FieldType} (G : gk_G p s m args meth c own nL cc (some ty) Ts D tys A) {post : Int32 → S → Prop} {wo : S → va_W} {v : Int32} (hn : narrow ty (.int v) = .int v) (d : decode cc pc = .ok (.ireturn, 1)) (u : S) (hp : post v u) (is : List Nat) (hs : is.map (fun i => w[i]?) = (wo u).map some) (hnd : va_nd is = true) (hc : cells ≤ mc) (hsl : slots ≤ ms) :
    gk_C p l e R s m args below meth c nL D A (MQ below (va_Qi post (fun u t => gk_Post D tys A (wo u) t) A) args s mc ms A) cells slots w lv pc (.int v :: []) :=
  fun H locs ls hP hD hS hl => W.widen hc hsl (W.zret G.1 G.2.1 G.2.2.2.2.2.2.2.1 hn (fun t ht hW => ⟨⟨v, u, rfl, hp, by rw [ht]; exact hP.sub is (gk_fm is hs), va_K.moved hW.alike G.2.2.2.2.2.1, hD.sub is hnd hs⟩, hS.F ht⟩) hS.2.2 d G.2.2.2.2.2.2.2.2)
theorem gk_retIw {ty : FieldType} (G : gk_G p s m args meth c own nL cc (some ty) Ts D tys A) {post : Int32 → S → Prop} {wo : S → va_W} {v : Int32} (hn : narrow ty (.int v) = .int v) (d : decode cc pc = .ok (.ireturn, 1)) (u : S) (hp : post v u) (hs : w = wo u) (hc : cells ≤ mc) (hsl : slots ≤ ms) :
    gk_C p l e R s m args below meth c nL D A (MQ below (va_Qi post (fun u t => gk_Post D tys A (wo u) t) A) args s mc ms A) cells slots w lv pc (.int v :: []) :=
  fun H locs ls hP hD hS hl => W.widen hc hsl (W.zret G.1 G.2.1 G.2.2.2.2.2.2.2.1 hn (fun t ht hW => ⟨⟨v, u, rfl, hp, by rw [ht]; exact hs ▸ hP, va_K.moved hW.alike G.2.2.2.2.2.1, hs ▸ hD⟩, hS.F ht⟩) hS.2.2 d G.2.2.2.2.2.2.2.2)
theorem gk_retL (G : gk_G p s m args meth c own nL cc (some .long) Ts D tys A) {post : Int64 → S → Prop} {wo : S → va_W} {v : Int64} (d : decode cc pc = .ok (.lreturn, 1)) (u : S) (hp : post v u) (is : List Nat) (hs : is.map (fun i => w[i]?) = (wo u).map some) (hnd : va_nd is = true) (hc : cells ≤ mc) (hsl : slots ≤ ms) :
    gk_C p l e R s m args below meth c nL D A (MQ below (va_Ql post (fun u t => gk_Post D tys A (wo u) t) A) args s mc ms A) cells slots w lv pc (.long v :: []) :=
  fun H locs ls hP hD hS hl => W.widen hc hsl (W.lret G.1 G.2.1 G.2.2.2.2.2.2.2.1 (fun t ht hW => ⟨⟨v, u, rfl, hp, by rw [ht]; exact hP.sub is (gk_fm is hs), va_K.moved hW.alike G.2.2.2.2.2.1, hD.sub is hnd hs⟩, hS.F ht⟩) hS.2.2 d G.2.2.2.2.2.2.2.2)
theorem gk_retLw (G : gk_G p s m args meth c own nL cc (some .long) Ts D tys A) {post : Int64 → S → Prop} {wo : S → va_W} {v : Int64} (d : decode cc pc = .ok (.lreturn, 1)) (u : S) (hp : post v u) (hs : w = wo u) (hc : cells ≤ mc) (hsl : slots ≤ ms) :
    gk_C p l e R s m args below meth c nL D A (MQ below (va_Ql post (fun u t => gk_Post D tys A (wo u) t) A) args s mc ms A) cells slots w lv pc (.long v :: []) :=
  fun H locs ls hP hD hS hl => W.widen hc hsl (W.lret G.1 G.2.1 G.2.2.2.2.2.2.2.1 (fun t ht hW => ⟨⟨v, u, rfl, hp, by rw [ht]; exact hs ▸ hP, va_K.moved hW.alike G.2.2.2.2.2.1, hs ▸ hD⟩, hS.F ht⟩) hS.2.2 d G.2.2.2.2.2.2.2.2)
theorem gk_retV (G : gk_G p s m args meth c own nL cc (none) Ts D tys A) {post : S → Prop} {wo : S → va_W} (d : decode cc pc = .ok (.return_, 1)) (u : S) (hp : post u) (is : List Nat) (hs : is.map (fun i => w[i]?) = (wo u).map some) (hnd : va_nd is = true) (hc : cells ≤ mc) (hsl : slots ≤ ms) :
    gk_C p l e R s m args below meth c nL D A (MQ below (va_Qv post (fun u t => gk_Post D tys A (wo u) t) A) args s mc ms A) cells slots w lv pc ([]) :=
  fun H locs ls hP hD hS hl => W.widen hc hsl (W.vret G.1 G.2.1 G.2.2.2.2.2.2.2.1 (fun t ht hW => ⟨⟨u, rfl, hp, by rw [ht]; exact hP.sub is (gk_fm is hs), va_K.moved hW.alike G.2.2.2.2.2.1, hD.sub is hnd hs⟩, hS.F ht⟩) hS.2.2 d G.2.2.2.2.2.2.2.2)
theorem gk_retVw (G : gk_G p s m args meth c own nL cc (none) Ts D tys A) {post : S → Prop} {wo : S → va_W} (d : decode cc pc = .ok (.return_, 1)) (u : S) (hp : post u) (hs : w = wo u) (hc : cells ≤ mc) (hsl : slots ≤ ms) :
    gk_C p l e R s m args below meth c nL D A (MQ below (va_Qv post (fun u t => gk_Post D tys A (wo u) t) A) args s mc ms A) cells slots w lv pc ([]) :=
  fun H locs ls hP hD hS hl => W.widen hc hsl (W.vret G.1 G.2.1 G.2.2.2.2.2.2.2.1 (fun t ht hW => ⟨⟨u, rfl, hp, by rw [ht]; exact hs ▸ hP, va_K.moved hW.alike G.2.2.2.2.2.1, hs ▸ hD⟩, hS.F ht⟩) hS.2.2 d G.2.2.2.2.2.2.2.2)
end GR
section GM2
variable {l : Launch} {y : MethodName} {ws ws' : List Cond} {rm : Room} {D : va_G} {tys : List (ClassId × FieldType)} {E : (Nat → Prop) → State → Heap → Prop} {av : List Value} {w : va_W} {mc ms : Nat} {S : Type}
theorem gk_I_of {post : Int32 → S → Prop} {wo : S → va_W} {ty : FieldType} {cc : ByteArray} {nL : Nat} (hy : plainName y.cls = true) (hw : ws = Cond.code y cc nL (some ty) :: ws') (hav : (lg_sl av).length ≤ nL)
    (body : ∀ (p : Program) (e : Env) (s : State) (m : MethodId) (below : List Frame) (meth : Method) (c : Code) (A : Nat → Prop) (Q : State → Prop), meth.name = y.name → E A s s.heap → gk_G p s m av.toArray meth c y.cls nL cc (some ty) ws D tys A →
      (∀ (cells slots : Nat) (w : va_W) (lv : List (Nat × Value)) (pc : Nat) (v : Int32) (u : S), decode cc pc = .ok (.ireturn, 1) → narrow ty (.int v) = .int v → post v u → w = wo u → cells ≤ mc → slots ≤ ms → gk_C p l e rm s m av.toArray below meth c nL D A Q cells slots w lv pc [.int v]) →
      gk_C p l e rm s m av.toArray below meth c nL D A Q 0 0 w (lv_args 0 av) 0 []) : gk_I l y ws rm D tys E av w mc ms post wo := by
  intro sz
  refine Met.ofW (cc := cc) (maxL := nL) (ret := some ty) hy hw ?_
  intro p e s m args below meth c s₁ B hml hv
  obtain ⟨rfl, hsz, hP, hK, hD0, hE⟩ := hv
  have hD := hD0.self (sz := sz)
  rw [lg_entry_eq]
  have G : gk_G p s m av.toArray meth c y.cls nL cc (some ty) ws D tys (va_A w sz) := ⟨B.exec, B.bytes, hml, findClass_of_methodNamed B.named, atoms_spec (ws := ws) B.pre, hK, fun q h => Or.inr (by rw [← hsz]; exact h), B.returns, B.notSynchronized⟩
  exact body p e s m below meth c (va_A w sz) _ (name_of_methodNamed B.named B.method).1 hE G
    (fun cells slots w lv pc v u d hn hp hs hc hsl => gk_retIw G hn d u hp hs hc hsl) s.heap [] _ hP hD va_S.rf (lv_entry av hav)
theorem gk_L_of {post : Int64 → S → Prop} {wo : S → va_W} {cc : ByteArray} {nL : Nat} (hy : plainName y.cls = true) (hw : ws = Cond.code y cc nL (some .long) :: ws') (hav : (lg_sl av).length ≤ nL)
    (body : ∀ (p : Program) (e : Env) (s : State) (m : MethodId) (below : List Frame) (meth : Method) (c : Code) (A : Nat → Prop) (Q : State → Prop), meth.name = y.name → E A s s.heap → gk_G p s m av.toArray meth c y.cls nL cc (some .long) ws D tys A →
      (∀ (cells slots : Nat) (w : va_W) (lv : List (Nat × Value)) (pc : Nat) (v : Int64) (u : S), decode cc pc = .ok (.lreturn, 1) → post v u → w = wo u → cells ≤ mc → slots ≤ ms → gk_C p l e rm s m av.toArray below meth c nL D A Q cells slots w lv pc [.long v]) →
      gk_C p l e rm s m av.toArray below meth c nL D A Q 0 0 w (lv_args 0 av) 0 []) : gk_L l y ws rm D tys E av w mc ms post wo := by
  intro sz
  refine Met.ofW (cc := cc) (maxL := nL) (ret := some .long) hy hw ?_
  intro p e s m args below meth c s₁ B hml hv
  obtain ⟨rfl, hsz, hP, hK, hD0, hE⟩ := hv
  have hD := hD0.self (sz := sz)
  rw [lg_entry_eq]
  have G : gk_G p s m av.toArray meth c y.cls nL cc (some .long) ws D tys (va_A w sz) := ⟨B.exec, B.bytes, hml, findClass_of_methodNamed B.named, atoms_spec (ws := ws) B.pre, hK, fun q h => Or.inr (by rw [← hsz]; exact h), B.returns, B.notSynchronized⟩
  exact body p e s m below meth c (va_A w sz) _ (name_of_methodNamed B.named B.method).1 hE G
    (fun cells slots w lv pc v u d hp hs hc hsl => gk_retLw G d u hp hs hc hsl) s.heap [] _ hP hD va_S.rf (lv_entry av hav)
theorem gk_V_of {post : S → Prop} {wo : S → va_W} {cc : ByteArray} {nL : Nat} (hy : plainName y.cls = true) (hw : ws = Cond.code y cc nL (none) :: ws') (hav : (lg_sl av).length ≤ nL)
    (body : ∀ (p : Program) (e : Env) (s : State) (m : MethodId) (below : List Frame) (meth : Method) (c : Code) (A : Nat → Prop) (Q : State → Prop), meth.name = y.name → E A s s.heap → gk_G p s m av.toArray meth c y.cls nL cc (none) ws D tys A →
      (∀ (cells slots : Nat) (w : va_W) (lv : List (Nat × Value)) (pc : Nat) (u : S), decode cc pc = .ok (.return_, 1) → post u → w = wo u → cells ≤ mc → slots ≤ ms → gk_C p l e rm s m av.toArray below meth c nL D A Q cells slots w lv pc []) →
      gk_C p l e rm s m av.toArray below meth c nL D A Q 0 0 w (lv_args 0 av) 0 []) : gk_V l y ws rm D tys E av w mc ms post wo := by
  intro sz
  refine Met.ofW (cc := cc) (maxL := nL) (ret := none) hy hw ?_
  intro p e s m args below meth c s₁ B hml hv
  obtain ⟨rfl, hsz, hP, hK, hD0, hE⟩ := hv
  have hD := hD0.self (sz := sz)
  rw [lg_entry_eq]
  have G : gk_G p s m av.toArray meth c y.cls nL cc (none) ws D tys (va_A w sz) := ⟨B.exec, B.bytes, hml, findClass_of_methodNamed B.named, atoms_spec (ws := ws) B.pre, hK, fun q h => Or.inr (by rw [← hsz]; exact h), B.returns, B.notSynchronized⟩
  exact body p e s m below meth c (va_A w sz) _ (name_of_methodNamed B.named B.method).1 hE G
    (fun cells slots w lv pc  u d hp hs hc hsl => gk_retVw G d u hp hs hc hsl) s.heap [] _ hP hD va_S.rf (lv_entry av hav)
theorem gk_ofWF {Pc : Array Value → State → Prop} {Qc : Array Value → State → Outcome → State → Prop} {free : Addr → Prop} {cc : ByteArray} {maxL : Nat} {ret : Option FieldType}
    (hy : plainFor y = true) (hw : ws = Cond.code y cc maxL ret :: ws')
    (body : ∀ p e s m args below meth c s₁, BodyLoose p l y (headSpec ws rm) cc maxL ret e s m args below meth c s₁ → c.maxLocals = maxL → Pc args s →
      W p l e (headSpec ws rm).room s m args below meth c s.heap [] 0 0 (MQ below Qc args s mc ms free) (entryFrame m args maxL)) : Met l y ws rm Pc Qc mc ms free := by
  refine MetFree.of_bodySF (code := cc) (maxLocals := maxL) (ret := ret) hy ?_ ?_
  · intro args s m h hn
    obtain ⟨meth, c, h1, h2, h3, h4, h5, h6, -, -⟩ := Cond.code_spec hn (atoms_spec (ws := ws) h _ (by rw [hw]; exact List.mem_cons_self))
    exact ⟨meth, c, h1, h2, h3, h4, h5, h6⟩
  · intro p e s m args below meth c s₁ B hml hP _
    have hh0 : s₁.heap = s.heap := by rw [B.state]; rfl
    obtain ⟨t, a1, o, b1, b2, b3⟩ := body p e s m args below meth c s₁ B hml hP s₁ hh0 (Stand.of_body B)
    exact ⟨t, o, a1, b1, b2, ⟨b3.1, b3.2⟩⟩
theorem gk_IF_of {post : Int32 → S → Prop} {wo : S → va_W} {ty : FieldType} {cc : ByteArray} {nL : Nat} (hy : plainFor y = true) (hw : ws = Cond.code y cc nL (some ty) :: ws') (hav : (lg_sl av).length ≤ nL)
    (body : ∀ (p : Program) (e : Env) (s : State) (m : MethodId) (below : List Frame) (meth : Method) (c : Code) (A : Nat → Prop) (Q : State → Prop), meth.name = y.name → E A s s.heap → gk_G p s m av.toArray meth c y.cls nL cc (some ty) ws D tys A →
      (∀ (cells slots : Nat) (w : va_W) (lv : List (Nat × Value)) (pc : Nat) (v : Int32) (u : S), decode cc pc = .ok (.ireturn, 1) → narrow ty (.int v) = .int v → post v u → w = wo u → cells ≤ mc → slots ≤ ms → gk_C p l e rm s m av.toArray below meth c nL D A Q cells slots w lv pc [.int v]) →
      gk_C p l e rm s m av.toArray below meth c nL D A Q 0 0 w (lv_args 0 av) 0 []) : gk_I l y ws rm D tys E av w mc ms post wo := by
  intro sz
  refine gk_ofWF (cc := cc) (maxL := nL) (ret := some ty) hy hw ?_
  intro p e s m args below meth c s₁ B hml hv
  obtain ⟨rfl, hsz, hP, hK, hD0, hE⟩ := hv
  have hD := hD0.self (sz := sz)
  rw [lg_entry_eq]
  have G : gk_G p s m av.toArray meth c y.cls nL cc (some ty) ws D tys (va_A w sz) := ⟨B.exec, B.bytes, hml, findClass_of_methodNamed B.named, atoms_spec (ws := ws) B.pre, hK, fun q h => Or.inr (by rw [← hsz]; exact h), B.returns, B.notSynchronized⟩
  exact body p e s m below meth c (va_A w sz) _ (name_of_methodNamed B.named B.method).1 hE G
    (fun cells slots w lv pc v u d hn hp hs hc hsl => gk_retIw G hn d u hp hs hc hsl) s.heap [] _ hP hD va_S.rf (lv_entry av hav)
end GM2
section GS
variable {p : Program} {l : Launch} {e : Env} {R : Room} {s : State} {m : MethodId} {args : Array Value} {below : List Frame} {meth : Method} {c : Code}
variable {own : String} {nL : Nat} {cc : ByteArray} {Ts : List Cond} {D : va_G} {tys tys0 : List (ClassId × FieldType)} {A : Nat → Prop} {cells slots pc mc ms : Nat} {Q : State → Prop} {w : va_W} {lv : List (Nat × Value)} {st : List Value} {a : Nat} {ret : Option FieldType} {S : Type}

theorem gk_callIV (G : gk_G p s m args meth c own nL cc ret Ts D tys A) {post : Int32 → S → Prop} {wo : S → va_W} {y : MethodName} {bytes : ByteArray} {maxL idx mc1 ms1 : Nat} {b : Nat}  {rt : Option FieldType} {C : String} {ws ws' : List Cond} {rm : Room} {As : List Value} {wc wr : va_W} {E : (Nat → Prop) → State → Heap → Prop} {st0 : List Value}
    (hM : gk_I l y ws rm D tys E (.ref b :: As) wc mc1 ms1 post wo) (hT : GoodIn Ts (wsV own idx C y ws)) (hw : ws = Cond.code y bytes maxL rt :: ws') (n : Nat) (hd : y.cls = C ∧ y.cls ≠ "java/lang/invoke/MethodHandle" ∧ y.cls ≠ "java/lang/invoke/VarHandle" ∧ (parseMethodDescriptor y.desc).map (fun d => d.parameters.length) = some n) (hrc : rm.cells = mc1) (hrs : rm.slots = ms1) (hR : rm.frames + 1 ≤ R.frames ∧ 8 + (maxL + 11) + rm.locals ≤ R.locals) (hn : As.length = n) {ci q0 : Nat} {fs : List Value} (hrecv : wc[q0]? = some (b, .inr (ci, fs))) {T : u_T} {N : Nat} (hcl : vwCl[ci]? = some (C, T, N)) 
    (hE : gk_Ok E) (hE1 : E A s s.heap) (isC : List Nat) (hC : isC.map (fun i => w[i]?) = wc.map some) (hnC : va_nd isC = true) (isR : List Nat) (hR2 : isR.map (fun i => w[i]?) = wr.map some) (hnR : va_nd isR = true) (hdis : ∀ i ∈ isR, i ∉ isC) (hst : st0 = As.reverse ++ .ref b :: st) (hroom : (st.map fun v => v.category).sum ≤ 8) (d : decode cc pc = .ok (.invokevirtual idx, 3)) (hcs : cells + mc1 ≤ R.cells ∧ slots + ms1 ≤ R.slots)
    (K : ∀ (r : Int32) (u : S), post r u → gk_C p l e R s m args below meth c nL D A Q (cells + mc1) (slots + ms1) (wr ++ wo u) lv (pc + 3) (.int r :: st)) : gk_C p l e R s m args below meth c nL D A Q cells slots w lv pc st0 := by
  intro H locs ls hP hD hS hl
  have hPc : va_P D vwCl wc H := hP.sub isC (gk_fm isC hC)
  have hDc : va_D A wc := hD.sub isC hnC hC
  have hF := va_free hD hS G.2.2.2.2.2.2.1 isC hC
  refine va_calli (va_runV (As := As) (rest := st) ⟨G.1, G.2.1, G.2.2.1, G.2.2.2.1, G.2.2.2.2.1⟩ (hM H.size) (cwV n G.2.2.2.2.1 hT hw hrc hrs hd hR) ⟨fun a U g mk q => ?_, va_recv G.2.2.2.2.2.1 hPc hcl hrecv, fun U hU hW => ⟨rfl, by rw [hU], by rw [hU]; exact hPc, va_K.moved hW.alike G.2.2.2.2.2.1, hDc.weaken (fun _ _ _ _ => trivial), ?_⟩⟩ rfl hn hl.1 hst (lv_room hroom) d hcs) hS (fun q _ h => hF q h) hF (fun r u t H1 locs1 ht hvm hw1 hB hz1 hk1 hS1 => ?_)
  · obtain ⟨q0, q1, qP, qK, qD, qE⟩ := q
    exact ⟨q0, q1, qP, va_K.moved (u := U) (U := U.calling g mk a) (Vm.Alike.refl U.vm) qK, qD, hE _ _ U (U.calling g mk a) _ _ (Vm.Alike.refl U.vm) (Or.inr rfl) (fun _ _ h => h) (Nat.le_refl _) (fun _ _ _ => rfl) qE⟩
  · exact hE A _ s U s.heap U.heap hW.alike (Or.inl hW) (fun q _ h => hF q h) (by rw [hU]; exact hS.1) (fun q h1 h2 => by rw [hU]; exact hS.2.1 q h1 h2) hE1
  · obtain ⟨hP1, hK1, hD1⟩ := hB
    rw [ht] at hP1
    obtain ⟨hP2, hD2⟩ := va_join hP hD isC isR hC hR2 hnR hdis hk1 hF hP1 hD1
    exact K r u hw1 H1 locs1 ls hP2 hD2 hS1 hl
theorem gk_callIS (G : gk_G p s m args meth c own nL cc ret Ts D tys A) {post : Int32 → S → Prop} {wo : S → va_W} {y : MethodName} {bytes : ByteArray} {maxL idx mc1 ms1 : Nat}  {rt : Option FieldType} {ws ws' : List Cond} {rm : Room} {As : List Value} {wc wr : va_W} {E : (Nat → Prop) → State → Heap → Prop} {st0 : List Value}
    (hM : gk_I l y ws rm D tys E As wc mc1 ms1 post wo) (hT : GoodIn Ts (va_wsS own idx y ws)) (hw : ws = Cond.code y bytes maxL rt :: ws') (n : Nat) (hd : y.cls ≠ "java/lang/invoke/MethodHandle" ∧ y.cls ≠ "java/lang/invoke/VarHandle" ∧ (parseMethodDescriptor y.desc).map (fun d => d.parameters.length) = some n) (hrc : rm.cells = mc1) (hrs : rm.slots = ms1) (hR : rm.frames + 1 ≤ R.frames ∧ 8 + (maxL + 11) + rm.locals ≤ R.locals) (hn : As.length = n) 
    (hE : gk_Ok E) (hE1 : E A s s.heap) (isC : List Nat) (hC : isC.map (fun i => w[i]?) = wc.map some) (hnC : va_nd isC = true) (isR : List Nat) (hR2 : isR.map (fun i => w[i]?) = wr.map some) (hnR : va_nd isR = true) (hdis : ∀ i ∈ isR, i ∉ isC) (hst : st0 = As.reverse ++ st) (hroom : (st.map fun v => v.category).sum ≤ 8) (d : decode cc pc = .ok (.invokestatic idx, 3)) (hcs : cells + mc1 ≤ R.cells ∧ slots + ms1 ≤ R.slots)
    (K : ∀ (r : Int32) (u : S), post r u → gk_C p l e R s m args below meth c nL D A Q (cells + mc1) (slots + ms1) (wr ++ wo u) lv (pc + 3) (.int r :: st)) : gk_C p l e R s m args below meth c nL D A Q cells slots w lv pc st0 := by
  intro H locs ls hP hD hS hl
  have hPc : va_P D vwCl wc H := hP.sub isC (gk_fm isC hC)
  have hDc : va_D A wc := hD.sub isC hnC hC
  have hF := va_free hD hS G.2.2.2.2.2.2.1 isC hC
  refine va_calli (va_runS (As := As) (rest := st) ⟨G.1, G.2.1, G.2.2.1, G.2.2.2.1, G.2.2.2.2.1⟩ (hM H.size) (va_cwS n G.2.2.2.2.1 hT hw hrc hrs hd hR) ⟨fun a U g mk q => ?_, fun U hU hW => ⟨rfl, by rw [hU], by rw [hU]; exact hPc, va_K.moved hW.alike G.2.2.2.2.2.1, hDc.weaken (fun _ _ _ _ => trivial), ?_⟩⟩ rfl hn hl.1 hst (lv_room hroom) d hcs) hS (fun q _ h => hF q h) hF (fun r u t H1 locs1 ht hvm hw1 hB hz1 hk1 hS1 => ?_)
  · obtain ⟨q0, q1, qP, qK, qD, qE⟩ := q
    exact ⟨q0, q1, qP, va_K.moved (u := U) (U := U.calling g mk a) (Vm.Alike.refl U.vm) qK, qD, hE _ _ U (U.calling g mk a) _ _ (Vm.Alike.refl U.vm) (Or.inr rfl) (fun _ _ h => h) (Nat.le_refl _) (fun _ _ _ => rfl) qE⟩
  · exact hE A _ s U s.heap U.heap hW.alike (Or.inl hW) (fun q _ h => hF q h) (by rw [hU]; exact hS.1) (fun q h1 h2 => by rw [hU]; exact hS.2.1 q h1 h2) hE1
  · obtain ⟨hP1, hK1, hD1⟩ := hB
    rw [ht] at hP1
    obtain ⟨hP2, hD2⟩ := va_join hP hD isC isR hC hR2 hnR hdis hk1 hF hP1 hD1
    exact K r u hw1 H1 locs1 ls hP2 hD2 hS1 hl
theorem gk_callLV (G : gk_G p s m args meth c own nL cc ret Ts D tys A) {post : Int64 → S → Prop} {wo : S → va_W} {y : MethodName} {bytes : ByteArray} {maxL idx mc1 ms1 : Nat} {b : Nat}  {rt : Option FieldType} {C : String} {ws ws' : List Cond} {rm : Room} {As : List Value} {wc wr : va_W} {E : (Nat → Prop) → State → Heap → Prop} {st0 : List Value}
    (hM : gk_L l y ws rm D tys E (.ref b :: As) wc mc1 ms1 post wo) (hT : GoodIn Ts (wsV own idx C y ws)) (hw : ws = Cond.code y bytes maxL rt :: ws') (n : Nat) (hd : y.cls = C ∧ y.cls ≠ "java/lang/invoke/MethodHandle" ∧ y.cls ≠ "java/lang/invoke/VarHandle" ∧ (parseMethodDescriptor y.desc).map (fun d => d.parameters.length) = some n) (hrc : rm.cells = mc1) (hrs : rm.slots = ms1) (hR : rm.frames + 1 ≤ R.frames ∧ 8 + (maxL + 11) + rm.locals ≤ R.locals) (hn : As.length = n) {ci q0 : Nat} {fs : List Value} (hrecv : wc[q0]? = some (b, .inr (ci, fs))) {T : u_T} {N : Nat} (hcl : vwCl[ci]? = some (C, T, N)) 
    (hE : gk_Ok E) (hE1 : E A s s.heap) (isC : List Nat) (hC : isC.map (fun i => w[i]?) = wc.map some) (hnC : va_nd isC = true) (isR : List Nat) (hR2 : isR.map (fun i => w[i]?) = wr.map some) (hnR : va_nd isR = true) (hdis : ∀ i ∈ isR, i ∉ isC) (hst : st0 = As.reverse ++ .ref b :: st) (hroom : (st.map fun v => v.category).sum ≤ 8) (d : decode cc pc = .ok (.invokevirtual idx, 3)) (hcs : cells + mc1 ≤ R.cells ∧ slots + ms1 ≤ R.slots)
    (K : ∀ (r : Int64) (u : S), post r u → gk_C p l e R s m args below meth c nL D A Q (cells + mc1) (slots + ms1) (wr ++ wo u) lv (pc + 3) (.long r :: st)) : gk_C p l e R s m args below meth c nL D A Q cells slots w lv pc st0 := by
  intro H locs ls hP hD hS hl
  have hPc : va_P D vwCl wc H := hP.sub isC (gk_fm isC hC)
  have hDc : va_D A wc := hD.sub isC hnC hC
  have hF := va_free hD hS G.2.2.2.2.2.2.1 isC hC
  refine va_calll (va_runV (As := As) (rest := st) ⟨G.1, G.2.1, G.2.2.1, G.2.2.2.1, G.2.2.2.2.1⟩ (hM H.size) (cwV n G.2.2.2.2.1 hT hw hrc hrs hd hR) ⟨fun a U g mk q => ?_, va_recv G.2.2.2.2.2.1 hPc hcl hrecv, fun U hU hW => ⟨rfl, by rw [hU], by rw [hU]; exact hPc, va_K.moved hW.alike G.2.2.2.2.2.1, hDc.weaken (fun _ _ _ _ => trivial), ?_⟩⟩ rfl hn hl.1 hst (lv_room hroom) d hcs) hS (fun q _ h => hF q h) hF (fun r u t H1 locs1 ht hvm hw1 hB hz1 hk1 hS1 => ?_)
  · obtain ⟨q0, q1, qP, qK, qD, qE⟩ := q
    exact ⟨q0, q1, qP, va_K.moved (u := U) (U := U.calling g mk a) (Vm.Alike.refl U.vm) qK, qD, hE _ _ U (U.calling g mk a) _ _ (Vm.Alike.refl U.vm) (Or.inr rfl) (fun _ _ h => h) (Nat.le_refl _) (fun _ _ _ => rfl) qE⟩
  · exact hE A _ s U s.heap U.heap hW.alike (Or.inl hW) (fun q _ h => hF q h) (by rw [hU]; exact hS.1) (fun q h1 h2 => by rw [hU]; exact hS.2.1 q h1 h2) hE1
  · obtain ⟨hP1, hK1, hD1⟩ := hB
    rw [ht] at hP1
    obtain ⟨hP2, hD2⟩ := va_join hP hD isC isR hC hR2 hnR hdis hk1 hF hP1 hD1
    exact K r u hw1 H1 locs1 ls hP2 hD2 hS1 hl
theorem gk_callLS (G : gk_G p s m args meth c own nL cc ret Ts D tys A) {post : Int64 → S → Prop} {wo : S → va_W} {y : MethodName} {bytes : ByteArray} {maxL idx mc1 ms1 : Nat}  {rt : Option FieldType} {ws ws' : List Cond} {rm : Room} {As : List Value} {wc wr : va_W} {E : (Nat → Prop) → State → Heap → Prop} {st0 : List Value}
    (hM : gk_L l y ws rm D tys E As wc mc1 ms1 post wo) (hT : GoodIn Ts (va_wsS own idx y ws)) (hw : ws = Cond.code y bytes maxL rt :: ws') (n : Nat) (hd : y.cls ≠ "java/lang/invoke/MethodHandle" ∧ y.cls ≠ "java/lang/invoke/VarHandle" ∧ (parseMethodDescriptor y.desc).map (fun d => d.parameters.length) = some n) (hrc : rm.cells = mc1) (hrs : rm.slots = ms1) (hR : rm.frames + 1 ≤ R.frames ∧ 8 + (maxL + 11) + rm.locals ≤ R.locals) (hn : As.length = n) 
    (hE : gk_Ok E) (hE1 : E A s s.heap) (isC : List Nat) (hC : isC.map (fun i => w[i]?) = wc.map some) (hnC : va_nd isC = true) (isR : List Nat) (hR2 : isR.map (fun i => w[i]?) = wr.map some) (hnR : va_nd isR = true) (hdis : ∀ i ∈ isR, i ∉ isC) (hst : st0 = As.reverse ++ st) (hroom : (st.map fun v => v.category).sum ≤ 8) (d : decode cc pc = .ok (.invokestatic idx, 3)) (hcs : cells + mc1 ≤ R.cells ∧ slots + ms1 ≤ R.slots)
    (K : ∀ (r : Int64) (u : S), post r u → gk_C p l e R s m args below meth c nL D A Q (cells + mc1) (slots + ms1) (wr ++ wo u) lv (pc + 3) (.long r :: st)) : gk_C p l e R s m args below meth c nL D A Q cells slots w lv pc st0 := by
  intro H locs ls hP hD hS hl
  have hPc : va_P D vwCl wc H := hP.sub isC (gk_fm isC hC)
  have hDc : va_D A wc := hD.sub isC hnC hC
  have hF := va_free hD hS G.2.2.2.2.2.2.1 isC hC
  refine va_calll (va_runS (As := As) (rest := st) ⟨G.1, G.2.1, G.2.2.1, G.2.2.2.1, G.2.2.2.2.1⟩ (hM H.size) (va_cwS n G.2.2.2.2.1 hT hw hrc hrs hd hR) ⟨fun a U g mk q => ?_, fun U hU hW => ⟨rfl, by rw [hU], by rw [hU]; exact hPc, va_K.moved hW.alike G.2.2.2.2.2.1, hDc.weaken (fun _ _ _ _ => trivial), ?_⟩⟩ rfl hn hl.1 hst (lv_room hroom) d hcs) hS (fun q _ h => hF q h) hF (fun r u t H1 locs1 ht hvm hw1 hB hz1 hk1 hS1 => ?_)
  · obtain ⟨q0, q1, qP, qK, qD, qE⟩ := q
    exact ⟨q0, q1, qP, va_K.moved (u := U) (U := U.calling g mk a) (Vm.Alike.refl U.vm) qK, qD, hE _ _ U (U.calling g mk a) _ _ (Vm.Alike.refl U.vm) (Or.inr rfl) (fun _ _ h => h) (Nat.le_refl _) (fun _ _ _ => rfl) qE⟩
  · exact hE A _ s U s.heap U.heap hW.alike (Or.inl hW) (fun q _ h => hF q h) (by rw [hU]; exact hS.1) (fun q h1 h2 => by rw [hU]; exact hS.2.1 q h1 h2) hE1
  · obtain ⟨hP1, hK1, hD1⟩ := hB
    rw [ht] at hP1
    obtain ⟨hP2, hD2⟩ := va_join hP hD isC isR hC hR2 hnR hdis hk1 hF hP1 hD1
    exact K r u hw1 H1 locs1 ls hP2 hD2 hS1 hl
theorem gk_callVV (G : gk_G p s m args meth c own nL cc ret Ts D tys A) {post : S → Prop} {wo : S → va_W} {y : MethodName} {bytes : ByteArray} {maxL idx mc1 ms1 : Nat} {b : Nat}  {rt : Option FieldType} {C : String} {ws ws' : List Cond} {rm : Room} {As : List Value} {wc wr : va_W} {E : (Nat → Prop) → State → Heap → Prop} {st0 : List Value}
    (hM : gk_V l y ws rm D tys E (.ref b :: As) wc mc1 ms1 post wo) (hT : GoodIn Ts (wsV own idx C y ws)) (hw : ws = Cond.code y bytes maxL rt :: ws') (n : Nat) (hd : y.cls = C ∧ y.cls ≠ "java/lang/invoke/MethodHandle" ∧ y.cls ≠ "java/lang/invoke/VarHandle" ∧ (parseMethodDescriptor y.desc).map (fun d => d.parameters.length) = some n) (hrc : rm.cells = mc1) (hrs : rm.slots = ms1) (hR : rm.frames + 1 ≤ R.frames ∧ 8 + (maxL + 11) + rm.locals ≤ R.locals) (hn : As.length = n) {ci q0 : Nat} {fs : List Value} (hrecv : wc[q0]? = some (b, .inr (ci, fs))) {T : u_T} {N : Nat} (hcl : vwCl[ci]? = some (C, T, N)) 
    (hE : gk_Ok E) (hE1 : E A s s.heap) (isC : List Nat) (hC : isC.map (fun i => w[i]?) = wc.map some) (hnC : va_nd isC = true) (isR : List Nat) (hR2 : isR.map (fun i => w[i]?) = wr.map some) (hnR : va_nd isR = true) (hdis : ∀ i ∈ isR, i ∉ isC) (hst : st0 = As.reverse ++ .ref b :: st) (hroom : (st.map fun v => v.category).sum ≤ 8) (d : decode cc pc = .ok (.invokevirtual idx, 3)) (hcs : cells + mc1 ≤ R.cells ∧ slots + ms1 ≤ R.slots)
    (K : ∀ (u : S), post u → gk_C p l e R s m args below meth c nL D A Q (cells + mc1) (slots + ms1) (wr ++ wo u) lv (pc + 3) (st)) : gk_C p l e R s m args below meth c nL D A Q cells slots w lv pc st0 := by
  intro H locs ls hP hD hS hl
  have hPc : va_P D vwCl wc H := hP.sub isC (gk_fm isC hC)
  have hDc : va_D A wc := hD.sub isC hnC hC
  have hF := va_free hD hS G.2.2.2.2.2.2.1 isC hC
  refine va_callv (va_runV (As := As) (rest := st) ⟨G.1, G.2.1, G.2.2.1, G.2.2.2.1, G.2.2.2.2.1⟩ (hM H.size) (cwV n G.2.2.2.2.1 hT hw hrc hrs hd hR) ⟨fun a U g mk q => ?_, va_recv G.2.2.2.2.2.1 hPc hcl hrecv, fun U hU hW => ⟨rfl, by rw [hU], by rw [hU]; exact hPc, va_K.moved hW.alike G.2.2.2.2.2.1, hDc.weaken (fun _ _ _ _ => trivial), ?_⟩⟩ rfl hn hl.1 hst (lv_room hroom) d hcs) hS (fun q _ h => hF q h) hF (fun u t H1 locs1 ht hvm hw1 hB hz1 hk1 hS1 => ?_)
  · obtain ⟨q0, q1, qP, qK, qD, qE⟩ := q
    exact ⟨q0, q1, qP, va_K.moved (u := U) (U := U.calling g mk a) (Vm.Alike.refl U.vm) qK, qD, hE _ _ U (U.calling g mk a) _ _ (Vm.Alike.refl U.vm) (Or.inr rfl) (fun _ _ h => h) (Nat.le_refl _) (fun _ _ _ => rfl) qE⟩
  · exact hE A _ s U s.heap U.heap hW.alike (Or.inl hW) (fun q _ h => hF q h) (by rw [hU]; exact hS.1) (fun q h1 h2 => by rw [hU]; exact hS.2.1 q h1 h2) hE1
  · obtain ⟨hP1, hK1, hD1⟩ := hB
    rw [ht] at hP1
    obtain ⟨hP2, hD2⟩ := va_join hP hD isC isR hC hR2 hnR hdis hk1 hF hP1 hD1
    exact K u hw1 H1 locs1 ls hP2 hD2 hS1 hl
theorem gk_callVS (G : gk_G p s m args meth c own nL cc ret Ts D tys A) {post : S → Prop} {wo : S → va_W} {y : MethodName} {bytes : ByteArray} {maxL idx mc1 ms1 : Nat}  {rt : Option FieldType} {ws ws' : List Cond} {rm : Room} {As : List Value} {wc wr : va_W} {E : (Nat → Prop) → State → Heap → Prop} {st0 : List Value}
    (hM : gk_V l y ws rm D tys E As wc mc1 ms1 post wo) (hT : GoodIn Ts (va_wsS own idx y ws)) (hw : ws = Cond.code y bytes maxL rt :: ws') (n : Nat) (hd : y.cls ≠ "java/lang/invoke/MethodHandle" ∧ y.cls ≠ "java/lang/invoke/VarHandle" ∧ (parseMethodDescriptor y.desc).map (fun d => d.parameters.length) = some n) (hrc : rm.cells = mc1) (hrs : rm.slots = ms1) (hR : rm.frames + 1 ≤ R.frames ∧ 8 + (maxL + 11) + rm.locals ≤ R.locals) (hn : As.length = n) 
    (hE : gk_Ok E) (hE1 : E A s s.heap) (isC : List Nat) (hC : isC.map (fun i => w[i]?) = wc.map some) (hnC : va_nd isC = true) (isR : List Nat) (hR2 : isR.map (fun i => w[i]?) = wr.map some) (hnR : va_nd isR = true) (hdis : ∀ i ∈ isR, i ∉ isC) (hst : st0 = As.reverse ++ st) (hroom : (st.map fun v => v.category).sum ≤ 8) (d : decode cc pc = .ok (.invokestatic idx, 3)) (hcs : cells + mc1 ≤ R.cells ∧ slots + ms1 ≤ R.slots)
    (K : ∀ (u : S), post u → gk_C p l e R s m args below meth c nL D A Q (cells + mc1) (slots + ms1) (wr ++ wo u) lv (pc + 3) (st)) : gk_C p l e R s m args below meth c nL D A Q cells slots w lv pc st0 := by
  intro H locs ls hP hD hS hl
  have hPc : va_P D vwCl wc H := hP.sub isC (gk_fm isC hC)
  have hDc : va_D A wc := hD.sub isC hnC hC
  have hF := va_free hD hS G.2.2.2.2.2.2.1 isC hC
  refine va_callv (va_runS (As := As) (rest := st) ⟨G.1, G.2.1, G.2.2.1, G.2.2.2.1, G.2.2.2.2.1⟩ (hM H.size) (va_cwS n G.2.2.2.2.1 hT hw hrc hrs hd hR) ⟨fun a U g mk q => ?_, fun U hU hW => ⟨rfl, by rw [hU], by rw [hU]; exact hPc, va_K.moved hW.alike G.2.2.2.2.2.1, hDc.weaken (fun _ _ _ _ => trivial), ?_⟩⟩ rfl hn hl.1 hst (lv_room hroom) d hcs) hS (fun q _ h => hF q h) hF (fun u t H1 locs1 ht hvm hw1 hB hz1 hk1 hS1 => ?_)
  · obtain ⟨q0, q1, qP, qK, qD, qE⟩ := q
    exact ⟨q0, q1, qP, va_K.moved (u := U) (U := U.calling g mk a) (Vm.Alike.refl U.vm) qK, qD, hE _ _ U (U.calling g mk a) _ _ (Vm.Alike.refl U.vm) (Or.inr rfl) (fun _ _ h => h) (Nat.le_refl _) (fun _ _ _ => rfl) qE⟩
  · exact hE A _ s U s.heap U.heap hW.alike (Or.inl hW) (fun q _ h => hF q h) (by rw [hU]; exact hS.1) (fun q h1 h2 => by rw [hU]; exact hS.2.1 q h1 h2) hE1
  · obtain ⟨hP1, hK1, hD1⟩ := hB
    rw [ht] at hP1
    obtain ⟨hP2, hD2⟩ := va_join hP hD isC isR hC hR2 hnR hdis hk1 hF hP1 hD1
    exact K u hw1 H1 locs1 ls hP2 hD2 hS1 hl
theorem gk_callVI (G : gk_G p s m args meth c own nL cc ret Ts D tys A) {post : S → Prop} {wo : S → va_W} {y : MethodName} {bytes : ByteArray} {maxL idx mc1 ms1 : Nat} {b : Nat}  {rt : Option FieldType} {ws ws' : List Cond} {rm : Room} {As : List Value} {wc wr : va_W} {E : (Nat → Prop) → State → Heap → Prop} {st0 : List Value}
    (hM : gk_V l y ws rm D tys E (.ref b :: As) wc mc1 ms1 post wo) (hT : GoodIn Ts ws) (hw : ws = Cond.code y bytes maxL none :: ws') (n : Nat) (hini : (Cond.initialized y.cls).before args s = true) (hl1 : (Cond.methodLink own idx y).before args s = true) (hin : (Cond.instanceMethod y).before args s = true) (hy1 : y.name = "<init>") (hd : y.cls ≠ "java/lang/invoke/MethodHandle" ∧ y.cls ≠ "java/lang/invoke/VarHandle" ∧ (parseMethodDescriptor y.desc).map (fun d => d.parameters.length) = some n) (hrc : rm.cells = mc1) (hrs : rm.slots = ms1) (hR : rm.frames + 1 ≤ R.frames ∧ 8 + (maxL + 11) + rm.locals ≤ R.locals) (hn : As.length = n) 
    (hE : gk_Ok E) (hE1 : E A s s.heap) (isC : List Nat) (hC : isC.map (fun i => w[i]?) = wc.map some) (hnC : va_nd isC = true) (isR : List Nat) (hR2 : isR.map (fun i => w[i]?) = wr.map some) (hnR : va_nd isR = true) (hdis : ∀ i ∈ isR, i ∉ isC) (hst : st0 = As.reverse ++ .ref b :: st) (hroom : (st.map fun v => v.category).sum ≤ 8) (d : decode cc pc = .ok (.invokespecial idx, 3)) (hcs : cells + mc1 ≤ R.cells ∧ slots + ms1 ≤ R.slots)
    (K : ∀ (u : S), post u → gk_C p l e R s m args below meth c nL D A Q (cells + mc1) (slots + ms1) (wr ++ wo u) lv (pc + 3) (st)) : gk_C p l e R s m args below meth c nL D A Q cells slots w lv pc st0 := by
  intro H locs ls hP hD hS hl
  have hPc : va_P D vwCl wc H := hP.sub isC (gk_fm isC hC)
  have hDc : va_D A wc := hD.sub isC hnC hC
  have hF := va_free hD hS G.2.2.2.2.2.2.1 isC hC
  refine va_callv (va_runI (As := As) (rest := st) ⟨G.1, G.2.1, G.2.2.1, G.2.2.2.1, G.2.2.2.2.1⟩ (hM H.size) (cwI n G.2.2.2.2.1 hT hw hrc hrs hini hl1 hin hy1 hd hR) ⟨fun a U g mk q => ?_, fun U hU hW => ⟨rfl, by rw [hU], by rw [hU]; exact hPc, va_K.moved hW.alike G.2.2.2.2.2.1, hDc.weaken (fun _ _ _ _ => trivial), ?_⟩⟩ rfl hn hl.1 hst (lv_room hroom) d hcs) hS (fun q _ h => hF q h) hF (fun u t H1 locs1 ht hvm hw1 hB hz1 hk1 hS1 => ?_)
  · obtain ⟨q0, q1, qP, qK, qD, qE⟩ := q
    exact ⟨q0, q1, qP, va_K.moved (u := U) (U := U.calling g mk a) (Vm.Alike.refl U.vm) qK, qD, hE _ _ U (U.calling g mk a) _ _ (Vm.Alike.refl U.vm) (Or.inr rfl) (fun _ _ h => h) (Nat.le_refl _) (fun _ _ _ => rfl) qE⟩
  · exact hE A _ s U s.heap U.heap hW.alike (Or.inl hW) (fun q _ h => hF q h) (by rw [hU]; exact hS.1) (fun q h1 h2 => by rw [hU]; exact hS.2.1 q h1 h2) hE1
  · obtain ⟨hP1, hK1, hD1⟩ := hB
    rw [ht] at hP1
    obtain ⟨hP2, hD2⟩ := va_join hP hD isC isR hC hR2 hnR hdis hk1 hF hP1 hD1
    exact K u hw1 H1 locs1 ls hP2 hD2 hS1 hl
end GS
