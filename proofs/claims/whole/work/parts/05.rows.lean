/-! THE KIT'S ROWS over the world: WM: the machine at pc, with locals lv, stack st, world σ τ, comes to a state with Q -/
section XROWS
variable {p : Program} {l : Launch} {e : Env} {R : Room} {s : State} {m : MethodId} {args : Array Value} {below : List Frame} {meth : Method} {c : Code} {cells slots : Nat} {Q : State → Prop} {E : xE} {A : Nat → Prop} {nL : Nat} {σ σ' : Nat → Nat → Int32} {τ τ' : Nat → Int64} {pc : Nat} {lv : List (Nat × Value)} {rest : List Value} {cc : ByteArray} {own : String} {ret : Option FieldType}
def WM (p : Program) (l : Launch) (e : Env) (R : Room) (s : State) (m : MethodId) (args : Array Value) (below : List Frame) (meth : Method) (c : Code) (cells slots : Nat) (Q : State → Prop) (E : xE) (A : Nat → Prop) (nL : Nat) (σ : Nat → Nat → Int32) (τ : Nat → Int64) (pc : Nat) (lv : List (Nat × Value)) (st : List Value) : Prop :=
  ∀ (H : Heap) (locs : List Loc) (ls : Array Slot), xP E σ τ H → va_S A s.heap H locs → lv_has ls nL lv → W p l e R s m args below meth c H locs cells slots Q (F0 m pc ls st)
def xC (p : Program) (s : State) (m : MethodId) (args : Array Value) (meth : Method) (c : Code) (cc : ByteArray) (nL : Nat) (own : String) (ret : Option FieldType) (E : xE) (A : Nat → Prop) (R : Room) (cells slots : Nat) : Prop :=
  CallFix p m c cc nL s args xT own ∧ meth.sig.returnType = ret ∧ meth.locks = false ∧ xK E s ∧ xI E A ∧ xZ E A s s.heap ∧ (cells ≤ R.cells ∧ slots ≤ R.slots)
theorem xC.hx (C : xC p s m args meth c cc nL own ret E A R cells slots) : p.tables.exec = Jvm.exec := C.1.1
theorem xC.hb (C : xC p s m args meth c cc nL own ret E A R cells slots) : c.code = cc := C.1.2.1
theorem xC.hml (C : xC p s m args meth c cc nL own ret E A R cells slots) : c.maxLocals = nL := C.1.2.2.1
theorem xC.hown (C : xC p s m args meth c cc nL own ret E A R cells slots) : s.vm.findClass own = some m.cls := C.1.2.2.2.1
theorem xC.hts (C : xC p s m args meth c cc nL own ret E A R cells slots) : ∀ w ∈ xT, w.before args s = true := C.1.2.2.2.2
theorem xC.hr (C : xC p s m args meth c cc nL own ret E A R cells slots) : meth.sig.returnType = ret := C.2.1
theorem xC.hlk (C : xC p s m args meth c cc nL own ret E A R cells slots) : meth.locks = false := C.2.2.1
theorem xC.hK (C : xC p s m args meth c cc nL own ret E A R cells slots) : xK E s := C.2.2.2.1
theorem xC.hI (C : xC p s m args meth c cc nL own ret E A R cells slots) : xI E A := C.2.2.2.2.1
theorem xC.hZ (C : xC p s m args meth c cc nL own ret E A R cells slots) : xZ E A s s.heap := C.2.2.2.2.2.1
theorem xC.hc (C : xC p s m args meth c cc nL own ret E A R cells slots) : cells ≤ R.cells ∧ slots ≤ R.slots := C.2.2.2.2.2.2
/-- other words for the same world -/
theorem WM.alter (ho : ∀ j, j < 94 → xce E σ' τ' (xd j) = xce E σ τ (xd j)) (k : WM p l e R s m args below meth c cells slots Q E A nL σ' τ' pc lv rest) : WM p l e R s m args below meth c cells slots Q E A nL σ τ pc lv rest := fun H locs ls hP hS hl => k H locs ls (hP.alter ho) hS hl
theorem WM.keep {lv' : List (Nat × Value)} (ks : List Nat) (hp : lv_pick lv ks = lv') (k : WM p l e R s m args below meth c cells slots Q E A nL σ τ pc lv' rest) : WM p l e R s m args below meth c cells slots Q E A nL σ τ pc lv rest := fun H locs ls hP hS hl => k H locs ls hP hS (lv_sub hl ks hp)
theorem WM.topi {x y : Int32} (hy : x = y) (k : WM p l e R s m args below meth c cells slots Q E A nL σ τ pc lv (.int y :: rest)) : WM p l e R s m args below meth c cells slots Q E A nL σ τ pc lv (.int x :: rest) := hy ▸ k
theorem WM.to {σ1 : Nat → Nat → Int32} {τ1 : Nat → Int64} {lv1 : List (Nat × Value)} {st st1 : List Value} (k : WM p l e R s m args below meth c cells slots Q E A nL σ1 τ1 pc lv1 st1) (hs : σ = σ1) (ht : τ = τ1) (hl : lv = lv1) (hst : st = st1) : WM p l e R s m args below meth c cells slots Q E A nL σ τ pc lv st := by
  subst hs
  subst ht
  subst hl
  subst hst
  exact k

theorem x_iconst (C : xC p s m args meth c cc nL own ret E A R cells slots) {n : Int} {v : Int32} (hdg : decode cc pc = .ok (.iconst n, 1)) (hv : Int32.ofInt n = v) (k : WM p l e R s m args below meth c cells slots Q E A nL σ τ (pc + 1) lv (.int v :: rest)) : WM p l e R s m args below meth c cells slots Q E A nL σ τ pc lv (rest) := fun H locs ls hP hS hl => lv_iconst C.hx C.hb hdg hv (k H locs ls hP hS hl)
theorem x_bipush (C : xC p s m args meth c cc nL own ret E A R cells slots) {n : Int} {v : Int32} (hdg : decode cc pc = .ok (.bipush n, 2)) (hv : (Int8.ofInt n).toInt32 = v) (k : WM p l e R s m args below meth c cells slots Q E A nL σ τ (pc + 2) lv (.int v :: rest)) : WM p l e R s m args below meth c cells slots Q E A nL σ τ pc lv (rest) := fun H locs ls hP hS hl => lv_bipush C.hx C.hb hdg hv (k H locs ls hP hS hl)
theorem x_sipush (C : xC p s m args meth c cc nL own ret E A R cells slots) {n : Int} {v : Int32} (hdg : decode cc pc = .ok (.sipush n, 3)) (hv : (Int16.ofInt n).toInt32 = v) (k : WM p l e R s m args below meth c cells slots Q E A nL σ τ (pc + 3) lv (.int v :: rest)) : WM p l e R s m args below meth c cells slots Q E A nL σ τ pc lv (rest) := fun H locs ls hP hS hl => lv_sipush C.hx C.hb hdg hv (k H locs ls hP hS hl)
theorem x_lconst (C : xC p s m args meth c cc nL own ret E A R cells slots) {n : Fin 2} {v : Int64} (hdg : decode cc pc = .ok (.lconst n, 1)) (hv : Int64.ofNat (n : Nat) = v) (k : WM p l e R s m args below meth c cells slots Q E A nL σ τ (pc + 1) lv (.long v :: rest)) : WM p l e R s m args below meth c cells slots Q E A nL σ τ pc lv (rest) := fun H locs ls hP hS hl => lv_lconst C.hx C.hb hdg hv (k H locs ls hP hS hl)
theorem x_ldc (C : xC p s m args meth c cc nL own ret E A R cells slots) {index : Nat} {v : Int32} (hdg : decode cc pc = .ok (.ldc index, 2)) (hw : Jvm.Cond.constant own index v ∈ xT) (k : WM p l e R s m args below meth c cells slots Q E A nL σ τ (pc + 2) lv (.int v :: rest)) : WM p l e R s m args below meth c cells slots Q E A nL σ τ pc lv (rest) := fun H locs ls hP hS hl => lv_ldc C.hx C.hb C.hown (C.hts _ hw) hdg (k H locs ls hP hS hl)
theorem x_ldcw (C : xC p s m args meth c cc nL own ret E A R cells slots) {index : Nat} {v : Int32} (hdg : decode cc pc = .ok (.ldc_w index, 3)) (hw : Jvm.Cond.constant own index v ∈ xT) (k : WM p l e R s m args below meth c cells slots Q E A nL σ τ (pc + 3) lv (.int v :: rest)) : WM p l e R s m args below meth c cells slots Q E A nL σ τ pc lv (rest) := fun H locs ls hP hS hl => lv_ldcw C.hx C.hb C.hown (C.hts _ hw) hdg (k H locs ls hP hS hl)
theorem x_ldc2 (C : xC p s m args meth c cc nL own ret E A R cells slots) {index : Nat} {v : Int64} (hdg : decode cc pc = .ok (.ldc2_w index, 3)) (hw : Jvm.Cond.constantLong own index v ∈ xT) (k : WM p l e R s m args below meth c cells slots Q E A nL σ τ (pc + 3) lv (.long v :: rest)) : WM p l e R s m args below meth c cells slots Q E A nL σ τ pc lv (rest) := fun H locs ls hP hS hl => lv_ldc2 C.hx C.hb C.hown (C.hts _ hw) hdg (k H locs ls hP hS hl)
theorem x_iload_n (C : xC p s m args meth c cc nL own ret E A R cells slots) {k4 : Fin 4} {i : Nat} {x : Int32} (j : Nat) (hdg : decode cc pc = .ok (.iload_n k4, 1)) (hi : (k4 : Nat) = i) (hj : lv[j]? = some (i, .int x)) (k : WM p l e R s m args below meth c cells slots Q E A nL σ τ (pc + 1) lv (.int x :: rest)) : WM p l e R s m args below meth c cells slots Q E A nL σ τ pc lv (rest) := fun H locs ls hP hS hl => lv_iload_n C.hx C.hb hdg hi (lv_at hl j hj) (k H locs ls hP hS hl)
theorem x_iload (C : xC p s m args meth c cc nL own ret E A R cells slots) {i : Nat} {x : Int32} (j : Nat) (hdg : decode cc pc = .ok (.iload i, 2)) (hj : lv[j]? = some (i, .int x)) (k : WM p l e R s m args below meth c cells slots Q E A nL σ τ (pc + 2) lv (.int x :: rest)) : WM p l e R s m args below meth c cells slots Q E A nL σ τ pc lv (rest) := fun H locs ls hP hS hl => lv_iload C.hx C.hb hdg (lv_at hl j hj) (k H locs ls hP hS hl)
theorem x_istore_n (C : xC p s m args meth c cc nL own ret E A R cells slots) {k4 : Fin 4} {i : Nat} {x : Int32} {lv1 : List (Nat × Value)} (hdg : decode cc pc = .ok (.istore_n k4, 1)) (hi : (k4 : Nat) = i) (hn : i < nL) (hv : (i, Value.int x) :: lv.filter (fun q => !(q.1 == i) && !(q.1 + 1 == i && q.2.category == 2)) = lv1) (k : WM p l e R s m args below meth c cells slots Q E A nL σ τ (pc + 1) lv1 (rest)) : WM p l e R s m args below meth c cells slots Q E A nL σ τ pc lv (.int x :: rest) := fun H locs ls hP hS hl => lv_istore_n C.hx C.hb hdg hi hl hn hv (fun ls2 hl2 => k H locs ls2 hP hS hl2)
theorem x_istore (C : xC p s m args meth c cc nL own ret E A R cells slots) {i : Nat} {x : Int32} {lv1 : List (Nat × Value)} (hdg : decode cc pc = .ok (.istore i, 2)) (hn : i < nL) (hv : (i, Value.int x) :: lv.filter (fun q => !(q.1 == i) && !(q.1 + 1 == i && q.2.category == 2)) = lv1) (k : WM p l e R s m args below meth c cells slots Q E A nL σ τ (pc + 2) lv1 (rest)) : WM p l e R s m args below meth c cells slots Q E A nL σ τ pc lv (.int x :: rest) := fun H locs ls hP hS hl => lv_istore C.hx C.hb hdg hl hn hv (fun ls2 hl2 => k H locs ls2 hP hS hl2)
theorem x_lload_n (C : xC p s m args meth c cc nL own ret E A R cells slots) {k4 : Fin 4} {i : Nat} {x : Int64} (j : Nat) (hdg : decode cc pc = .ok (.lload_n k4, 1)) (hi : (k4 : Nat) = i) (hj : lv[j]? = some (i, .long x)) (k : WM p l e R s m args below meth c cells slots Q E A nL σ τ (pc + 1) lv (.long x :: rest)) : WM p l e R s m args below meth c cells slots Q E A nL σ τ pc lv (rest) := fun H locs ls hP hS hl => lv_lload_n C.hx C.hb hdg hi (lv_at hl j hj) (k H locs ls hP hS hl)
theorem x_lload (C : xC p s m args meth c cc nL own ret E A R cells slots) {i : Nat} {x : Int64} (j : Nat) (hdg : decode cc pc = .ok (.lload i, 2)) (hj : lv[j]? = some (i, .long x)) (k : WM p l e R s m args below meth c cells slots Q E A nL σ τ (pc + 2) lv (.long x :: rest)) : WM p l e R s m args below meth c cells slots Q E A nL σ τ pc lv (rest) := fun H locs ls hP hS hl => lv_lload C.hx C.hb hdg (lv_at hl j hj) (k H locs ls hP hS hl)
theorem x_lstore_n (C : xC p s m args meth c cc nL own ret E A R cells slots) {k4 : Fin 4} {i : Nat} {x : Int64} {lv1 : List (Nat × Value)} (hdg : decode cc pc = .ok (.lstore_n k4, 1)) (hi : (k4 : Nat) = i) (hn : i + 1 < nL) (hv : (i, Value.long x) :: lv.filter (fun q => !(q.1 == i) && (!(q.1 == i + 1) && !(q.1 + 1 == i && q.2.category == 2))) = lv1) (k : WM p l e R s m args below meth c cells slots Q E A nL σ τ (pc + 1) lv1 (rest)) : WM p l e R s m args below meth c cells slots Q E A nL σ τ pc lv (.long x :: rest) := fun H locs ls hP hS hl => lv_lstore_n C.hx C.hb hdg hi hl hn hv (fun ls2 hl2 => k H locs ls2 hP hS hl2)
theorem x_lstore (C : xC p s m args meth c cc nL own ret E A R cells slots) {i : Nat} {x : Int64} {lv1 : List (Nat × Value)} (hdg : decode cc pc = .ok (.lstore i, 2)) (hn : i + 1 < nL) (hv : (i, Value.long x) :: lv.filter (fun q => !(q.1 == i) && (!(q.1 == i + 1) && !(q.1 + 1 == i && q.2.category == 2))) = lv1) (k : WM p l e R s m args below meth c cells slots Q E A nL σ τ (pc + 2) lv1 (rest)) : WM p l e R s m args below meth c cells slots Q E A nL σ τ pc lv (.long x :: rest) := fun H locs ls hP hS hl => lv_lstore C.hx C.hb hdg hl hn hv (fun ls2 hl2 => k H locs ls2 hP hS hl2)
theorem x_aload_n (C : xC p s m args meth c cc nL own ret E A R cells slots) {k4 : Fin 4} {i : Nat} {x : Nat} (j : Nat) (hdg : decode cc pc = .ok (.aload_n k4, 1)) (hi : (k4 : Nat) = i) (hj : lv[j]? = some (i, .ref x)) (k : WM p l e R s m args below meth c cells slots Q E A nL σ τ (pc + 1) lv (.ref x :: rest)) : WM p l e R s m args below meth c cells slots Q E A nL σ τ pc lv (rest) := fun H locs ls hP hS hl => lv_aload_n C.hx C.hb hdg hi (lv_at hl j hj) (k H locs ls hP hS hl)
theorem x_aload (C : xC p s m args meth c cc nL own ret E A R cells slots) {i : Nat} {x : Nat} (j : Nat) (hdg : decode cc pc = .ok (.aload i, 2)) (hj : lv[j]? = some (i, .ref x)) (k : WM p l e R s m args below meth c cells slots Q E A nL σ τ (pc + 2) lv (.ref x :: rest)) : WM p l e R s m args below meth c cells slots Q E A nL σ τ pc lv (rest) := fun H locs ls hP hS hl => lv_aload C.hx C.hb hdg (lv_at hl j hj) (k H locs ls hP hS hl)
theorem x_astore_n (C : xC p s m args meth c cc nL own ret E A R cells slots) {k4 : Fin 4} {i : Nat} {x : Nat} {lv1 : List (Nat × Value)} (hdg : decode cc pc = .ok (.astore_n k4, 1)) (hi : (k4 : Nat) = i) (hn : i < nL) (hv : (i, Value.ref x) :: lv.filter (fun q => !(q.1 == i) && !(q.1 + 1 == i && q.2.category == 2)) = lv1) (k : WM p l e R s m args below meth c cells slots Q E A nL σ τ (pc + 1) lv1 (rest)) : WM p l e R s m args below meth c cells slots Q E A nL σ τ pc lv (.ref x :: rest) := fun H locs ls hP hS hl => lv_astore_n C.hx C.hb hdg hi hl hn hv (fun ls2 hl2 => k H locs ls2 hP hS hl2)
theorem x_astore (C : xC p s m args meth c cc nL own ret E A R cells slots) {i : Nat} {x : Nat} {lv1 : List (Nat × Value)} (hdg : decode cc pc = .ok (.astore i, 2)) (hn : i < nL) (hv : (i, Value.ref x) :: lv.filter (fun q => !(q.1 == i) && !(q.1 + 1 == i && q.2.category == 2)) = lv1) (k : WM p l e R s m args below meth c cells slots Q E A nL σ τ (pc + 2) lv1 (rest)) : WM p l e R s m args below meth c cells slots Q E A nL σ τ pc lv (.ref x :: rest) := fun H locs ls hP hS hl => lv_astore C.hx C.hb hdg hl hn hv (fun ls2 hl2 => k H locs ls2 hP hS hl2)
theorem x_iinc (C : xC p s m args meth c cc nL own ret E A R cells slots) {i : Nat} {n : Int} {x v : Int32} {lv1 : List (Nat × Value)} (j : Nat) (hdg : decode cc pc = .ok (.iinc i n, 3)) (hj : lv[j]? = some (i, .int x)) (hx2 : x + Int32.ofInt n = v) (hn : i < nL) (hv : (i, Value.int v) :: lv.filter (fun q => !(q.1 == i) && !(q.1 + 1 == i && q.2.category == 2)) = lv1) (k : WM p l e R s m args below meth c cells slots Q E A nL σ τ (pc + 3) lv1 (rest)) : WM p l e R s m args below meth c cells slots Q E A nL σ τ pc lv (rest) := fun H locs ls hP hS hl => lv_iinc C.hx C.hb hdg hl hj hx2 hn hv (fun ls2 hl2 => k H locs ls2 hP hS hl2)
theorem x_iadd (C : xC p s m args meth c cc nL own ret E A R cells slots) {x y : Int32} (hdg : decode cc pc = .ok (.iadd, 1)) (k : WM p l e R s m args below meth c cells slots Q E A nL σ τ (pc + 1) lv (.int (x + y) :: rest)) : WM p l e R s m args below meth c cells slots Q E A nL σ τ pc lv (.int y :: .int x :: rest) := fun H locs ls hP hS hl => lv_iadd C.hx C.hb hdg (k H locs ls hP hS hl)
theorem x_isub (C : xC p s m args meth c cc nL own ret E A R cells slots) {x y : Int32} (hdg : decode cc pc = .ok (.isub, 1)) (k : WM p l e R s m args below meth c cells slots Q E A nL σ τ (pc + 1) lv (.int (x - y) :: rest)) : WM p l e R s m args below meth c cells slots Q E A nL σ τ pc lv (.int y :: .int x :: rest) := fun H locs ls hP hS hl => lv_isub C.hx C.hb hdg (k H locs ls hP hS hl)
theorem x_imul (C : xC p s m args meth c cc nL own ret E A R cells slots) {x y : Int32} (hdg : decode cc pc = .ok (.imul, 1)) (k : WM p l e R s m args below meth c cells slots Q E A nL σ τ (pc + 1) lv (.int (x * y) :: rest)) : WM p l e R s m args below meth c cells slots Q E A nL σ τ pc lv (.int y :: .int x :: rest) := fun H locs ls hP hS hl => lv_imul C.hx C.hb hdg (k H locs ls hP hS hl)
theorem x_iand (C : xC p s m args meth c cc nL own ret E A R cells slots) {x y : Int32} (hdg : decode cc pc = .ok (.iand, 1)) (k : WM p l e R s m args below meth c cells slots Q E A nL σ τ (pc + 1) lv (.int (x &&& y) :: rest)) : WM p l e R s m args below meth c cells slots Q E A nL σ τ pc lv (.int y :: .int x :: rest) := fun H locs ls hP hS hl => lv_iand C.hx C.hb hdg (k H locs ls hP hS hl)
theorem x_ior (C : xC p s m args meth c cc nL own ret E A R cells slots) {x y : Int32} (hdg : decode cc pc = .ok (.ior, 1)) (k : WM p l e R s m args below meth c cells slots Q E A nL σ τ (pc + 1) lv (.int (x ||| y) :: rest)) : WM p l e R s m args below meth c cells slots Q E A nL σ τ pc lv (.int y :: .int x :: rest) := fun H locs ls hP hS hl => lv_ior C.hx C.hb hdg (k H locs ls hP hS hl)
theorem x_ixor (C : xC p s m args meth c cc nL own ret E A R cells slots) {x y : Int32} (hdg : decode cc pc = .ok (.ixor, 1)) (k : WM p l e R s m args below meth c cells slots Q E A nL σ τ (pc + 1) lv (.int (x ^^^ y) :: rest)) : WM p l e R s m args below meth c cells slots Q E A nL σ τ pc lv (.int y :: .int x :: rest) := fun H locs ls hP hS hl => lv_ixor C.hx C.hb hdg (k H locs ls hP hS hl)
theorem x_ishl (C : xC p s m args meth c cc nL own ret E A R cells slots) {x y : Int32} (hdg : decode cc pc = .ok (.ishl, 1)) (k : WM p l e R s m args below meth c cells slots Q E A nL σ τ (pc + 1) lv (.int (x <<< (y &&& 31)) :: rest)) : WM p l e R s m args below meth c cells slots Q E A nL σ τ pc lv (.int y :: .int x :: rest) := fun H locs ls hP hS hl => lv_ishl C.hx C.hb hdg (k H locs ls hP hS hl)
theorem x_ishr (C : xC p s m args meth c cc nL own ret E A R cells slots) {x y : Int32} (hdg : decode cc pc = .ok (.ishr, 1)) (k : WM p l e R s m args below meth c cells slots Q E A nL σ τ (pc + 1) lv (.int (x >>> (y &&& 31)) :: rest)) : WM p l e R s m args below meth c cells slots Q E A nL σ τ pc lv (.int y :: .int x :: rest) := fun H locs ls hP hS hl => lv_ishr C.hx C.hb hdg (k H locs ls hP hS hl)
theorem x_iushr (C : xC p s m args meth c cc nL own ret E A R cells slots) {x y : Int32} (hdg : decode cc pc = .ok (.iushr, 1)) (k : WM p l e R s m args below meth c cells slots Q E A nL σ τ (pc + 1) lv (.int ((x.toUInt32 >>> (y.toUInt32 &&& Int32.toUInt32 31)).toInt32) :: rest)) : WM p l e R s m args below meth c cells slots Q E A nL σ τ pc lv (.int y :: .int x :: rest) := fun H locs ls hP hS hl => lv_iushr C.hx C.hb hdg rfl (k H locs ls hP hS hl)
theorem x_idiv (C : xC p s m args meth c cc nL own ret E A R cells slots) {x y : Int32} (hdg : decode cc pc = .ok (.idiv, 1)) (hne : ¬ y = 0) (k : WM p l e R s m args below meth c cells slots Q E A nL σ τ (pc + 1) lv (.int (x / y) :: rest)) : WM p l e R s m args below meth c cells slots Q E A nL σ τ pc lv (.int y :: .int x :: rest) := fun H locs ls hP hS hl => lv_idiv C.hx C.hb hdg hne (k H locs ls hP hS hl)
theorem x_irem (C : xC p s m args meth c cc nL own ret E A R cells slots) {x y : Int32} (hdg : decode cc pc = .ok (.irem, 1)) (hne : ¬ y = 0) (k : WM p l e R s m args below meth c cells slots Q E A nL σ τ (pc + 1) lv (.int (x - x / y * y) :: rest)) : WM p l e R s m args below meth c cells slots Q E A nL σ τ pc lv (.int y :: .int x :: rest) := fun H locs ls hP hS hl => lv_irem C.hx C.hb hdg hne (k H locs ls hP hS hl)
theorem x_ineg (C : xC p s m args meth c cc nL own ret E A R cells slots) {x : Int32} (hdg : decode cc pc = .ok (.ineg, 1)) (k : WM p l e R s m args below meth c cells slots Q E A nL σ τ (pc + 1) lv (.int (-x) :: rest)) : WM p l e R s m args below meth c cells slots Q E A nL σ τ pc lv (.int x :: rest) := fun H locs ls hP hS hl => lv_ineg C.hx C.hb hdg (k H locs ls hP hS hl)
theorem x_ladd (C : xC p s m args meth c cc nL own ret E A R cells slots) {x y : Int64} (hdg : decode cc pc = .ok (.ladd, 1)) (k : WM p l e R s m args below meth c cells slots Q E A nL σ τ (pc + 1) lv (.long (x + y) :: rest)) : WM p l e R s m args below meth c cells slots Q E A nL σ τ pc lv (.long y :: .long x :: rest) := fun H locs ls hP hS hl => lv_ladd C.hx C.hb hdg (k H locs ls hP hS hl)
theorem x_lsub (C : xC p s m args meth c cc nL own ret E A R cells slots) {x y : Int64} (hdg : decode cc pc = .ok (.lsub, 1)) (k : WM p l e R s m args below meth c cells slots Q E A nL σ τ (pc + 1) lv (.long (x - y) :: rest)) : WM p l e R s m args below meth c cells slots Q E A nL σ τ pc lv (.long y :: .long x :: rest) := fun H locs ls hP hS hl => lv_lsub C.hx C.hb hdg (k H locs ls hP hS hl)
theorem x_lmul (C : xC p s m args meth c cc nL own ret E A R cells slots) {x y : Int64} (hdg : decode cc pc = .ok (.lmul, 1)) (k : WM p l e R s m args below meth c cells slots Q E A nL σ τ (pc + 1) lv (.long (x * y) :: rest)) : WM p l e R s m args below meth c cells slots Q E A nL σ τ pc lv (.long y :: .long x :: rest) := fun H locs ls hP hS hl => lv_lmul C.hx C.hb hdg (k H locs ls hP hS hl)
theorem x_ldiv (C : xC p s m args meth c cc nL own ret E A R cells slots) {x y : Int64} (hdg : decode cc pc = .ok (.ldiv, 1)) (hne : ¬ y = 0) (k : WM p l e R s m args below meth c cells slots Q E A nL σ τ (pc + 1) lv (.long (x / y) :: rest)) : WM p l e R s m args below meth c cells slots Q E A nL σ τ pc lv (.long y :: .long x :: rest) := fun H locs ls hP hS hl => lv_ldiv C.hx C.hb hdg hne (k H locs ls hP hS hl)
theorem x_i2l (C : xC p s m args meth c cc nL own ret E A R cells slots) {x : Int32} (hdg : decode cc pc = .ok (.i2l, 1)) (k : WM p l e R s m args below meth c cells slots Q E A nL σ τ (pc + 1) lv (.long (x.toInt64) :: rest)) : WM p l e R s m args below meth c cells slots Q E A nL σ τ pc lv (.int x :: rest) := fun H locs ls hP hS hl => lv_i2l C.hx C.hb hdg rfl (k H locs ls hP hS hl)
theorem x_l2i (C : xC p s m args meth c cc nL own ret E A R cells slots) {x : Int64} (hdg : decode cc pc = .ok (.l2i, 1)) (k : WM p l e R s m args below meth c cells slots Q E A nL σ τ (pc + 1) lv (.int (x.toInt32) :: rest)) : WM p l e R s m args below meth c cells slots Q E A nL σ τ pc lv (.long x :: rest) := fun H locs ls hP hS hl => lv_l2i C.hx C.hb hdg rfl (k H locs ls hP hS hl)
theorem x_i2b (C : xC p s m args meth c cc nL own ret E A R cells slots) {x : Int32} (hdg : decode cc pc = .ok (.i2b, 1)) (k : WM p l e R s m args below meth c cells slots Q E A nL σ τ (pc + 1) lv (.int (x.toInt8.toInt32) :: rest)) : WM p l e R s m args below meth c cells slots Q E A nL σ τ pc lv (.int x :: rest) := fun H locs ls hP hS hl => lv_i2b C.hx C.hb hdg rfl (k H locs ls hP hS hl)
theorem x_i2s (C : xC p s m args meth c cc nL own ret E A R cells slots) {x : Int32} (hdg : decode cc pc = .ok (.i2s, 1)) (k : WM p l e R s m args below meth c cells slots Q E A nL σ τ (pc + 1) lv (.int (x.toInt16.toInt32) :: rest)) : WM p l e R s m args below meth c cells slots Q E A nL σ τ pc lv (.int x :: rest) := fun H locs ls hP hS hl => lv_i2s C.hx C.hb hdg rfl (k H locs ls hP hS hl)
theorem x_i2c (C : xC p s m args meth c cc nL own ret E A R cells slots) {x : Int32} (hdg : decode cc pc = .ok (.i2c, 1)) (k : WM p l e R s m args below meth c cells slots Q E A nL σ τ (pc + 1) lv (.int ((x.toUInt32 % 65536).toInt32) :: rest)) : WM p l e R s m args below meth c cells slots Q E A nL σ τ pc lv (.int x :: rest) := fun H locs ls hP hS hl => lv_i2c C.hx C.hb hdg rfl (k H locs ls hP hS hl)
theorem x_lcmp (C : xC p s m args meth c cc nL own ret E A R cells slots) {x y : Int64} (hdg : decode cc pc = .ok (.lcmp, 1)) (k : WM p l e R s m args below meth c cells slots Q E A nL σ τ (pc + 1) lv (.int (lg_cmp x y) :: rest)) : WM p l e R s m args below meth c cells slots Q E A nL σ τ pc lv (.long y :: .long x :: rest) := fun H locs ls hP hS hl => W.lcmp C.hx C.hb hdg (k H locs ls hP hS hl)
theorem x_dup (C : xC p s m args meth c cc nL own ret E A R cells slots) {va : Value} (hdg : decode cc pc = .ok (.dup, 1)) (hva : va.category = 1) (k : WM p l e R s m args below meth c cells slots Q E A nL σ τ (pc + 1) lv (va :: va :: rest)) : WM p l e R s m args below meth c cells slots Q E A nL σ τ pc lv (va :: rest) := fun H locs ls hP hS hl => lv_dup C.hx C.hb hdg hva (k H locs ls hP hS hl)
theorem x_dup2 (C : xC p s m args meth c cc nL own ret E A R cells slots) {va vb : Value} (hdg : decode cc pc = .ok (.dup2, 1)) (hva : va.category = 1) (hvb : vb.category = 1) (k : WM p l e R s m args below meth c cells slots Q E A nL σ τ (pc + 1) lv (va :: vb :: va :: vb :: rest)) : WM p l e R s m args below meth c cells slots Q E A nL σ τ pc lv (va :: vb :: rest) := fun H locs ls hP hS hl => lv_dup2_11 C.hx C.hb hdg hva hvb (k H locs ls hP hS hl)
theorem x_pop (C : xC p s m args meth c cc nL own ret E A R cells slots) {va : Value} (hdg : decode cc pc = .ok (.pop, 1)) (hva : va.category = 1) (k : WM p l e R s m args below meth c cells slots Q E A nL σ τ (pc + 1) lv (rest)) : WM p l e R s m args below meth c cells slots Q E A nL σ τ pc lv (va :: rest) := fun H locs ls hP hS hl => lv_pop C.hx C.hb hdg hva (k H locs ls hP hS hl)
theorem x_if_eq (C : xC p s m args meth c cc nL own ret E A R cells slots) {x : Int32} {off : Int} {tgt : Nat} (hdg : decode cc pc = .ok (.ifCond .eq off, 3)) (ht : (pc : Int) + off = (tgt : Int)) (kt : x = 0 → WM p l e R s m args below meth c cells slots Q E A nL σ τ tgt lv (rest)) (kf : ¬ x = 0 → WM p l e R s m args below meth c cells slots Q E A nL σ τ (pc + 3) lv (rest)) : WM p l e R s m args below meth c cells slots Q E A nL σ τ pc lv (.int x :: rest) := fun H locs ls hP hS hl => lv_if_eq C.hx C.hb hdg ht (fun h => kt (by first | exact h | exact Int32.not_lt.mpr h | exact Int32.not_le.mp h | exact Decidable.not_not.mp h | exact fun q => h (Int32.not_lt.mp q)) H locs ls hP hS hl) (fun h => kf (by first | exact h | exact Int32.not_lt.mpr h | exact Int32.not_le.mp h | exact Decidable.not_not.mp h | exact fun q => h (Int32.not_lt.mp q)) H locs ls hP hS hl)
theorem x_icmp_eq (C : xC p s m args meth c cc nL own ret E A R cells slots) {x y : Int32} {off : Int} {tgt : Nat} (hdg : decode cc pc = .ok (.if_icmp .eq off, 3)) (ht : (pc : Int) + off = (tgt : Int)) (kt : x = y → WM p l e R s m args below meth c cells slots Q E A nL σ τ tgt lv (rest)) (kf : ¬ x = y → WM p l e R s m args below meth c cells slots Q E A nL σ τ (pc + 3) lv (rest)) : WM p l e R s m args below meth c cells slots Q E A nL σ τ pc lv (.int y :: .int x :: rest) := fun H locs ls hP hS hl => lv_icmp_eq C.hx C.hb hdg ht (fun h => kt (by first | exact h | exact Int32.not_lt.mpr h | exact Int32.not_le.mp h | exact Decidable.not_not.mp h | exact fun q => h (Int32.not_lt.mp q)) H locs ls hP hS hl) (fun h => kf (by first | exact h | exact Int32.not_lt.mpr h | exact Int32.not_le.mp h | exact Decidable.not_not.mp h | exact fun q => h (Int32.not_lt.mp q)) H locs ls hP hS hl)
theorem x_if_ne (C : xC p s m args meth c cc nL own ret E A R cells slots) {x : Int32} {off : Int} {tgt : Nat} (hdg : decode cc pc = .ok (.ifCond .ne off, 3)) (ht : (pc : Int) + off = (tgt : Int)) (kt : ¬ x = 0 → WM p l e R s m args below meth c cells slots Q E A nL σ τ tgt lv (rest)) (kf : x = 0 → WM p l e R s m args below meth c cells slots Q E A nL σ τ (pc + 3) lv (rest)) : WM p l e R s m args below meth c cells slots Q E A nL σ τ pc lv (.int x :: rest) := fun H locs ls hP hS hl => lv_if_ne C.hx C.hb hdg ht (fun h => kt (by first | exact h | exact Int32.not_lt.mpr h | exact Int32.not_le.mp h | exact Decidable.not_not.mp h | exact fun q => h (Int32.not_lt.mp q)) H locs ls hP hS hl) (fun h => kf (by first | exact h | exact Int32.not_lt.mpr h | exact Int32.not_le.mp h | exact Decidable.not_not.mp h | exact fun q => h (Int32.not_lt.mp q)) H locs ls hP hS hl)
theorem x_icmp_ne (C : xC p s m args meth c cc nL own ret E A R cells slots) {x y : Int32} {off : Int} {tgt : Nat} (hdg : decode cc pc = .ok (.if_icmp .ne off, 3)) (ht : (pc : Int) + off = (tgt : Int)) (kt : ¬ x = y → WM p l e R s m args below meth c cells slots Q E A nL σ τ tgt lv (rest)) (kf : x = y → WM p l e R s m args below meth c cells slots Q E A nL σ τ (pc + 3) lv (rest)) : WM p l e R s m args below meth c cells slots Q E A nL σ τ pc lv (.int y :: .int x :: rest) := fun H locs ls hP hS hl => lv_icmp_ne C.hx C.hb hdg ht (fun h => kt (by first | exact h | exact Int32.not_lt.mpr h | exact Int32.not_le.mp h | exact Decidable.not_not.mp h | exact fun q => h (Int32.not_lt.mp q)) H locs ls hP hS hl) (fun h => kf (by first | exact h | exact Int32.not_lt.mpr h | exact Int32.not_le.mp h | exact Decidable.not_not.mp h | exact fun q => h (Int32.not_lt.mp q)) H locs ls hP hS hl)
theorem x_if_lt (C : xC p s m args meth c cc nL own ret E A R cells slots) {x : Int32} {off : Int} {tgt : Nat} (hdg : decode cc pc = .ok (.ifCond .lt off, 3)) (ht : (pc : Int) + off = (tgt : Int)) (kt : x < 0 → WM p l e R s m args below meth c cells slots Q E A nL σ τ tgt lv (rest)) (kf : ¬ x < 0 → WM p l e R s m args below meth c cells slots Q E A nL σ τ (pc + 3) lv (rest)) : WM p l e R s m args below meth c cells slots Q E A nL σ τ pc lv (.int x :: rest) := fun H locs ls hP hS hl => lv_if_lt C.hx C.hb hdg ht (fun h => kt (by first | exact h | exact Int32.not_lt.mpr h | exact Int32.not_le.mp h | exact Decidable.not_not.mp h | exact fun q => h (Int32.not_lt.mp q)) H locs ls hP hS hl) (fun h => kf (by first | exact h | exact Int32.not_lt.mpr h | exact Int32.not_le.mp h | exact Decidable.not_not.mp h | exact fun q => h (Int32.not_lt.mp q)) H locs ls hP hS hl)
theorem x_icmp_lt (C : xC p s m args meth c cc nL own ret E A R cells slots) {x y : Int32} {off : Int} {tgt : Nat} (hdg : decode cc pc = .ok (.if_icmp .lt off, 3)) (ht : (pc : Int) + off = (tgt : Int)) (kt : x < y → WM p l e R s m args below meth c cells slots Q E A nL σ τ tgt lv (rest)) (kf : ¬ x < y → WM p l e R s m args below meth c cells slots Q E A nL σ τ (pc + 3) lv (rest)) : WM p l e R s m args below meth c cells slots Q E A nL σ τ pc lv (.int y :: .int x :: rest) := fun H locs ls hP hS hl => lv_icmp_lt C.hx C.hb hdg ht (fun h => kt (by first | exact h | exact Int32.not_lt.mpr h | exact Int32.not_le.mp h | exact Decidable.not_not.mp h | exact fun q => h (Int32.not_lt.mp q)) H locs ls hP hS hl) (fun h => kf (by first | exact h | exact Int32.not_lt.mpr h | exact Int32.not_le.mp h | exact Decidable.not_not.mp h | exact fun q => h (Int32.not_lt.mp q)) H locs ls hP hS hl)
theorem x_if_ge (C : xC p s m args meth c cc nL own ret E A R cells slots) {x : Int32} {off : Int} {tgt : Nat} (hdg : decode cc pc = .ok (.ifCond .ge off, 3)) (ht : (pc : Int) + off = (tgt : Int)) (kt : ¬ x < 0 → WM p l e R s m args below meth c cells slots Q E A nL σ τ tgt lv (rest)) (kf : x < 0 → WM p l e R s m args below meth c cells slots Q E A nL σ τ (pc + 3) lv (rest)) : WM p l e R s m args below meth c cells slots Q E A nL σ τ pc lv (.int x :: rest) := fun H locs ls hP hS hl => lv_if_ge C.hx C.hb hdg ht (fun h => kt (by first | exact h | exact Int32.not_lt.mpr h | exact Int32.not_le.mp h | exact Decidable.not_not.mp h | exact fun q => h (Int32.not_lt.mp q)) H locs ls hP hS hl) (fun h => kf (by first | exact h | exact Int32.not_lt.mpr h | exact Int32.not_le.mp h | exact Decidable.not_not.mp h | exact fun q => h (Int32.not_lt.mp q)) H locs ls hP hS hl)
theorem x_icmp_ge (C : xC p s m args meth c cc nL own ret E A R cells slots) {x y : Int32} {off : Int} {tgt : Nat} (hdg : decode cc pc = .ok (.if_icmp .ge off, 3)) (ht : (pc : Int) + off = (tgt : Int)) (kt : ¬ x < y → WM p l e R s m args below meth c cells slots Q E A nL σ τ tgt lv (rest)) (kf : x < y → WM p l e R s m args below meth c cells slots Q E A nL σ τ (pc + 3) lv (rest)) : WM p l e R s m args below meth c cells slots Q E A nL σ τ pc lv (.int y :: .int x :: rest) := fun H locs ls hP hS hl => lv_icmp_ge C.hx C.hb hdg ht (fun h => kt (by first | exact h | exact Int32.not_lt.mpr h | exact Int32.not_le.mp h | exact Decidable.not_not.mp h | exact fun q => h (Int32.not_lt.mp q)) H locs ls hP hS hl) (fun h => kf (by first | exact h | exact Int32.not_lt.mpr h | exact Int32.not_le.mp h | exact Decidable.not_not.mp h | exact fun q => h (Int32.not_lt.mp q)) H locs ls hP hS hl)
theorem x_if_gt (C : xC p s m args meth c cc nL own ret E A R cells slots) {x : Int32} {off : Int} {tgt : Nat} (hdg : decode cc pc = .ok (.ifCond .gt off, 3)) (ht : (pc : Int) + off = (tgt : Int)) (kt : 0 < x → WM p l e R s m args below meth c cells slots Q E A nL σ τ tgt lv (rest)) (kf : ¬ 0 < x → WM p l e R s m args below meth c cells slots Q E A nL σ τ (pc + 3) lv (rest)) : WM p l e R s m args below meth c cells slots Q E A nL σ τ pc lv (.int x :: rest) := fun H locs ls hP hS hl => lv_if_gt C.hx C.hb hdg ht (fun h => kt (by first | exact h | exact Int32.not_lt.mpr h | exact Int32.not_le.mp h | exact Decidable.not_not.mp h | exact fun q => h (Int32.not_lt.mp q)) H locs ls hP hS hl) (fun h => kf (by first | exact h | exact Int32.not_lt.mpr h | exact Int32.not_le.mp h | exact Decidable.not_not.mp h | exact fun q => h (Int32.not_lt.mp q)) H locs ls hP hS hl)
theorem x_icmp_gt (C : xC p s m args meth c cc nL own ret E A R cells slots) {x y : Int32} {off : Int} {tgt : Nat} (hdg : decode cc pc = .ok (.if_icmp .gt off, 3)) (ht : (pc : Int) + off = (tgt : Int)) (kt : y < x → WM p l e R s m args below meth c cells slots Q E A nL σ τ tgt lv (rest)) (kf : ¬ y < x → WM p l e R s m args below meth c cells slots Q E A nL σ τ (pc + 3) lv (rest)) : WM p l e R s m args below meth c cells slots Q E A nL σ τ pc lv (.int y :: .int x :: rest) := fun H locs ls hP hS hl => lv_icmp_gt C.hx C.hb hdg ht (fun h => kt (by first | exact h | exact Int32.not_lt.mpr h | exact Int32.not_le.mp h | exact Decidable.not_not.mp h | exact fun q => h (Int32.not_lt.mp q)) H locs ls hP hS hl) (fun h => kf (by first | exact h | exact Int32.not_lt.mpr h | exact Int32.not_le.mp h | exact Decidable.not_not.mp h | exact fun q => h (Int32.not_lt.mp q)) H locs ls hP hS hl)
theorem x_if_le (C : xC p s m args meth c cc nL own ret E A R cells slots) {x : Int32} {off : Int} {tgt : Nat} (hdg : decode cc pc = .ok (.ifCond .le off, 3)) (ht : (pc : Int) + off = (tgt : Int)) (kt : ¬ 0 < x → WM p l e R s m args below meth c cells slots Q E A nL σ τ tgt lv (rest)) (kf : 0 < x → WM p l e R s m args below meth c cells slots Q E A nL σ τ (pc + 3) lv (rest)) : WM p l e R s m args below meth c cells slots Q E A nL σ τ pc lv (.int x :: rest) := fun H locs ls hP hS hl => lv_if_le C.hx C.hb hdg ht (fun h => kt (by first | exact h | exact Int32.not_lt.mpr h | exact Int32.not_le.mp h | exact Decidable.not_not.mp h | exact fun q => h (Int32.not_lt.mp q)) H locs ls hP hS hl) (fun h => kf (by first | exact h | exact Int32.not_lt.mpr h | exact Int32.not_le.mp h | exact Decidable.not_not.mp h | exact fun q => h (Int32.not_lt.mp q)) H locs ls hP hS hl)
theorem x_icmp_le (C : xC p s m args meth c cc nL own ret E A R cells slots) {x y : Int32} {off : Int} {tgt : Nat} (hdg : decode cc pc = .ok (.if_icmp .le off, 3)) (ht : (pc : Int) + off = (tgt : Int)) (kt : ¬ y < x → WM p l e R s m args below meth c cells slots Q E A nL σ τ tgt lv (rest)) (kf : y < x → WM p l e R s m args below meth c cells slots Q E A nL σ τ (pc + 3) lv (rest)) : WM p l e R s m args below meth c cells slots Q E A nL σ τ pc lv (.int y :: .int x :: rest) := fun H locs ls hP hS hl => lv_icmp_le C.hx C.hb hdg ht (fun h => kt (by first | exact h | exact Int32.not_lt.mpr h | exact Int32.not_le.mp h | exact Decidable.not_not.mp h | exact fun q => h (Int32.not_lt.mp q)) H locs ls hP hS hl) (fun h => kf (by first | exact h | exact Int32.not_lt.mpr h | exact Int32.not_le.mp h | exact Decidable.not_not.mp h | exact fun q => h (Int32.not_lt.mp q)) H locs ls hP hS hl)
theorem x_goto (C : xC p s m args meth c cc nL own ret E A R cells slots) {off : Int} {tgt : Nat} (hdg : decode cc pc = .ok (.goto off, 3)) (ht : (pc : Int) + off = (tgt : Int)) (k : WM p l e R s m args below meth c cells slots Q E A nL σ τ tgt lv (rest)) : WM p l e R s m args below meth c cells slots Q E A nL σ τ pc lv (rest) := fun H locs ls hP hS hl => lv_goto C.hx C.hb hdg ht (k H locs ls hP hS hl)
theorem x_goto2 (C : xC p s m args meth c cc nL own ret E A R cells slots) {off : Int} {tgt : Nat} (hdg : decode cc pc = .ok (.goto off, 3)) (ht : (pc : Int) + off = (tgt : Int)) (k : WM p l e R s m args below meth c cells slots Q E A nL σ τ tgt lv (rest)) : WM p l e R s m args below meth c cells slots Q E A nL σ τ pc lv (rest) := x_goto C hdg ht k
theorem x_tableOut (C : xC p s m args meth c cc nL own ret E A R cells slots) {dflt lo hi : Int} {offs : Array Int} {len : Nat} {x : Int32} {tgt : Nat} (hdg : decode cc pc = .ok (.tableswitch dflt lo hi offs, len)) (h : x.toInt < lo ∨ hi < x.toInt) (ht : (pc : Int) + dflt = (tgt : Int)) (k : WM p l e R s m args below meth c cells slots Q E A nL σ τ tgt lv (rest)) : WM p l e R s m args below meth c cells slots Q E A nL σ τ pc lv (.int x :: rest) := fun H locs ls hP hS hl => lv_tableOut C.hx C.hb hdg h ht (k H locs ls hP hS hl)
theorem x_tableIn (C : xC p s m args meth c cc nL own ret E A R cells slots) {dflt lo hi : Int} {offs : Array Int} {len : Nat} {x : Int32} {off : Int} {tgt : Nat} (hdg : decode cc pc = .ok (.tableswitch dflt lo hi offs, len)) (h1 : ¬ x.toInt < lo) (h2 : ¬ hi < x.toInt) (ho : offs[(x.toInt - lo).toNat]? = some off) (ht : (pc : Int) + off = (tgt : Int)) (k : WM p l e R s m args below meth c cells slots Q E A nL σ τ tgt lv (rest)) : WM p l e R s m args below meth c cells slots Q E A nL σ τ pc lv (.int x :: rest) := fun H locs ls hP hS hl => lv_tableIn C.hx C.hb hdg h1 h2 ho ht (k H locs ls hP hS hl)
theorem x_lookup (C : xC p s m args meth c cc nL own ret E A R cells slots) {dflt : Int} {ps : Array (Int × Int)} {len : Nat} {x : Int32} {off : Int} {tgt : Nat} (hdg : decode cc pc = .ok (.lookupswitch dflt ps, len)) (hp : (ps.toList.zip (ps.toList.drop 1)).all (fun (a, next) => a.1 < next.1) = true) (ho : Op.lookupswitch.offset ps.toList dflt x.toInt = off) (ht : (pc : Int) + off = (tgt : Int)) (k : WM p l e R s m args below meth c cells slots Q E A nL σ τ tgt lv (rest)) : WM p l e R s m args below meth c cells slots Q E A nL σ τ pc lv (.int x :: rest) := fun H locs ls hP hS hl => lv_lookup C.hx C.hb hdg hp ho ht (k H locs ls hP hS hl)
/-- a test of a condition -/
theorem x_ifeqB (C : xC p s m args meth c cc nL own ret E A R cells slots) {P : Prop} [Decidable P] {off : Int} {tgt : Nat} (hdg : decode cc pc = .ok (.ifCond .eq off, 3)) (ht : (pc : Int) + off = (tgt : Int)) (kt : ¬ P → WM p l e R s m args below meth c cells slots Q E A nL σ τ tgt lv (rest)) (kf : P → WM p l e R s m args below meth c cells slots Q E A nL σ τ (pc + 3) lv (rest)) : WM p l e R s m args below meth c cells slots Q E A nL σ τ pc lv (.int (if P then 1 else 0) :: rest) :=
  x_if_eq C hdg ht (fun h => kt (fun q => by rw [if_pos q] at h; cases h)) (fun h => kf (Decidable.not_not.mp (fun q => h (if_neg q))))
theorem x_ifneB (C : xC p s m args meth c cc nL own ret E A R cells slots) {P : Prop} [Decidable P] {off : Int} {tgt : Nat} (hdg : decode cc pc = .ok (.ifCond .ne off, 3)) (ht : (pc : Int) + off = (tgt : Int)) (kt : P → WM p l e R s m args below meth c cells slots Q E A nL σ τ tgt lv (rest)) (kf : ¬ P → WM p l e R s m args below meth c cells slots Q E A nL σ τ (pc + 3) lv (rest)) : WM p l e R s m args below meth c cells slots Q E A nL σ τ pc lv (.int (if P then 1 else 0) :: rest) :=
  x_if_ne C hdg ht (fun h => kt (Decidable.not_not.mp (fun q => h (if_neg q)))) (fun h => kf (fun q => by rw [if_pos q] at h; cases h))
theorem xcmp_lt {x y : Int64} : lg_cmp x y < 0 ↔ x < y := by
  unfold lg_cmp
  by_cases h1 : x > y
  · rw [if_pos h1]
    exact ⟨fun h => absurd h (by decide), fun h => absurd (Int64.lt_trans h h1) (Int64.lt_irrefl)⟩
  · rw [if_neg h1]
    by_cases h2 : x = y
    · subst h2
      rw [if_pos rfl]
      exact ⟨fun h => absurd h (by decide), fun h => absurd h (Int64.lt_irrefl)⟩
    · rw [if_neg h2]
      refine ⟨fun _ => ?_, fun _ => by decide⟩
      rw [Int64.lt_iff_toInt_lt]
      have h3 : ¬ y.toInt < x.toInt := fun q => h1 (Int64.lt_iff_toInt_lt.mpr q)
      have h4 : ¬ x.toInt = y.toInt := fun q => h2 (Int64.toInt_inj.mp q)
      omega
theorem xcmp_gt {x y : Int64} : 0 < lg_cmp x y ↔ y < x := by
  unfold lg_cmp
  by_cases h1 : x > y
  · rw [if_pos h1]
    exact ⟨fun _ => h1, fun _ => by decide⟩
  · rw [if_neg h1]
    refine ⟨fun h => ?_, fun h => absurd h h1⟩
    by_cases h2 : x = y
    · rw [if_pos h2] at h
      exact absurd h (by decide)
    · rw [if_neg h2] at h
      exact absurd h (by decide)
theorem xcmp_eq {x y : Int64} : lg_cmp x y = 0 ↔ x = y := by
  unfold lg_cmp
  by_cases h1 : x > y
  · rw [if_pos h1]
    exact ⟨fun h => absurd h (by decide), fun h => absurd (h ▸ h1) (Int64.lt_irrefl)⟩
  · rw [if_neg h1]
    by_cases h2 : x = y
    · rw [if_pos h2]
      exact ⟨fun _ => h2, fun _ => rfl⟩
    · rw [if_neg h2]
      exact ⟨fun h => absurd h (by decide), fun h => absurd h h2⟩
/-- where a field of an object stands -/
def xFl (own : String) (index ci f : Nat) : Prop := ∃ (Cn : String) (T : u_T) (N : Nat), vwCl[ci]? = some (Cn, T, N) ∧ f < N ∧ (∀ w ∈ u_ws Cn T N, w ∈ xT) ∧ Cond.fieldLink own index (T f).1 (T f).2.1 (T f).2.2.1 ∈ xT
def xFp (own : String) (index ci f : Nat) (ty : FieldType) : Prop := ∃ (Cn : String) (T : u_T) (N : Nat) (ty0 : Nat → FieldType), vwCl[ci]? = some (Cn, T, N) ∧ f < N ∧ (∀ w ∈ u_ws Cn T N, w ∈ xT) ∧ Cond.fieldLink own index (T f).1 (T f).2.1 (T f).2.2.1 ∈ xT ∧ (∀ k, k < N → parseFieldDescriptor (T k).2.2.1 = some (ty0 k)) ∧ (∀ a, a < N → ∀ b, b < N → a ≠ b → (T a).2.1 ≠ (T b).2.1) ∧ (T f).2.2.2 = false ∧ parseFieldDescriptor (T f).2.2.1 = some ty
theorem xcl_lt {ci : Nat} {q : vw_C} (h : vwCl[ci]? = some q) : ci < 9 := (List.getElem?_eq_some_iff.mp h).1
theorem xw_obj {k ci : Nat} {fs : List (Nat × Nat × Nat)} (hk : k < 94) (hd : xd k = (ci, fs)) (hc : ci < 9) : (xw E σ τ)[k]? = some (xad E k, .inr (ci, fs.map (xv E σ τ))) := by
  rw [xw_at hk, hd]
  unfold xce
  rw [if_pos hc]
theorem xw_arr {k n b o st : Nat} (hk : k < 94) (hd : xd k = (9, [(n, b, o), (st, 0, 0)])) : (xw E σ τ)[k]? = some (xad E k, .inl (xcA E 0, n, .inl (xtr n (fun j => σ b (o + st * j))))) := by
  rw [xw_at hk, hd]
  rfl
theorem xw_arq {k t n o st : Nat} (hk : k < 94) (ht : t = 1 ∨ t = 2) (hd : xd k = (9 + t, [(n, o, st)])) : (xw E σ τ)[k]? = some (xad E k, .inl (xcA E t, n, .inr (.inr (.inr (.inr (fun j => some (xad E (o + st * j)))))))) := by
  rw [xw_at hk, hd]
  rcases ht with rfl | rfl <;> rfl
theorem x_get (C : xC p s m args meth c cc nL own ret E A R cells slots) {k ci f index : Nat} {fs : List (Nat × Nat × Nat)} {q : Nat × Nat × Nat} {v : Value} (hk : k < 94) (hd : xd k = (ci, fs)) (hf : xFl own index ci f) (hq : fs[f]? = some q) (hv : xv E σ τ q = v) (hdg : decode cc pc = .ok (.getfield index, 3)) (kk : WM p l e R s m args below meth c cells slots Q E A nL σ τ (pc + 3) lv (v :: rest)) : WM p l e R s m args below meth c cells slots Q E A nL σ τ pc lv (.ref (xad E k) :: rest) := by
  obtain ⟨Cn, T, N, hc, hfN, hin, hlink⟩ := hf
  intro H locs ls hP hS hl
  exact va_get C.hx C.hb C.hts hin C.hown C.hK hP k (xw_obj hk hd (xcl_lt hc)) hc f hfN (C.hts _ hlink) (fun _ h => h) (by rw [List.getElem?_map, hq]; exact congrArg some hv) hdg (kk H locs ls hP hS hl)
theorem xset_map {k f : Nat} {fs : List (Nat × Nat × Nat)} {q : Nat × Nat × Nat} {v : Value} (hk : k < 94) (hfs : (xd k).2 = fs) (hq : fs[f]? = some q) (hv : xv E σ' τ' q = v) (ho : ∀ q2 ∈ fs, q2 ≠ q → xv E σ' τ' q2 = xv E σ τ q2) : (fs.map (xv E σ τ)).set f v = fs.map (xv E σ' τ') := by
  apply List.ext_getElem?
  intro j
  have hl := (List.getElem?_eq_some_iff.mp hq).1
  by_cases hj : j = f
  · subst hj
    rw [List.getElem?_set_self (by rw [List.length_map]; exact hl), List.getElem?_map, hq]
    exact congrArg some hv.symm
  · rw [List.getElem?_set_ne (Ne.symm hj), List.getElem?_map, List.getElem?_map]
    cases hx : fs[j]? with
    | none => rfl
    | some q2 =>
      refine congrArg some (ho q2 (List.mem_of_getElem? hx) ?_).symm
      rintro rfl
      exact hj (xnd hk (by rw [hfs]; exact hx) (by rw [hfs]; exact hq))
theorem x_put (C : xC p s m args meth c cc nL own ret E A R cells slots) {k ci f index b i : Nat} {fs : List (Nat × Nat × Nat)} {ty : FieldType} {x : Int32} (hk : k < 94) (hd : xd k = (ci, fs)) (hf : xFp own index ci f ty) (hq : fs[f]? = some (1, b, i)) (hn : narrow ty (.int x) = .int x) (hfit : fits ty (.int x) = true) (hσ : u2 σ b i x = σ') (hdg : decode cc pc = .ok (.putfield index, 3)) (kk : WM p l e R s m args below meth c cells slots Q E A nL σ' τ (pc + 3) lv (rest)) : WM p l e R s m args below meth c cells slots Q E A nL σ τ pc lv (.int x :: .ref (xad E k) :: rest) := by
  obtain ⟨Cn, T, N, ty0, hc, hfN, hin, hlink, hty, hnm, hfin, hpd⟩ := hf
  subst hσ
  intro H locs ls hP hS hl
  have hlen := (List.getElem?_eq_some_iff.mp hq).1
  have hfs : (xd k).2 = fs := by rw [hd]
  have hin2 : xin (xd k) b i = true := by
    rw [hd]
    unfold xin
    rw [if_pos (xcl_lt hc)]
    exact List.any_eq_true.mpr ⟨_, List.mem_of_getElem? hq, by simp⟩
  refine va_put C.hx C.hb C.hts hin ty0 hty hnm C.hown C.hK hP C.hI.D hS k (xw_obj hk hd (xcl_lt hc)) hc f hfN (C.hts _ hlink) (fun _ h => h) hfin hpd hn hfit (by rw [List.length_map]; exact hlen) hdg (fun H1 locs1 hP1 hD1 hS1 => kk H1 locs1 ls ?_ hS1 hl)
  refine xP.set hk hP1 (fun h => ?_) (xother hk hin2)
  rw [hd]
  unfold xce
  rw [if_pos (xcl_lt hc)]
  rw [xset_map hk hfs hq (show xv E (u2 σ b i x) τ (1, b, i) = _ from congrArg Value.int (u2_at σ b i x)) (fun q2 _ hne => ?_)] at h
  · exact h
  · obtain ⟨t, a, z⟩ := q2
    match t, hne with
    | 0, _ => rfl
    | 1, hne =>
      refine congrArg Value.int (u2_ne (fun w => hne ?_))
      have w1 : a = b := w.1
      have w2 : z = i := w.2
      rw [w1, w2]
    | 2, _ => rfl
    | n + 3, _ => rfl
theorem x_putL (C : xC p s m args meth c cc nL own ret E A R cells slots) {k ci f index a : Nat} {fs : List (Nat × Nat × Nat)} {x : Int64} (hk : k < 94) (hd : xd k = (ci, fs)) (hf : xFp own index ci f .long) (hq : fs[f]? = some (2, a, 0)) (hτ : va_up τ a x = τ') (hdg : decode cc pc = .ok (.putfield index, 3)) (kk : WM p l e R s m args below meth c cells slots Q E A nL σ τ' (pc + 3) lv (rest)) : WM p l e R s m args below meth c cells slots Q E A nL σ τ pc lv (.long x :: .ref (xad E k) :: rest) := by
  obtain ⟨Cn, T, N, ty0, hc, hfN, hin, hlink, hty, hnm, hfin, hpd⟩ := hf
  subst hτ
  intro H locs ls hP hS hl
  have hlen := (List.getElem?_eq_some_iff.mp hq).1
  have hfs : (xd k).2 = fs := by rw [hd]
  have hm : (2, a, 0) ∈ (xd k).2 := by rw [hfs]; exact List.mem_of_getElem? hq
  refine va_put C.hx C.hb C.hts hin ty0 hty hnm C.hown C.hK hP C.hI.D hS k (xw_obj hk hd (xcl_lt hc)) hc f hfN (C.hts _ hlink) (fun _ h => h) hfin hpd rfl rfl (by rw [List.length_map]; exact hlen) hdg (fun H1 locs1 hP1 hD1 hS1 => kk H1 locs1 ls ?_ hS1 hl)
  refine xP.set hk hP1 (fun h => ?_) (fun j hj hne => xce_agree (fun _ _ _ => rfl) (fun a2 h2 => va_up_ne _ _ (fun w => ?_)))
  · rw [hd]
    unfold xce
    rw [if_pos (xcl_lt hc)]
    rw [xset_map hk hfs hq (show xv E σ (va_up τ a x) (2, a, 0) = _ from congrArg Value.long (va_up_self τ a x)) (fun q2 hq2 hne => ?_)] at h
    · exact h
    · obtain ⟨t, a2, z⟩ := q2
      match t, hne, hq2 with
      | 0, _, _ => rfl
      | 1, _, _ => rfl
      | 2, hne, hq2 =>
        refine congrArg Value.long (va_up_ne _ _ (fun w => hne ?_))
        subst w
        have hz := List.all_eq_true.mp xL0 _ (xd_mem hk)
        have h4 : ¬ 9 ≤ (xd k).1 := by rw [hd]; have := xcl_lt hc; omega
        simp only [ge_iff_le, h4, decide_false, Bool.false_or] at hz
        rw [hfs] at hz
        have h3 := List.all_eq_true.mp hz _ hq2
        simp at h3
        rw [h3]
      | n + 3, _, _ => rfl
  · subst w
    rw [xsepL hk hj hne (by rw [hd]; exact xcl_lt hc) hm] at h2
    cases h2
/-- a place of an int array -/
theorem x_ald (C : xC p s m args meth c cc nL own ret E A R cells slots) {k n b o st : Nat} {i v : Int32} (hk : k < 94) (hd : xd k = (9, [(n, b, o), (st, 0, 0)])) (hin : vp_in i n) (hv : σ b (o + st * i.toNatClampNeg) = v) (hdg : decode cc pc = .ok (.iaload, 1)) (kk : WM p l e R s m args below meth c cells slots Q E A nL σ τ (pc + 1) lv (.int v :: rest)) : WM p l e R s m args below meth c cells slots Q E A nL σ τ pc lv (.int i :: .ref (xad E k) :: rest) := by
  intro H locs ls hP hS hl
  have hlt : i.toNatClampNeg < n := Nat.not_le.mp fun q => hin (Or.inr q)
  refine va_iald C.hx C.hb C.hK hP k 0 (xw_arr hk hd) rfl hin hdg ?_
  have e9 : xtr n (fun j => σ b (o + st * j)) i.toNatClampNeg = v := by
    unfold xtr
    rw [if_pos hlt]
    exact hv
  rw [e9]
  exact kk H locs ls hP hS hl
theorem x_ast (C : xC p s m args meth c cc nL own ret E A R cells slots) {k n b o st : Nat} {i x : Int32} (hk : k < 94) (hd : xd k = (9, [(n, b, o), (st, 0, 0)])) (hst : 0 < st) (hin : vp_in i n) (hσ : u2 σ b (o + st * i.toNatClampNeg) x = σ') (hdg : decode cc pc = .ok (.iastore, 1)) (kk : WM p l e R s m args below meth c cells slots Q E A nL σ' τ (pc + 1) lv (rest)) : WM p l e R s m args below meth c cells slots Q E A nL σ τ pc lv (.int x :: .int i :: .ref (xad E k) :: rest) := by
  subst hσ
  intro H locs ls hP hS hl
  have hlt : i.toNatClampNeg < n := Nat.not_le.mp fun q => hin (Or.inr q)
  have hin2 : xin (xd k) b (o + st * i.toNatClampNeg) = true := by
    have h := xin_arr (d := xd k) (by rw [hd]) (j := i.toNatClampNeg) (by rw [hd]; exact hlt)
    rw [hd] at h ⊢
    exact h
  refine va_iast C.hx C.hb C.hK hP C.hI.D hS k 0 (xw_arr hk hd) rfl hin hdg (fun H1 locs1 hP1 hD1 hS1 => kk H1 locs1 ls ?_ hS1 hl)
  refine xP.set hk hP1 (fun h => ?_) (xother hk hin2)
  have e : upd (xtr n (fun j => σ b (o + st * j))) i.toNatClampNeg x = xtr n (fun j => u2 σ b (o + st * i.toNatClampNeg) x b (o + st * j)) := by
    funext j
    unfold upd xtr
    by_cases hj : j = i.toNatClampNeg
    · subst hj
      rw [if_pos rfl, if_pos hlt]
      exact (u2_at _ _ _ _).symm
    · rw [if_neg hj]
      by_cases hjn : j < n
      · rw [if_pos hjn, if_pos hjn]
        refine (u2_ne ?_).symm
        rintro ⟨-, w⟩
        exact hj (Nat.eq_of_mul_eq_mul_left hst (Nat.add_left_cancel w))
      · rw [if_neg hjn, if_neg hjn]
  rw [e] at h
  rw [hd]
  exact h
theorem x_aldq (C : xC p s m args meth c cc nL own ret E A R cells slots) {k t n o st : Nat} {Cn : String} {i : Int32} {z : Nat} (hk : k < 94) (ht : t = 1 ∨ t = 2) (hd : xd k = (9 + t, [(n, o, st)])) (hty : (xtys E)[t]? = some (xcA E t, .object Cn)) (hin : vp_in i n) (hz : o + st * i.toNatClampNeg = z) (hdg : decode cc pc = .ok (.aaload, 1)) (kk : WM p l e R s m args below meth c cells slots Q E A nL σ τ (pc + 1) lv (.ref (xad E z) :: rest)) : WM p l e R s m args below meth c cells slots Q E A nL σ τ pc lv (.int i :: .ref (xad E k) :: rest) := by
  subst hz
  intro H locs ls hP hS hl
  exact va_aldq C.hx C.hb C.hK hP k t (xw_arq hk ht hd) hty hin hdg (kk H locs ls hP hS hl)
/-- a static table, and a place of it -/
theorem x_gets (C : xC p s m args meth c cc nL own ret E A R cells slots) {index : Nat} (t : Nat) (ht : t < 5) (hlink : Cond.fieldLink own index (xzc t) (xzn t) "[I" ∈ xT) (hdg : decode cc pc = .ok (.getstatic index, 3)) (kk : WM p l e R s m args below meth c cells slots Q E A nL σ τ (pc + 3) lv (.ref (xst E t) :: rest)) : WM p l e R s m args below meth c cells slots Q E A nL σ τ pc lv (rest) := by
  intro H locs ls hP hS hl
  exact va_gets C.hx C.hb (C.hZ.1 t ht).1 hS C.hown (C.hts _ hlink) (fun _ h => h) hdg (kk H locs ls hP hS hl)
theorem x_ti (C : xC p s m args meth c cc nL own ret E A R cells slots) (t : Nat) (ht : t < 5) {i v : Int32} (hin : vp_in i (xzl t).length) (hv : (xzl t).getD i.toNatClampNeg 0 = v) (hdg : decode cc pc = .ok (.iaload, 1)) (kk : WM p l e R s m args below meth c cells slots Q E A nL σ τ (pc + 1) lv (.int v :: rest)) : WM p l e R s m args below meth c cells slots Q E A nL σ τ pc lv (.int i :: .ref (xst E t) :: rest) := by
  intro H locs ls hP hS hl
  exact va_ti C.hx C.hb (C.hZ.1 t ht).2 hS hin (v := .int v) (by rw [hv]) hdg (kk H locs ls hP hS hl)

theorem x_mmax (C : xC p s m args meth c cc nL own ret E A R cells slots) {index : Nat} {x y : Int32} (hlink : Cond.methodLink own index Lib.Math.max.name ∈ xT) (h4 : Cond.static Lib.Math.max.name ∈ xT ∧ Cond.initialized "java/lang/Math" ∈ xT ∧ Cond.code Lib.Math.max.name Lib.Math.max.code 2 (some .int) ∈ xT) (hR : 1 ≤ R.frames ∧ (rest.map fun v => v.category).sum + 13 ≤ R.locals) (hdg : decode cc pc = .ok (.invokestatic index, 3)) (k : WM p l e R s m args below meth c cells slots Q E A nL σ τ (pc + 3) lv (.int (if x < y then y else x) :: rest)) : WM p l e R s m args below meth c cells slots Q E A nL σ τ pc lv (.int y :: .int x :: rest) := fun H locs ls hP hS hl => va_mmax C.hx C.hb (by rw [C.hml]; exact hl.1.symm) C.hown (C.hts _ hlink) (C.hts _ h4.1) (C.hts _ h4.2.1) (C.hts _ h4.2.2) hR.1 hR.2 C.hc.1 C.hc.2 hdg (k H locs ls hP hS hl)
theorem x_mmin (C : xC p s m args meth c cc nL own ret E A R cells slots) {index : Nat} {x y : Int32} (hlink : Cond.methodLink own index Lib.Math.min.name ∈ xT) (h4 : Cond.static Lib.Math.min.name ∈ xT ∧ Cond.initialized "java/lang/Math" ∈ xT ∧ Cond.code Lib.Math.min.name Lib.Math.min.code 2 (some .int) ∈ xT) (hR : 1 ≤ R.frames ∧ (rest.map fun v => v.category).sum + 13 ≤ R.locals) (hdg : decode cc pc = .ok (.invokestatic index, 3)) (k : WM p l e R s m args below meth c cells slots Q E A nL σ τ (pc + 3) lv (.int (if y < x then y else x) :: rest)) : WM p l e R s m args below meth c cells slots Q E A nL σ τ pc lv (.int y :: .int x :: rest) := fun H locs ls hP hS hl => va_mmin C.hx C.hb (by rw [C.hml]; exact hl.1.symm) C.hown (C.hts _ hlink) (C.hts _ h4.1) (C.hts _ h4.2.1) (C.hts _ h4.2.2) hR.1 hR.2 C.hc.1 C.hc.2 hdg (k H locs ls hP hS hl)
theorem x_mabs (C : xC p s m args meth c cc nL own ret E A R cells slots) {index : Nat} {x : Int32} (hlink : Cond.methodLink own index Lib.Math.abs.name ∈ xT) (h4 : Cond.static Lib.Math.abs.name ∈ xT ∧ Cond.initialized "java/lang/Math" ∈ xT ∧ Cond.code Lib.Math.abs.name Lib.Math.abs.code 1 (some .int) ∈ xT) (hR : 1 ≤ R.frames ∧ (rest.map fun v => v.category).sum + 13 ≤ R.locals) (hdg : decode cc pc = .ok (.invokestatic index, 3)) (k : WM p l e R s m args below meth c cells slots Q E A nL σ τ (pc + 3) lv (.int (if 0 ≤ x then x else 0 - x) :: rest)) : WM p l e R s m args below meth c cells slots Q E A nL σ τ pc lv (.int x :: rest) := fun H locs ls hP hS hl => va_mabs C.hx C.hb (by rw [C.hml]; exact hl.1.symm) C.hown (C.hts _ hlink) (C.hts _ h4.1) (C.hts _ h4.2.1) (C.hts _ h4.2.2) hR.1 hR.2 C.hc.1 C.hc.2 hdg (k H locs ls hP hS hl)
theorem x_mmaxL (C : xC p s m args meth c cc nL own ret E A R cells slots) {index : Nat} {x y : Int64} (hlink : Cond.methodLink own index Lib.MathLoose.max_long.x ∈ xT) (h4 : Cond.static Lib.MathLoose.max_long.x ∈ xT ∧ Cond.initialized "java/lang/Math" ∈ xT ∧ Cond.code Lib.MathLoose.max_long.x Lib.MathLoose.max_long.code 4 (some .long) ∈ xT) (hR : 1 ≤ R.frames ∧ (rest.map fun v => v.category).sum + 15 ≤ R.locals) (hdg : decode cc pc = .ok (.invokestatic index, 3)) (k : WM p l e R s m args below meth c cells slots Q E A nL σ τ (pc + 3) lv (.long (if y < x then x else y) :: rest)) : WM p l e R s m args below meth c cells slots Q E A nL σ τ pc lv (.long y :: .long x :: rest) := fun H locs ls hP hS hl => va_mmax_long C.hx C.hb (by rw [C.hml]; exact hl.1.symm) C.hown (C.hts _ hlink) (C.hts _ h4.1) (C.hts _ h4.2.1) (C.hts _ h4.2.2) hR.1 hR.2 C.hc.1 C.hc.2 hdg (k H locs ls hP hS hl)
theorem x_mminL (C : xC p s m args meth c cc nL own ret E A R cells slots) {index : Nat} {x y : Int64} (hlink : Cond.methodLink own index Lib.MathLoose.min_long.x ∈ xT) (h4 : Cond.static Lib.MathLoose.min_long.x ∈ xT ∧ Cond.initialized "java/lang/Math" ∈ xT ∧ Cond.code Lib.MathLoose.min_long.x Lib.MathLoose.min_long.code 4 (some .long) ∈ xT) (hR : 1 ≤ R.frames ∧ (rest.map fun v => v.category).sum + 15 ≤ R.locals) (hdg : decode cc pc = .ok (.invokestatic index, 3)) (k : WM p l e R s m args below meth c cells slots Q E A nL σ τ (pc + 3) lv (.long (if y < x then y else x) :: rest)) : WM p l e R s m args below meth c cells slots Q E A nL σ τ pc lv (.long y :: .long x :: rest) := fun H locs ls hP hS hl => va_mmin_long C.hx C.hb (by rw [C.hml]; exact hl.1.symm) C.hown (C.hts _ hlink) (C.hts _ h4.1) (C.hts _ h4.2.1) (C.hts _ h4.2.2) hR.1 hR.2 C.hc.1 C.hc.2 hdg (k H locs ls hP hS hl)
def xMi (l : Launch) (y : MethodName) (cc : ByteArray) (mL : Nat) (rt : FieldType) (fr lo : Nat) (E : xE) (av : List Value) (σ : Nat → Nat → Int32) (τ : Nat → Int64) (f : Int32) (σ' : Nat → Nat → Int32) (τ' : Nat → Int64) : Prop := Met l y (Cond.code y cc mL (some rt) :: xT) { frames := fr, cells := 0, slots := 0, locals := lo } (va_Pc av (xG E σ τ)) (va_Qi (fun r (_ : Unit) => r = f) (fun _ t => xP E σ' τ' t.heap) (xA E)) 0 0 (xA E)
theorem xMi_of {y : MethodName} {mL : Nat} {fr lo : Nat} {av : List Value} {rt : FieldType} {f : Int32} (hy : plainFor y = true) (ho : y.cls = own) (hav : (lg_sl av).length ≤ mL) (body : ∀ (p : Program) (e : Env) (s : State) (m : MethodId) (args : Array Value) (below : List Frame) (meth : Method) (c : Code), xC p s m args meth c cc mL own (some rt) E (xA E) { frames := fr, cells := 0, slots := 0, locals := lo } 0 0 → WM p l e { frames := fr, cells := 0, slots := 0, locals := lo } s m args below meth c 0 0 (MQ below (va_Qi (fun r (_ : Unit) => r = f) (fun _ t => xP E σ' τ' t.heap) (xA E)) args s 0 0 (xA E)) E (xA E) mL σ τ 0 (lv_args 0 av) []) : xMi l y cc mL rt fr lo E av σ τ f σ' τ' := by
  refine va_MetF (cc := cc) (maxL := mL) (ret := (some rt)) hy rfl ?_
  intro p e s m args below meth c s₁ B hml hv
  obtain ⟨rfl, hP, hK, hI, hZ⟩ := hv
  have hown : s.vm.findClass own = some m.cls := by rw [← ho]; exact findClass_of_methodNamed B.named
  have hts := atoms_spec (ws := Cond.code y cc mL (some rt) :: xT) B.pre
  have h := body p e s m av.toArray below meth c ⟨⟨B.exec, B.bytes, hml, hown, fun w hw => hts w (List.mem_cons_of_mem _ hw)⟩, B.returns, B.notSynchronized, hK, hI, hZ, Nat.zero_le _, Nat.zero_le _⟩
  rw [lg_entry_eq]
  exact h s.heap [] _ hP va_S.rf (lv_entry av hav)
def xMl (l : Launch) (y : MethodName) (cc : ByteArray) (mL : Nat) (fr lo : Nat) (E : xE) (av : List Value) (σ : Nat → Nat → Int32) (τ : Nat → Int64) (f : Int64) (σ' : Nat → Nat → Int32) (τ' : Nat → Int64) : Prop := Met l y (Cond.code y cc mL (some .long) :: xT) { frames := fr, cells := 0, slots := 0, locals := lo } (va_Pc av (xG E σ τ)) (va_Ql (fun r (_ : Unit) => r = f) (fun _ t => xP E σ' τ' t.heap) (xA E)) 0 0 (xA E)
theorem xMl_of {y : MethodName} {mL : Nat} {fr lo : Nat} {av : List Value} {f : Int64} (hy : plainFor y = true) (ho : y.cls = own) (hav : (lg_sl av).length ≤ mL) (body : ∀ (p : Program) (e : Env) (s : State) (m : MethodId) (args : Array Value) (below : List Frame) (meth : Method) (c : Code), xC p s m args meth c cc mL own (some .long) E (xA E) { frames := fr, cells := 0, slots := 0, locals := lo } 0 0 → WM p l e { frames := fr, cells := 0, slots := 0, locals := lo } s m args below meth c 0 0 (MQ below (va_Ql (fun r (_ : Unit) => r = f) (fun _ t => xP E σ' τ' t.heap) (xA E)) args s 0 0 (xA E)) E (xA E) mL σ τ 0 (lv_args 0 av) []) : xMl l y cc mL fr lo E av σ τ f σ' τ' := by
  refine va_MetF (cc := cc) (maxL := mL) (ret := (some .long)) hy rfl ?_
  intro p e s m args below meth c s₁ B hml hv
  obtain ⟨rfl, hP, hK, hI, hZ⟩ := hv
  have hown : s.vm.findClass own = some m.cls := by rw [← ho]; exact findClass_of_methodNamed B.named
  have hts := atoms_spec (ws := Cond.code y cc mL (some .long) :: xT) B.pre
  have h := body p e s m av.toArray below meth c ⟨⟨B.exec, B.bytes, hml, hown, fun w hw => hts w (List.mem_cons_of_mem _ hw)⟩, B.returns, B.notSynchronized, hK, hI, hZ, Nat.zero_le _, Nat.zero_le _⟩
  rw [lg_entry_eq]
  exact h s.heap [] _ hP va_S.rf (lv_entry av hav)
def xMv (l : Launch) (y : MethodName) (cc : ByteArray) (mL : Nat) (fr lo : Nat) (E : xE) (av : List Value) (σ : Nat → Nat → Int32) (τ : Nat → Int64) (σ' : Nat → Nat → Int32) (τ' : Nat → Int64) : Prop := Met l y (Cond.code y cc mL none :: xT) { frames := fr, cells := 0, slots := 0, locals := lo } (va_Pc av (xG E σ τ)) (va_Qv (fun _ : Unit => True) (fun _ t => xP E σ' τ' t.heap) (xA E)) 0 0 (xA E)
theorem xMv_of {y : MethodName} {mL : Nat} {fr lo : Nat} {av : List Value} (hy : plainFor y = true) (ho : y.cls = own) (hav : (lg_sl av).length ≤ mL) (body : ∀ (p : Program) (e : Env) (s : State) (m : MethodId) (args : Array Value) (below : List Frame) (meth : Method) (c : Code), xC p s m args meth c cc mL own none E (xA E) { frames := fr, cells := 0, slots := 0, locals := lo } 0 0 → WM p l e { frames := fr, cells := 0, slots := 0, locals := lo } s m args below meth c 0 0 (MQ below (va_Qv (fun _ : Unit => True) (fun _ t => xP E σ' τ' t.heap) (xA E)) args s 0 0 (xA E)) E (xA E) mL σ τ 0 (lv_args 0 av) []) : xMv l y cc mL fr lo E av σ τ σ' τ' := by
  refine va_MetF (cc := cc) (maxL := mL) (ret := none) hy rfl ?_
  intro p e s m args below meth c s₁ B hml hv
  obtain ⟨rfl, hP, hK, hI, hZ⟩ := hv
  have hown : s.vm.findClass own = some m.cls := by rw [← ho]; exact findClass_of_methodNamed B.named
  have hts := atoms_spec (ws := Cond.code y cc mL none :: xT) B.pre
  have h := body p e s m av.toArray below meth c ⟨⟨B.exec, B.bytes, hml, hown, fun w hw => hts w (List.mem_cons_of_mem _ hw)⟩, B.returns, B.notSynchronized, hK, hI, hZ, Nat.zero_le _, Nat.zero_le _⟩
  rw [lg_entry_eq]
  exact h s.heap [] _ hP va_S.rf (lv_entry av hav)
def xMr (l : Launch) (y : MethodName) (cc : ByteArray) (mL : Nat) (rt : FieldType) (fr lo : Nat) (E : xE) (av : List Value) (σ : Nat → Nat → Int32) (τ : Nat → Int64) (f : Nat) (σ' : Nat → Nat → Int32) (τ' : Nat → Int64) : Prop := Met l y (Cond.code y cc mL (some rt) :: xT) { frames := fr, cells := 0, slots := 0, locals := lo } (va_Pc av (xG E σ τ)) (va_Qr (fun _ : Unit => True) (fun _ a t => a = f ∧ xP E σ' τ' t.heap) (xA E)) 0 0 (xA E)
theorem xMr_of {y : MethodName} {mL : Nat} {fr lo : Nat} {av : List Value} {rt : FieldType} {f : Nat} (hy : plainFor y = true) (ho : y.cls = own) (hav : (lg_sl av).length ≤ mL) (body : ∀ (p : Program) (e : Env) (s : State) (m : MethodId) (args : Array Value) (below : List Frame) (meth : Method) (c : Code), xC p s m args meth c cc mL own (some rt) E (xA E) { frames := fr, cells := 0, slots := 0, locals := lo } 0 0 → WM p l e { frames := fr, cells := 0, slots := 0, locals := lo } s m args below meth c 0 0 (MQ below (va_Qr (fun _ : Unit => True) (fun _ a t => a = f ∧ xP E σ' τ' t.heap) (xA E)) args s 0 0 (xA E)) E (xA E) mL σ τ 0 (lv_args 0 av) []) : xMr l y cc mL rt fr lo E av σ τ f σ' τ' := by
  refine va_MetF (cc := cc) (maxL := mL) (ret := (some rt)) hy rfl ?_
  intro p e s m args below meth c s₁ B hml hv
  obtain ⟨rfl, hP, hK, hI, hZ⟩ := hv
  have hown : s.vm.findClass own = some m.cls := by rw [← ho]; exact findClass_of_methodNamed B.named
  have hts := atoms_spec (ws := Cond.code y cc mL (some rt) :: xT) B.pre
  have h := body p e s m av.toArray below meth c ⟨⟨B.exec, B.bytes, hml, hown, fun w hw => hts w (List.mem_cons_of_mem _ hw)⟩, B.returns, B.notSynchronized, hK, hI, hZ, Nat.zero_le _, Nat.zero_le _⟩
  rw [lg_entry_eq]
  exact h s.heap [] _ hP va_S.rf (lv_entry av hav)
theorem x_iret (C : xC p s m args meth c cc nL own (some .int) E (xA E) R 0 0) {v f : Int32} (hv : v = f) (hs : σ = σ') (htt : τ = τ') (hdg : decode cc pc = .ok (.ireturn, 1)) : WM p l e R s m args below meth c 0 0 (MQ below (va_Qi (fun r (_ : Unit) => r = f) (fun _ t => xP E σ' τ' t.heap) (xA E)) args s 0 0 (xA E)) E (xA E) nL σ τ pc lv [.int v] := by
  subst hs
  subst htt
  intro H locs ls hP hS hl
  exact W.iret C.hx C.hb C.hr (fun t ht hW => ⟨⟨v, (), rfl, hv, by show xP E σ τ t.heap; rw [ht]; exact hP⟩, hS.F ht⟩) hS.2.2 hdg C.hlk
theorem x_zret {rt : FieldType} (C : xC p s m args meth c cc nL own (some rt) E (xA E) R 0 0) {v f : Int32} (hn : narrow rt (.int v) = .int v) (hv : v = f) (hs : σ = σ') (htt : τ = τ') (hdg : decode cc pc = .ok (.ireturn, 1)) : WM p l e R s m args below meth c 0 0 (MQ below (va_Qi (fun r (_ : Unit) => r = f) (fun _ t => xP E σ' τ' t.heap) (xA E)) args s 0 0 (xA E)) E (xA E) nL σ τ pc lv [.int v] := by
  subst hs
  subst htt
  intro H locs ls hP hS hl
  exact W.zret C.hx C.hb C.hr hn (fun t ht hW => ⟨⟨v, (), rfl, hv, by show xP E σ τ t.heap; rw [ht]; exact hP⟩, hS.F ht⟩) hS.2.2 hdg C.hlk
theorem x_vret (C : xC p s m args meth c cc nL own none E (xA E) R 0 0) (hs : σ = σ') (htt : τ = τ') (hdg : decode cc pc = .ok (.return_, 1)) : WM p l e R s m args below meth c 0 0 (MQ below (va_Qv (fun _ : Unit => True) (fun _ t => xP E σ' τ' t.heap) (xA E)) args s 0 0 (xA E)) E (xA E) nL σ τ pc lv [] := by
  subst hs
  subst htt
  intro H locs ls hP hS hl
  exact W.vret C.hx C.hb C.hr (fun t ht hW => ⟨⟨(), rfl, trivial, by show xP E σ τ t.heap; rw [ht]; exact hP⟩, hS.F ht⟩) hS.2.2 hdg C.hlk
theorem x_lret (C : xC p s m args meth c cc nL own (some .long) E (xA E) R 0 0) {v f : Int64} (hv : v = f) (hs : σ = σ') (htt : τ = τ') (hdg : decode cc pc = .ok (.lreturn, 1)) : WM p l e R s m args below meth c 0 0 (MQ below (va_Ql (fun r (_ : Unit) => r = f) (fun _ t => xP E σ' τ' t.heap) (xA E)) args s 0 0 (xA E)) E (xA E) nL σ τ pc lv [.long v] := by
  subst hs
  subst htt
  intro H locs ls hP hS hl
  exact W.lret C.hx C.hb C.hr (fun t ht hW => ⟨⟨v, (), rfl, hv, by show xP E σ τ t.heap; rw [ht]; exact hP⟩, hS.F ht⟩) hS.2.2 hdg C.hlk
theorem x_aret {rt : FieldType} (C : xC p s m args meth c cc nL own (some rt) E (xA E) R 0 0) {v f : Nat} (hrt : (∃ n, rt = .object n) ∨ ∃ t, rt = .array t) (hv : v = f) (hs : σ = σ') (htt : τ = τ') (hdg : decode cc pc = .ok (.areturn, 1)) : WM p l e R s m args below meth c 0 0 (MQ below (va_Qr (fun _ : Unit => True) (fun _ a t => a = f ∧ xP E σ' τ' t.heap) (xA E)) args s 0 0 (xA E)) E (xA E) nL σ τ pc lv [.ref v] := by
  subst hs
  subst htt
  intro H locs ls hP hS hl
  exact W.aret C.hx C.hb C.hr hrt (Or.inr ⟨_, rfl⟩) (fun t ht hW => ⟨⟨(), v, rfl, trivial, hv, by show xP E σ τ t.heap; rw [ht]; exact hP⟩, hS.F ht⟩) hS.2.2 hdg C.hlk
theorem xGood {y : MethodName} {bytes : ByteArray} {mL : Nat} {rt : Option FieldType} (h : Cond.code y bytes mL rt ∈ xT) : GoodIn xT (Cond.code y bytes mL rt :: xT) := by
  intro w hw
  rcases List.mem_cons.mp hw with rfl | hw
  · exact ⟨h, xT_good h⟩
  · exact ⟨hw, xT_good hw⟩
def xLV (own : String) (index : Nat) (Cn : String) (y : MethodName) (bytes : ByteArray) (mL : Nat) (rt : Option FieldType) (n : Nat) : Prop :=
  Cond.methodLink own index y ∈ xT ∧ Cond.instanceMethod y ∈ xT ∧ Cond.selects Cn y y ∈ xT ∧ Cond.initialized Cn ∈ xT ∧ Cond.code y bytes mL rt ∈ xT ∧ y.cls = Cn ∧ y.cls ≠ "java/lang/invoke/MethodHandle" ∧ y.cls ≠ "java/lang/invoke/VarHandle" ∧ (parseMethodDescriptor y.desc).map (fun d => d.parameters.length) = some n
def xLS (own : String) (index : Nat) (y : MethodName) (bytes : ByteArray) (mL : Nat) (rt : Option FieldType) (n : Nat) : Prop :=
  Cond.methodLink own index y ∈ xT ∧ Cond.static y ∈ xT ∧ Cond.initialized y.cls ∈ xT ∧ Cond.code y bytes mL rt ∈ xT ∧ y.cls ≠ "java/lang/invoke/MethodHandle" ∧ y.cls ≠ "java/lang/invoke/VarHandle" ∧ (parseMethodDescriptor y.desc).map (fun d => d.parameters.length) = some n
def xLN (own : String) (index : Nat) (y : MethodName) (host : String) (bytes : ByteArray) (mL : Nat) (rt : Option FieldType) (n : Nat) : Prop :=
  Cond.methodLinkNest own index y host ∈ lw_tbl ∧ Cond.static y ∈ xT ∧ Cond.initialized y.cls ∈ xT ∧ Cond.code y bytes mL rt ∈ xT ∧ y.cls ≠ "java/lang/invoke/MethodHandle" ∧ y.cls ≠ "java/lang/invoke/VarHandle" ∧ (parseMethodDescriptor y.desc).map (fun d => d.parameters.length) = some n
theorem xgi3 {a b c2 : Cond} {ws : List Cond} (ha : a ∈ xT) (hb : b ∈ xT) (hc : c2 ∈ xT) (hw : GoodIn xT ws) : GoodIn xT ([a, b, c2] ++ ws) := by
  intro w h
  rcases List.mem_append.mp h with h | h
  · have hm : w ∈ xT := by
      rcases List.mem_cons.mp h with rfl | h
      · exact ha
      · rcases List.mem_cons.mp h with rfl | h
        · exact hb
        · rw [List.mem_singleton.mp h]; exact hc
    exact ⟨hm, xT_good hm⟩
  · exact hw w h
theorem xgi4 {a b c2 d : Cond} {ws : List Cond} (ha : a ∈ xT) (hb : b ∈ xT) (hc : c2 ∈ xT) (hd : d ∈ xT) (hw : GoodIn xT ws) : GoodIn xT ([a, b, c2, d] ++ ws) := by
  intro w h
  rcases List.mem_append.mp h with h | h
  · have hm : w ∈ xT := by
      rcases List.mem_cons.mp h with rfl | h
      · exact ha
      · rcases List.mem_cons.mp h with rfl | h
        · exact hb
        · rcases List.mem_cons.mp h with rfl | h
          · exact hc
          · rw [List.mem_singleton.mp h]; exact hd
    exact ⟨hm, xT_good hm⟩
  · exact hw w h
theorem x_callVi (C : xC p s m args meth c cc nL own ret E A R cells slots) {b index mL fr lo n : Nat} {Cn : String} {y : MethodName} {bytes : ByteArray} {As st : List Value} {rt : FieldType} {f : Int32} (hM : xMi l y bytes mL rt fr lo E (.ref b :: As) σ τ f σ' τ') (hL : xLV own index Cn y bytes mL (some rt) n) (hr : ∀ H : Heap, xP E σ τ H → ∃ cell : Cell, H[b]? = some cell ∧ cell.vm.isStatics = false ∧ s.vm.findClass Cn = some cell.cls) (hR : fr + 1 ≤ R.frames ∧ 8 + (mL + 11) + lo ≤ R.locals) (hn : As.length = n) (hst : st = As.reverse ++ .ref b :: rest) (hrm : (rest.map fun v => v.category).sum ≤ 8) (hdg : decode cc pc = .ok (.invokevirtual index, 3)) (kk : WM p l e R s m args below meth c cells slots Q E A nL σ' τ' (pc + 3) lv (.int f :: rest)) : WM p l e R s m args below meth c cells slots Q E A nL σ τ pc lv (st) := by
  subst hst
  obtain ⟨h1, h2, h3, h4, h5, h6, h7, h8, h9⟩ := hL
  intro H locs ls hP hS hl
  have hAA : ∀ q, xA E q → A q := C.hI.sub
  exact va_calli (va_runV (As := As) (rest := rest) C.1 hM (cwV n C.hts (xgi4 h1 h2 h3 h4 (xGood h5)) rfl rfl rfl ⟨h6, h7, h8, h9⟩ hR) ⟨xG.blind, hr H hP, fun U hU hW => ⟨rfl, by rw [hU]; exact hP, va_K.moved hW.alike C.hK, C.hI.self, C.hZ.go (H := U.heap) (by rw [hU]; exact hS) hW C.hI.sub⟩⟩ rfl hn hl.1 rfl (lv_room hrm) hdg C.hc) hS (fun q _ h => hAA q h) hAA (fun r u t H1 locs1 ht hvm hw hB hz hk1 hS1 => by
    subst hw
    rw [ht] at hB
    exact kk H1 locs1 ls hB hS1 hl)
theorem x_callSi (C : xC p s m args meth c cc nL own ret E A R cells slots) {index mL fr lo n : Nat} {y : MethodName} {bytes : ByteArray} {As st : List Value} {rt : FieldType} {f : Int32} (hM : xMi l y bytes mL rt fr lo E As σ τ f σ' τ') (hL : xLS own index y bytes mL (some rt) n) (hR : fr + 1 ≤ R.frames ∧ 8 + (mL + 11) + lo ≤ R.locals) (hn : As.length = n) (hst : st = As.reverse ++ rest) (hrm : (rest.map fun v => v.category).sum ≤ 8) (hdg : decode cc pc = .ok (.invokestatic index, 3)) (kk : WM p l e R s m args below meth c cells slots Q E A nL σ' τ' (pc + 3) lv (.int f :: rest)) : WM p l e R s m args below meth c cells slots Q E A nL σ τ pc lv (st) := by
  subst hst
  obtain ⟨h1, h2, h3, h5, h7, h8, h9⟩ := hL
  intro H locs ls hP hS hl
  have hAA : ∀ q, xA E q → A q := C.hI.sub
  exact va_calli (va_runS (As := As) (rest := rest) C.1 hM (va_cwS n C.hts (xgi3 h1 h2 h3 (xGood h5)) rfl rfl rfl ⟨h7, h8, h9⟩ hR) ⟨xG.blind, fun U hU hW => ⟨rfl, by rw [hU]; exact hP, va_K.moved hW.alike C.hK, C.hI.self, C.hZ.go (H := U.heap) (by rw [hU]; exact hS) hW C.hI.sub⟩⟩ rfl hn hl.1 rfl (lv_room hrm) hdg C.hc) hS (fun q _ h => hAA q h) hAA (fun r u t H1 locs1 ht hvm hw hB hz hk1 hS1 => by
    subst hw
    rw [ht] at hB
    exact kk H1 locs1 ls hB hS1 hl)
theorem x_callNi (C : xC p s m args meth c cc nL own ret E A R cells slots) {index mL fr lo n : Nat} {host : String} {y : MethodName} {bytes : ByteArray} {As st : List Value} {rt : FieldType} {f : Int32} (hM : xMi l y bytes mL rt fr lo E As σ τ f σ' τ') (hL : xLN own index y host bytes mL (some rt) n) (hR : fr + 1 ≤ R.frames ∧ 8 + (mL + 11) + lo ≤ R.locals) (hn : As.length = n) (hst : st = As.reverse ++ rest) (hrm : (rest.map fun v => v.category).sum ≤ 8) (hdg : decode cc pc = .ok (.invokestatic index, 3)) (kk : WM p l e R s m args below meth c cells slots Q E A nL σ' τ' (pc + 3) lv (.int f :: rest)) : WM p l e R s m args below meth c cells slots Q E A nL σ τ pc lv (st) := by
  subst hst
  obtain ⟨h1, h2, h3, h5, h7, h8, h9⟩ := hL
  intro H locs ls hP hS hl
  have hAA : ∀ q, xA E q → A q := C.hI.sub
  exact va_calli (va_runSN (As := As) (rest := rest) C.1 hM ⟨va_cnB n C.hts (xGood h5) rfl rfl rfl (C.hZ.2.2.2.1 _ _ _ _ h1) (C.hts _ h3) ⟨h7, h8, h9⟩ hR, C.hts _ h2, trivial⟩ ⟨xG.blind, fun U hU hW => ⟨rfl, by rw [hU]; exact hP, va_K.moved hW.alike C.hK, C.hI.self, C.hZ.go (H := U.heap) (by rw [hU]; exact hS) hW C.hI.sub⟩⟩ rfl hn hl.1 rfl (lv_room hrm) hdg C.hc) hS (fun q _ h => hAA q h) hAA (fun r u t H1 locs1 ht hvm hw hB hz hk1 hS1 => by
    subst hw
    rw [ht] at hB
    exact kk H1 locs1 ls hB hS1 hl)
theorem x_callVl (C : xC p s m args meth c cc nL own ret E A R cells slots) {b index mL fr lo n : Nat} {Cn : String} {y : MethodName} {bytes : ByteArray} {As st : List Value} {f : Int64} (hM : xMl l y bytes mL fr lo E (.ref b :: As) σ τ f σ' τ') (hL : xLV own index Cn y bytes mL (some .long) n) (hr : ∀ H : Heap, xP E σ τ H → ∃ cell : Cell, H[b]? = some cell ∧ cell.vm.isStatics = false ∧ s.vm.findClass Cn = some cell.cls) (hR : fr + 1 ≤ R.frames ∧ 8 + (mL + 11) + lo ≤ R.locals) (hn : As.length = n) (hst : st = As.reverse ++ .ref b :: rest) (hrm : (rest.map fun v => v.category).sum ≤ 8) (hdg : decode cc pc = .ok (.invokevirtual index, 3)) (kk : WM p l e R s m args below meth c cells slots Q E A nL σ' τ' (pc + 3) lv (.long f :: rest)) : WM p l e R s m args below meth c cells slots Q E A nL σ τ pc lv (st) := by
  subst hst
  obtain ⟨h1, h2, h3, h4, h5, h6, h7, h8, h9⟩ := hL
  intro H locs ls hP hS hl
  have hAA : ∀ q, xA E q → A q := C.hI.sub
  exact va_calll (va_runV (As := As) (rest := rest) C.1 hM (cwV n C.hts (xgi4 h1 h2 h3 h4 (xGood h5)) rfl rfl rfl ⟨h6, h7, h8, h9⟩ hR) ⟨xG.blind, hr H hP, fun U hU hW => ⟨rfl, by rw [hU]; exact hP, va_K.moved hW.alike C.hK, C.hI.self, C.hZ.go (H := U.heap) (by rw [hU]; exact hS) hW C.hI.sub⟩⟩ rfl hn hl.1 rfl (lv_room hrm) hdg C.hc) hS (fun q _ h => hAA q h) hAA (fun r u t H1 locs1 ht hvm hw hB hz hk1 hS1 => by
    subst hw
    rw [ht] at hB
    exact kk H1 locs1 ls hB hS1 hl)
theorem x_callSl (C : xC p s m args meth c cc nL own ret E A R cells slots) {index mL fr lo n : Nat} {y : MethodName} {bytes : ByteArray} {As st : List Value} {f : Int64} (hM : xMl l y bytes mL fr lo E As σ τ f σ' τ') (hL : xLS own index y bytes mL (some .long) n) (hR : fr + 1 ≤ R.frames ∧ 8 + (mL + 11) + lo ≤ R.locals) (hn : As.length = n) (hst : st = As.reverse ++ rest) (hrm : (rest.map fun v => v.category).sum ≤ 8) (hdg : decode cc pc = .ok (.invokestatic index, 3)) (kk : WM p l e R s m args below meth c cells slots Q E A nL σ' τ' (pc + 3) lv (.long f :: rest)) : WM p l e R s m args below meth c cells slots Q E A nL σ τ pc lv (st) := by
  subst hst
  obtain ⟨h1, h2, h3, h5, h7, h8, h9⟩ := hL
  intro H locs ls hP hS hl
  have hAA : ∀ q, xA E q → A q := C.hI.sub
  exact va_calll (va_runS (As := As) (rest := rest) C.1 hM (va_cwS n C.hts (xgi3 h1 h2 h3 (xGood h5)) rfl rfl rfl ⟨h7, h8, h9⟩ hR) ⟨xG.blind, fun U hU hW => ⟨rfl, by rw [hU]; exact hP, va_K.moved hW.alike C.hK, C.hI.self, C.hZ.go (H := U.heap) (by rw [hU]; exact hS) hW C.hI.sub⟩⟩ rfl hn hl.1 rfl (lv_room hrm) hdg C.hc) hS (fun q _ h => hAA q h) hAA (fun r u t H1 locs1 ht hvm hw hB hz hk1 hS1 => by
    subst hw
    rw [ht] at hB
    exact kk H1 locs1 ls hB hS1 hl)
theorem x_callVv (C : xC p s m args meth c cc nL own ret E A R cells slots) {b index mL fr lo n : Nat} {Cn : String} {y : MethodName} {bytes : ByteArray} {As st : List Value} (hM : xMv l y bytes mL fr lo E (.ref b :: As) σ τ σ' τ') (hL : xLV own index Cn y bytes mL none n) (hr : ∀ H : Heap, xP E σ τ H → ∃ cell : Cell, H[b]? = some cell ∧ cell.vm.isStatics = false ∧ s.vm.findClass Cn = some cell.cls) (hR : fr + 1 ≤ R.frames ∧ 8 + (mL + 11) + lo ≤ R.locals) (hn : As.length = n) (hst : st = As.reverse ++ .ref b :: rest) (hrm : (rest.map fun v => v.category).sum ≤ 8) (hdg : decode cc pc = .ok (.invokevirtual index, 3)) (kk : WM p l e R s m args below meth c cells slots Q E A nL σ' τ' (pc + 3) lv (rest)) : WM p l e R s m args below meth c cells slots Q E A nL σ τ pc lv (st) := by
  subst hst
  obtain ⟨h1, h2, h3, h4, h5, h6, h7, h8, h9⟩ := hL
  intro H locs ls hP hS hl
  have hAA : ∀ q, xA E q → A q := C.hI.sub
  exact va_callv (va_runV (As := As) (rest := rest) C.1 hM (cwV n C.hts (xgi4 h1 h2 h3 h4 (xGood h5)) rfl rfl rfl ⟨h6, h7, h8, h9⟩ hR) ⟨xG.blind, hr H hP, fun U hU hW => ⟨rfl, by rw [hU]; exact hP, va_K.moved hW.alike C.hK, C.hI.self, C.hZ.go (H := U.heap) (by rw [hU]; exact hS) hW C.hI.sub⟩⟩ rfl hn hl.1 rfl (lv_room hrm) hdg C.hc) hS (fun q _ h => hAA q h) hAA (fun u t H1 locs1 ht hvm hw hB hz hk1 hS1 => by
    rw [ht] at hB
    exact kk H1 locs1 ls hB hS1 hl)
theorem x_callSv (C : xC p s m args meth c cc nL own ret E A R cells slots) {index mL fr lo n : Nat} {y : MethodName} {bytes : ByteArray} {As st : List Value} (hM : xMv l y bytes mL fr lo E As σ τ σ' τ') (hL : xLS own index y bytes mL none n) (hR : fr + 1 ≤ R.frames ∧ 8 + (mL + 11) + lo ≤ R.locals) (hn : As.length = n) (hst : st = As.reverse ++ rest) (hrm : (rest.map fun v => v.category).sum ≤ 8) (hdg : decode cc pc = .ok (.invokestatic index, 3)) (kk : WM p l e R s m args below meth c cells slots Q E A nL σ' τ' (pc + 3) lv (rest)) : WM p l e R s m args below meth c cells slots Q E A nL σ τ pc lv (st) := by
  subst hst
  obtain ⟨h1, h2, h3, h5, h7, h8, h9⟩ := hL
  intro H locs ls hP hS hl
  have hAA : ∀ q, xA E q → A q := C.hI.sub
  exact va_callv (va_runS (As := As) (rest := rest) C.1 hM (va_cwS n C.hts (xgi3 h1 h2 h3 (xGood h5)) rfl rfl rfl ⟨h7, h8, h9⟩ hR) ⟨xG.blind, fun U hU hW => ⟨rfl, by rw [hU]; exact hP, va_K.moved hW.alike C.hK, C.hI.self, C.hZ.go (H := U.heap) (by rw [hU]; exact hS) hW C.hI.sub⟩⟩ rfl hn hl.1 rfl (lv_room hrm) hdg C.hc) hS (fun q _ h => hAA q h) hAA (fun u t H1 locs1 ht hvm hw hB hz hk1 hS1 => by
    rw [ht] at hB
    exact kk H1 locs1 ls hB hS1 hl)
theorem x_callVr (C : xC p s m args meth c cc nL own ret E A R cells slots) {b index mL fr lo n : Nat} {Cn : String} {y : MethodName} {bytes : ByteArray} {As st : List Value} {rt : FieldType} {f : Nat} (hM : xMr l y bytes mL rt fr lo E (.ref b :: As) σ τ f σ' τ') (hL : xLV own index Cn y bytes mL (some rt) n) (hr : ∀ H : Heap, xP E σ τ H → ∃ cell : Cell, H[b]? = some cell ∧ cell.vm.isStatics = false ∧ s.vm.findClass Cn = some cell.cls) (hR : fr + 1 ≤ R.frames ∧ 8 + (mL + 11) + lo ≤ R.locals) (hn : As.length = n) (hst : st = As.reverse ++ .ref b :: rest) (hrm : (rest.map fun v => v.category).sum ≤ 8) (hdg : decode cc pc = .ok (.invokevirtual index, 3)) (kk : WM p l e R s m args below meth c cells slots Q E A nL σ' τ' (pc + 3) lv (.ref f :: rest)) : WM p l e R s m args below meth c cells slots Q E A nL σ τ pc lv (st) := by
  subst hst
  obtain ⟨h1, h2, h3, h4, h5, h6, h7, h8, h9⟩ := hL
  intro H locs ls hP hS hl
  have hAA : ∀ q, xA E q → A q := C.hI.sub
  exact va_callr (va_runV (As := As) (rest := rest) C.1 hM (cwV n C.hts (xgi4 h1 h2 h3 h4 (xGood h5)) rfl rfl rfl ⟨h6, h7, h8, h9⟩ hR) ⟨xG.blind, hr H hP, fun U hU hW => ⟨rfl, by rw [hU]; exact hP, va_K.moved hW.alike C.hK, C.hI.self, C.hZ.go (H := U.heap) (by rw [hU]; exact hS) hW C.hI.sub⟩⟩ rfl hn hl.1 rfl (lv_room hrm) hdg C.hc) hS (fun q _ h => hAA q h) hAA (fun u ra t H1 locs1 ht hvm hw hB hz hk1 hS1 => by
    obtain ⟨hra, hB⟩ := hB
    subst hra
    rw [ht] at hB
    exact kk H1 locs1 ls hB hS1 hl)
theorem x_callSr (C : xC p s m args meth c cc nL own ret E A R cells slots) {index mL fr lo n : Nat} {y : MethodName} {bytes : ByteArray} {As st : List Value} {rt : FieldType} {f : Nat} (hM : xMr l y bytes mL rt fr lo E As σ τ f σ' τ') (hL : xLS own index y bytes mL (some rt) n) (hR : fr + 1 ≤ R.frames ∧ 8 + (mL + 11) + lo ≤ R.locals) (hn : As.length = n) (hst : st = As.reverse ++ rest) (hrm : (rest.map fun v => v.category).sum ≤ 8) (hdg : decode cc pc = .ok (.invokestatic index, 3)) (kk : WM p l e R s m args below meth c cells slots Q E A nL σ' τ' (pc + 3) lv (.ref f :: rest)) : WM p l e R s m args below meth c cells slots Q E A nL σ τ pc lv (st) := by
  subst hst
  obtain ⟨h1, h2, h3, h5, h7, h8, h9⟩ := hL
  intro H locs ls hP hS hl
  have hAA : ∀ q, xA E q → A q := C.hI.sub
  exact va_callr (va_runS (As := As) (rest := rest) C.1 hM (va_cwS n C.hts (xgi3 h1 h2 h3 (xGood h5)) rfl rfl rfl ⟨h7, h8, h9⟩ hR) ⟨xG.blind, fun U hU hW => ⟨rfl, by rw [hU]; exact hP, va_K.moved hW.alike C.hK, C.hI.self, C.hZ.go (H := U.heap) (by rw [hU]; exact hS) hW C.hI.sub⟩⟩ rfl hn hl.1 rfl (lv_room hrm) hdg C.hc) hS (fun q _ h => hAA q h) hAA (fun u ra t H1 locs1 ht hvm hw hB hz hk1 hS1 => by
    obtain ⟨hra, hB⟩ := hB
    subst hra
    rw [ht] at hB
    exact kk H1 locs1 ls hB hS1 hl)
theorem x_copy (C : xC p s m args meth c cc nL own ret E A R cells slots) {index k0 k1 n0 b0 o0 st0 n1 b1 o1 st1 : Nat} {sp dp n : Int32} (hk0 : k0 < 94) (hd0 : xd k0 = (9, [(n0, b0, o0), (st0, 0, 0)])) (hk1 : k1 < 94) (hd1 : xd k1 = (9, [(n1, b1, o1), (st1, 0, 0)])) (h1 : ¬ sp < 0) (h2 : ¬ dp < 0) (h3 : ¬ n < 0) (h4 : sp.toNatClampNeg + n.toNatClampNeg ≤ n0) (h5 : dp.toNatClampNeg + n.toNatClampNeg ≤ n1) (hσ : ∀ j, j < n1 → σ' b1 (o1 + st1 * j) = if dp.toNatClampNeg ≤ j ∧ j < dp.toNatClampNeg + n.toNatClampNeg then σ b0 (o0 + st0 * (sp.toNatClampNeg + (j - dp.toNatClampNeg))) else σ b1 (o1 + st1 * j)) (ho : ∀ b i, xin (xd k1) b i = false → σ' b i = σ b i)
    (hw : Cond.methodLink own index arraycopyName ∈ xT ∧ Cond.native arraycopyName ∈ xT ∧ Cond.static arraycopyName ∈ xT ∧ Cond.initialized "java/lang/System" ∈ xT) (hR : 1 ≤ R.frames ∧ (rest.map fun v => v.category).sum + (nativeFrameWords "java/lang/System" "arraycopy" 5 + 11) ≤ R.locals) (hdg : decode cc pc = .ok (.invokestatic index, 3)) (kk : WM p l e R s m args below meth c cells slots Q E A nL σ' τ (pc + 3) lv (rest)) : WM p l e R s m args below meth c cells slots Q E A nL σ τ pc lv (.int n :: .int dp :: .ref (xad E k1) :: .int sp :: .ref (xad E k0) :: rest) := by
  intro H locs ls hP hS hl
  refine va_copyi C.hx C.hb (by rw [C.hml]; exact hl.1.symm) C.hown (C.hts _ hw.1) (C.hts _ hw.2.1) (C.hts _ hw.2.2.1) (C.hts _ hw.2.2.2) C.hK hP C.hI.D hS k0 k1 0 0 (xw_arr hk0 hd0) (xw_arr hk1 hd1) (ty := .int) rfl rfl rfl h1 h2 h3 h4 h5 (fun _ _ => rfl) hR.1 hR.2 hdg (fun H1 locs1 hP1 hD1 hS1 => kk H1 locs1 ls ?_ hS1 hl)
  refine xP.set hk1 hP1 (fun h => ?_) (fun j hj hne => xce_agree (fun b i hb => ho b i (xsep hj hk1 (Ne.symm hne) hb)) (fun _ _ => rfl))
  have e : va_cpy (xtr n0 (fun j => σ b0 (o0 + st0 * j))) (xtr n1 (fun j => σ b1 (o1 + st1 * j))) sp.toNatClampNeg dp.toNatClampNeg n.toNatClampNeg = xtr n1 (fun j => σ' b1 (o1 + st1 * j)) := by
    funext j
    unfold va_cpy xtr
    by_cases hj : j < n1
    · rw [if_pos hj, if_pos hj]
      show _ = σ' b1 (o1 + st1 * j)
      rw [hσ j hj]
      by_cases hr : dp.toNatClampNeg ≤ j ∧ j < dp.toNatClampNeg + n.toNatClampNeg
      · rw [if_pos hr, if_pos hr, if_pos (by omega)]
      · rw [if_neg hr, if_neg hr]
    · rw [if_neg hj, if_neg hj, if_neg (by omega)]
  rw [e] at h
  rw [hd1]
  exact h
theorem x_recv (C : xC p s m args meth c cc nL own ret E A R cells slots) {k ci : Nat} {fs : List (Nat × Nat × Nat)} {Cn : String} {T : u_T} {N : Nat} (hk : k < 94) (hd : xd k = (ci, fs)) (hc : vwCl[ci]? = some (Cn, T, N)) : ∀ H : Heap, xP E σ τ H → ∃ cell : Cell, H[xad E k]? = some cell ∧ cell.vm.isStatics = false ∧ s.vm.findClass Cn = some cell.cls := fun H hP => va_recv C.hK hP hc (xw_obj hk hd (xcl_lt hc))
end XROWS
