def ysn (t : va_W) (x : Nat × va_E) : va_W := t ++ [x]
def yapp (t w : va_W) : va_W := t ++ w
theorem yrange'_nd : ∀ n a, va_nd (List.range' a n) = true := by
  intro n
  induction n with
  | zero => intro a; rfl
  | succ n ih =>
    intro a
    rw [List.range'_succ]
    simp only [va_nd, Bool.and_eq_true, decide_eq_true_eq]
    refine ⟨fun h => ?_, ih (a + 1)⟩
    have := (List.mem_range'_1.mp h).1
    omega
theorem yrange_nd (n : Nat) : va_nd (List.range n) = true := by
  rw [List.range_eq_range']
  exact yrange'_nd n 0
/-! CONSTRUCTORS: a machine over a growing list of cells -/
theorem yo_i : Cond.instanceMethod Lib.objectInit ∈ xT := xm 61 (by decide +kernel) (by decide +kernel)
theorem yo_c : Cond.code Lib.objectInit ⟨#[0xb1]⟩ 1 none ∈ xT := xm 62 (by decide +kernel) (by decide +kernel)
theorem yo_a : Cond.arrayClass .int ∈ xT := xm 129 (by decide +kernel) (by decide +kernel)
def ytys (cI cP cS : ClassId) : List (ClassId × FieldType) := [(cI, .int), (cP, .object "LeakCups$Program"), (cS, .object "LeakCups$Sheet")]
def yK (D : va_G) (cI cP cS : ClassId) (U : State) : Prop := va_K D vwCl (ytys cI cP cS) U ∧ (∀ a i x h, Cond.methodLinkNest a i x h ∈ lw_tbl → va_Nw (.methodLinkNest a i x h) U) ∧ va_AO "LeakCups$Program" U ∧ va_AO "LeakCups$Sheet" U
theorem yK.go {D : va_G} {cI cP cS : ClassId} {s U : State} (h : yK D cI cP cS s) (hW : s.WarmedH U.vm) : yK D cI cP cS U := ⟨va_K.moved hW.alike h.1, fun a i x hh hm => va_Nw.warmM hW (h.2.1 a i x hh hm), va_AO.moved hW.alike h.2.2.1, va_AO.moved hW.alike h.2.2.2⟩
theorem yK.calling {D : va_G} {cI cP cS : ClassId} {U : State} {a : Array Value} {g : JFrame} {mk : MethodId} (h : yK D cI cP cS U) : yK D cI cP cS (U.calling g mk a) := ⟨va_K.moved (u := U) (U := U.calling g mk a) (Vm.Alike.refl U.vm) h.1, fun b i x hh hm => va_Nw.same rfl (u := U) rfl (h.2.1 b i x hh hm), va_AO.moved (u := U) (U := U.calling g mk a) (Vm.Alike.refl U.vm) h.2.2.1, va_AO.moved (u := U) (U := U.calling g mk a) (Vm.Alike.refl U.vm) h.2.2.2⟩
section YROWS
variable {p : Program} {l : Launch} {e : Env} {R : Room} {s : State} {m : MethodId} {args : Array Value} {below : List Frame} {meth : Method} {c : Code} {cells slots : Nat} {Q : State → Prop} {D : va_G} {A : Nat → Prop} {nL : Nat} {pc : Nat} {lv : List (Nat × Value)} {rest : List Value} {cc : ByteArray} {own : String} {ret : Option FieldType} {cI cP cS : ClassId} {ws ws' : va_W}
def yW (p : Program) (l : Launch) (e : Env) (R : Room) (s : State) (m : MethodId) (args : Array Value) (below : List Frame) (meth : Method) (c : Code) (cells slots : Nat) (Q : State → Prop) (D : va_G) (A : Nat → Prop) (nL : Nat) (ws : va_W) (pc : Nat) (lv : List (Nat × Value)) (st : List Value) : Prop :=
  ∀ (H : Heap) (locs : List Loc) (ls : Array Slot), va_P D vwCl ws H → va_D A ws → va_S A s.heap H locs → lv_has ls nL lv → W p l e R s m args below meth c H locs cells slots Q (F0 m pc ls st)
def yC (p : Program) (s : State) (m : MethodId) (args : Array Value) (meth : Method) (c : Code) (cc : ByteArray) (nL : Nat) (own : String) (ret : Option FieldType) (D : va_G) (cI cP cS : ClassId) (A : Nat → Prop) : Prop :=
  CallFix p m c cc nL s args xT own ∧ meth.sig.returnType = ret ∧ meth.locks = false ∧ yK D cI cP cS s ∧ ∀ q, s.heap.size ≤ q → A q
theorem yC.hx (C : yC p s m args meth c cc nL own ret D cI cP cS A) : p.tables.exec = Jvm.exec := C.1.1
theorem yC.hb (C : yC p s m args meth c cc nL own ret D cI cP cS A) : c.code = cc := C.1.2.1
theorem yC.hml (C : yC p s m args meth c cc nL own ret D cI cP cS A) : c.maxLocals = nL := C.1.2.2.1
theorem yC.hown (C : yC p s m args meth c cc nL own ret D cI cP cS A) : s.vm.findClass own = some m.cls := C.1.2.2.2.1
theorem yC.hts (C : yC p s m args meth c cc nL own ret D cI cP cS A) : ∀ w ∈ xT, w.before args s = true := C.1.2.2.2.2
theorem yC.hr (C : yC p s m args meth c cc nL own ret D cI cP cS A) : meth.sig.returnType = ret := C.2.1
theorem yC.hlk (C : yC p s m args meth c cc nL own ret D cI cP cS A) : meth.locks = false := C.2.2.1
theorem yC.hk (C : yC p s m args meth c cc nL own ret D cI cP cS A) : yK D cI cP cS s := C.2.2.2.1
theorem yC.hK (C : yC p s m args meth c cc nL own ret D cI cP cS A) : va_K D vwCl (ytys cI cP cS) s := C.2.2.2.1.1
theorem yC.hA (C : yC p s m args meth c cc nL own ret D cI cP cS A) : ∀ q, s.heap.size ≤ q → A q := C.2.2.2.2
theorem yW.to (k : yW p l e R s m args below meth c cells slots Q D A nL ws' pc lv rest) (h : ws = ws') : yW p l e R s m args below meth c cells slots Q D A nL ws pc lv rest := h ▸ k
theorem yW.wide {k n : Nat} (hk : cells ≤ k) (hn : slots ≤ n) (kk : yW p l e R s m args below meth c k n Q D A nL ws pc lv rest) : yW p l e R s m args below meth c cells slots Q D A nL ws pc lv rest := fun H locs ls hP hD hS hl => W.widen hk hn (kk H locs ls hP hD hS hl)

theorem y_iconst (C : yC p s m args meth c cc nL own ret D cI cP cS A) {n : Int} {v : Int32} (hdg : decode cc pc = .ok (.iconst n, 1)) (hv : Int32.ofInt n = v) (k : yW p l e R s m args below meth c cells slots Q D A nL (ws) (pc + 1) lv (.int v :: rest)) : yW p l e R s m args below meth c cells slots Q D A nL (ws) pc lv (rest) := fun H locs ls hP hD hS hl => lv_iconst C.hx C.hb hdg hv (k H locs ls hP hD hS hl)
theorem y_bipush (C : yC p s m args meth c cc nL own ret D cI cP cS A) {n : Int} {v : Int32} (hdg : decode cc pc = .ok (.bipush n, 2)) (hv : (Int8.ofInt n).toInt32 = v) (k : yW p l e R s m args below meth c cells slots Q D A nL (ws) (pc + 2) lv (.int v :: rest)) : yW p l e R s m args below meth c cells slots Q D A nL (ws) pc lv (rest) := fun H locs ls hP hD hS hl => lv_bipush C.hx C.hb hdg hv (k H locs ls hP hD hS hl)
theorem y_sipush (C : yC p s m args meth c cc nL own ret D cI cP cS A) {n : Int} {v : Int32} (hdg : decode cc pc = .ok (.sipush n, 3)) (hv : (Int16.ofInt n).toInt32 = v) (k : yW p l e R s m args below meth c cells slots Q D A nL (ws) (pc + 3) lv (.int v :: rest)) : yW p l e R s m args below meth c cells slots Q D A nL (ws) pc lv (rest) := fun H locs ls hP hD hS hl => lv_sipush C.hx C.hb hdg hv (k H locs ls hP hD hS hl)
theorem y_dup (C : yC p s m args meth c cc nL own ret D cI cP cS A) {v : Value} (hdg : decode cc pc = .ok (.dup, 1)) (hc : v.category = 1) (k : yW p l e R s m args below meth c cells slots Q D A nL (ws) (pc + 1) lv (v :: v :: rest)) : yW p l e R s m args below meth c cells slots Q D A nL (ws) pc lv (v :: rest) := fun H locs ls hP hD hS hl => lv_dup C.hx C.hb hdg hc (k H locs ls hP hD hS hl)
theorem y_iadd (C : yC p s m args meth c cc nL own ret D cI cP cS A) {x y v : Int32} (hdg : decode cc pc = .ok (.iadd, 1)) (hv : x + y = v) (k : yW p l e R s m args below meth c cells slots Q D A nL (ws) (pc + 1) lv (.int v :: rest)) : yW p l e R s m args below meth c cells slots Q D A nL (ws) pc lv (.int y :: .int x :: rest) := fun H locs ls hP hD hS hl => lv_iadd C.hx C.hb hdg (by rw [hv]; exact (k H locs ls hP hD hS hl))
theorem y_aload_n (C : yC p s m args meth c cc nL own ret D cI cP cS A) {k4 : Fin 4} {i : Nat} {x : Nat} (j : Nat) (hdg : decode cc pc = .ok (.aload_n k4, 1)) (hi : (k4 : Nat) = i) (hj : lv[j]? = some (i, .ref x)) (k : yW p l e R s m args below meth c cells slots Q D A nL (ws) (pc + 1) lv (.ref x :: rest)) : yW p l e R s m args below meth c cells slots Q D A nL (ws) pc lv (rest) := fun H locs ls hP hD hS hl => lv_aload_n C.hx C.hb hdg hi (lv_at hl j hj) (k H locs ls hP hD hS hl)
theorem y_iload_n (C : yC p s m args meth c cc nL own ret D cI cP cS A) {k4 : Fin 4} {i : Nat} {x : Int32} (j : Nat) (hdg : decode cc pc = .ok (.iload_n k4, 1)) (hi : (k4 : Nat) = i) (hj : lv[j]? = some (i, .int x)) (k : yW p l e R s m args below meth c cells slots Q D A nL (ws) (pc + 1) lv (.int x :: rest)) : yW p l e R s m args below meth c cells slots Q D A nL (ws) pc lv (rest) := fun H locs ls hP hD hS hl => lv_iload_n C.hx C.hb hdg hi (lv_at hl j hj) (k H locs ls hP hD hS hl)
theorem y_istore_n (C : yC p s m args meth c cc nL own ret D cI cP cS A) {k4 : Fin 4} {i : Nat} {x : Int32} {lv1 : List (Nat × Value)} (hdg : decode cc pc = .ok (.istore_n k4, 1)) (hi : (k4 : Nat) = i) (hn : i < nL) (hv : (i, Value.int x) :: lv.filter (fun q => !(q.1 == i) && !(q.1 + 1 == i && q.2.category == 2)) = lv1) (k : yW p l e R s m args below meth c cells slots Q D A nL (ws) (pc + 1) lv1 (rest)) : yW p l e R s m args below meth c cells slots Q D A nL (ws) pc lv (.int x :: rest) := fun H locs ls hP hD hS hl => lv_istore_n C.hx C.hb hdg hi hl hn hv (fun ls2 hl2 => k H locs ls2 hP hD hS hl2)
theorem y_astore_n (C : yC p s m args meth c cc nL own ret D cI cP cS A) {k4 : Fin 4} {i : Nat} {x : Nat} {lv1 : List (Nat × Value)} (hdg : decode cc pc = .ok (.astore_n k4, 1)) (hi : (k4 : Nat) = i) (hn : i < nL) (hv : (i, Value.ref x) :: lv.filter (fun q => !(q.1 == i) && !(q.1 + 1 == i && q.2.category == 2)) = lv1) (k : yW p l e R s m args below meth c cells slots Q D A nL (ws) (pc + 1) lv1 (rest)) : yW p l e R s m args below meth c cells slots Q D A nL (ws) pc lv (.ref x :: rest) := fun H locs ls hP hD hS hl => lv_astore_n C.hx C.hb hdg hi hl hn hv (fun ls2 hl2 => k H locs ls2 hP hD hS hl2)
theorem y_iinc (C : yC p s m args meth c cc nL own ret D cI cP cS A) {i : Nat} {n : Int} {x v : Int32} {lv1 : List (Nat × Value)} (j : Nat) (hdg : decode cc pc = .ok (.iinc i n, 3)) (hj : lv[j]? = some (i, .int x)) (hx2 : x + Int32.ofInt n = v) (hn : i < nL) (hv : (i, Value.int v) :: lv.filter (fun q => !(q.1 == i) && !(q.1 + 1 == i && q.2.category == 2)) = lv1) (k : yW p l e R s m args below meth c cells slots Q D A nL (ws) (pc + 3) lv1 (rest)) : yW p l e R s m args below meth c cells slots Q D A nL (ws) pc lv (rest) := fun H locs ls hP hD hS hl => lv_iinc C.hx C.hb hdg hl hj hx2 hn hv (fun ls2 hl2 => k H locs ls2 hP hD hS hl2)
theorem y_goto (C : yC p s m args meth c cc nL own ret D cI cP cS A) {off : Int} {tgt : Nat} (hdg : decode cc pc = .ok (.goto off, 3)) (ht : (pc : Int) + off = (tgt : Int)) (k : yW p l e R s m args below meth c cells slots Q D A nL (ws) tgt lv (rest)) : yW p l e R s m args below meth c cells slots Q D A nL (ws) pc lv (rest) := fun H locs ls hP hD hS hl => lv_goto C.hx C.hb hdg ht (k H locs ls hP hD hS hl)
theorem y_ge_f (C : yC p s m args meth c cc nL own ret D cI cP cS A) {x y : Int32} {off : Int} {tgt : Nat} (hdg : decode cc pc = .ok (.if_icmp .ge off, 3)) (ht : (pc : Int) + off = (tgt : Int)) (h : x < y) (k : yW p l e R s m args below meth c cells slots Q D A nL (ws) (pc + 3) lv (rest)) : yW p l e R s m args below meth c cells slots Q D A nL (ws) pc lv (.int y :: .int x :: rest) := fun H locs ls hP hD hS hl => lv_icmp_ge (tgt := tgt) C.hx C.hb hdg ht (fun q => absurd q (by rw [Int32.not_le]; exact h)) (fun _ => k H locs ls hP hD hS hl)
theorem y_ge_t (C : yC p s m args meth c cc nL own ret D cI cP cS A) {x y : Int32} {off : Int} {tgt : Nat} (hdg : decode cc pc = .ok (.if_icmp .ge off, 3)) (ht : (pc : Int) + off = (tgt : Int)) (h : ¬ x < y) (k : yW p l e R s m args below meth c cells slots Q D A nL (ws) tgt lv (rest)) : yW p l e R s m args below meth c cells slots Q D A nL (ws) pc lv (.int y :: .int x :: rest) := fun H locs ls hP hD hS hl => lv_icmp_ge (tgt := tgt) C.hx C.hb hdg ht (fun _ => k H locs ls hP hD hS hl) (fun q => absurd (Int32.not_lt.mp h) q)
theorem y_obj (C : yC p s m args meth c cc nL own ret D cI cP cS A) {index a : Nat} (hl0 : Cond.methodLink own index Lib.objectInit ∈ xT) (hdg : decode cc pc = .ok (.invokespecial index, 3)) (hR : 1 ≤ R.frames ∧ (rest.map fun v => v.category).sum + 12 ≤ R.locals) (k : yW p l e R s m args below meth c cells slots Q D A nL (ws) (pc + 3) lv (rest)) : yW p l e R s m args below meth c cells slots Q D A nL (ws) pc lv (.ref a :: rest) := fun H locs ls hP hD hS hl => by
  refine W.objInit C.hx C.hb C.hown (C.hts _ hl0) (C.hts _ yo_i) (C.hts _ yo_c) rfl (by rw [C.hml]; exact hl.1) rfl hdg hR.1 (by show 2 * 0 + _ + 12 ≤ _; omega) ?_
  refine W.eq (g2 := F0 m (pc + 3) ls rest) rfl ?_
  exact k H locs ls hP hD hS hl
theorem y_new (C : yC p s m args meth c cc nL own ret D cI cP cS A) {index ci N : Nat} {Cn : String} {T : u_T} (ty : Nat → FieldType) (hin : ∀ w ∈ u_ws Cn T N, w ∈ xT) (hty : ∀ k, k < N → parseFieldDescriptor (T k).2.2.1 = some (ty k)) (hcl : Cond.classLink own index Cn ∈ xT) (hinst : Cond.instantiable Cn N ∈ xT) (hini : Cond.initialized Cn ∈ xT) (hc : vwCl[ci]? = some (Cn, T, N)) {fs : List Value} (hfs : ∀ j, j < N → defaultValue (ty j) = vp_V fs j) (hR : cells + 1 ≤ R.cells ∧ slots + N ≤ R.slots) (hdg : decode cc pc = .ok (.new index, 3)) (k : ∀ q : Nat, yW p l e R s m args below meth c (cells + 1) (slots + N) Q D A nL (ws ++ [(q, .inr (ci, fs))]) (pc + 3) lv (.ref q :: rest)) : yW p l e R s m args below meth c cells slots Q D A nL (ws) pc lv (rest) := fun H locs ls hP hD hS hl => va_new C.hx C.hb C.hts hin ty hty C.hown (C.hts _ hcl) (C.hts _ hinst) (C.hts _ hini) C.hK hP hD hS C.hA hc hfs hR.1 hR.2 hdg (fun q H1 hP hD hS => k q H1 locs ls hP hD hS hl)
theorem y_newa (C : yC p s m args meth c cc nL own ret D cI cP cS A) {n : Int32} {N : Nat} (hn : ¬ n < 0) (hN : n.toNatClampNeg = N) (hb : N * 4 ≤ 536870912) (hR : cells + 1 ≤ R.cells ∧ slots + N ≤ R.slots) (hdg : decode cc pc = .ok (.newarray .int, 2)) (k : ∀ q : Nat, yW p l e R s m args below meth c (cells + 1) (slots + N) Q D A nL (ws ++ [(q, .inl (cI, N, .inl (fun _ => 0)))]) (pc + 2) lv (.ref q :: rest)) : yW p l e R s m args below meth c cells slots Q D A nL (ws) pc lv (.int n :: rest) := fun H locs ls hP hD hS hl => va_newa (atype := .int) C.hx C.hb (C.hts (.arrayClass .int) yo_a) (ty := .int) rfl C.hK hP hD hS C.hA (a0 := (N, .inl (fun _ => 0))) (fun cA => rfl) hn hN hb hR.1 hR.2 hdg (fun q cA H1 hK hP hD hS => by
    have e1 := (hK.2 3 (cA, .int) rfl).2
    have e2 := (C.hK.2 0 (cI, .int) rfl).2
    have e : cA = cI := Option.some.inj (e1.symm.trans e2)
    subst e
    exact k q H1 locs ls hP hD hS hl)
theorem y_newq (C : yC p s m args meth c cc nL own ret D cI cP cS A) {index t N : Nat} {n : Int32} {Cn : String} {cA : ClassId} (ht : (ytys cI cP cS)[t]? = some (cA, .object Cn)) (hcl : Cond.classLink own index Cn ∈ xT) (hAO : va_AO Cn s) (hn : ¬ n < 0) (hN : n.toNatClampNeg = N) (hb : N * 4 ≤ 536870912) (hR : cells + 1 ≤ R.cells ∧ slots + N ≤ R.slots) (hdg : decode cc pc = .ok (.anewarray index, 3)) (k : ∀ q : Nat, yW p l e R s m args below meth c (cells + 1) (slots + N) Q D A nL (ws ++ [(q, .inl (cA, N, .inr (.inr (.inr (.inr (fun _ => none))))))]) (pc + 3) lv (.ref q :: rest)) : yW p l e R s m args below meth c cells slots Q D A nL (ws) pc lv (.int n :: rest) := fun H locs ls hP hD hS hl => va_newq C.hx C.hb C.hown (C.hts _ hcl) hAO C.hK hP hD hS C.hA hn hN hb hR.1 hR.2 hdg (fun q cB H1 hK hP hD hS => by
    obtain ⟨_, _, _, _, _, e1⟩ := (hK.2 3 (cB, .object Cn) rfl).2
    obtain ⟨_, _, _, _, _, e2⟩ := (C.hK.2 t _ ht).2
    have e : cB = cA := Option.some.inj (e1.symm.trans e2)
    subst e
    exact k q H1 locs ls hP hD hS hl)
theorem y_putF (C : yC p s m args meth c cc nL own ret D cI cP cS A) (hin2 : meth.name = "<init>") {h0 ci N index : Nat} {fs : List Value} {T : u_T} (ty0 : Nat → FieldType) (hin : ∀ w ∈ u_ws own T N, w ∈ xT) (hty : ∀ k, k < N → parseFieldDescriptor (T k).2.2.1 = some (ty0 k)) (hnm : ∀ a, a < N → ∀ b, b < N → a ≠ b → (T a).2.1 ≠ (T b).2.1) (hc : vwCl[ci]? = some (own, T, N)) (f : Nat) (hf : f < N) (hlink : Cond.fieldLink own index own (T f).2.1 (T f).2.2.1 ∈ xT) (hfin : (T f).2.2.2 = true) (hdecl : (T f).1 = own) {ty : FieldType} {v : Value} (hd : parseFieldDescriptor (T f).2.2.1 = some ty) (hn : narrow ty v = v) (hfit : fits ty v = true) (hl9 : f < fs.length) (hdg : decode cc pc = .ok (.putfield index, 3)) (k : yW p l e R s m args below meth c cells slots Q D A nL ((h0, .inr (ci, fs.set f v)) :: ws) (pc + 3) lv (rest)) : yW p l e R s m args below meth c cells slots Q D A nL ((h0, .inr (ci, fs)) :: ws) pc lv (v :: .ref h0 :: rest) := fun H locs ls hP hD hS hl => va_putF C.hx C.hb C.hts hin ty0 hty hnm C.hown C.hK hP hD hS 0 rfl hc f hf (C.hts _ hlink) (fun x h => by rw [hdecl] at h; exact h) hfin hin2 hdecl hd hn hfit hl9 hdg (fun H1 locs1 hP hD hS => k H1 locs1 ls hP hD hS hl)
theorem y_put (C : yC p s m args meth c cc nL own ret D cI cP cS A) {h0 ci N index : Nat} {fs : List Value} {T : u_T} (ty0 : Nat → FieldType) (hin : ∀ w ∈ u_ws own T N, w ∈ xT) (hty : ∀ k, k < N → parseFieldDescriptor (T k).2.2.1 = some (ty0 k)) (hnm : ∀ a, a < N → ∀ b, b < N → a ≠ b → (T a).2.1 ≠ (T b).2.1) (hc : vwCl[ci]? = some (own, T, N)) (f : Nat) (hf : f < N) (hlink : Cond.fieldLink own index own (T f).2.1 (T f).2.2.1 ∈ xT) (hfin : (T f).2.2.2 = false) (hdecl : (T f).1 = own) {ty : FieldType} {v : Value} (hd : parseFieldDescriptor (T f).2.2.1 = some ty) (hn : narrow ty v = v) (hfit : fits ty v = true) (hl9 : f < fs.length) (hdg : decode cc pc = .ok (.putfield index, 3)) (k : yW p l e R s m args below meth c cells slots Q D A nL ((h0, .inr (ci, fs.set f v)) :: ws) (pc + 3) lv (rest)) : yW p l e R s m args below meth c cells slots Q D A nL ((h0, .inr (ci, fs)) :: ws) pc lv (v :: .ref h0 :: rest) := fun H locs ls hP hD hS hl => va_put C.hx C.hb C.hts hin ty0 hty hnm C.hown C.hK hP hD hS 0 rfl hc f hf (C.hts _ hlink) (fun x h => by rw [hdecl] at h; exact h) hfin hd hn hfit hl9 hdg (fun H1 locs1 hP hD hS => k H1 locs1 ls hP hD hS hl)
theorem y_get (C : yC p s m args meth c cc nL own ret D cI cP cS A) {h0 ci N index : Nat} {fs : List Value} {T : u_T} (hin : ∀ w ∈ u_ws own T N, w ∈ xT) (hc : vwCl[ci]? = some (own, T, N)) (f : Nat) (hf : f < N) (hlink : Cond.fieldLink own index own (T f).2.1 (T f).2.2.1 ∈ xT) (hdecl : (T f).1 = own) {v : Value} (hv : fs[f]? = some v) (hdg : decode cc pc = .ok (.getfield index, 3)) (k : yW p l e R s m args below meth c cells slots Q D A nL ((h0, .inr (ci, fs)) :: ws) (pc + 3) lv (v :: rest)) : yW p l e R s m args below meth c cells slots Q D A nL ((h0, .inr (ci, fs)) :: ws) pc lv (.ref h0 :: rest) := fun H locs ls hP hD hS hl => va_get C.hx C.hb C.hts hin C.hown C.hK hP 0 rfl hc f hf (C.hts _ hlink) (fun x h => by rw [hdecl] at h; exact h) hv hdg (k H locs ls hP hD hS hl)
/-- a store into the array made last -/
theorem y_astL (C : yC p s m args meth c cc nL own ret D cI cP cS A) {a n j : Nat} {i x : Int32} {f : Nat → Int32} (hj : i.toNatClampNeg = j) (hin : vp_in i n) (hdg : decode cc pc = .ok (.iastore, 1)) (k : yW p l e R s m args below meth c cells slots Q D A nL (ws ++ [(a, .inl (cI, n, .inl (upd f j x)))]) (pc + 1) lv (rest)) : yW p l e R s m args below meth c cells slots Q D A nL (ws ++ [(a, .inl (cI, n, .inl f))]) pc lv (.int x :: .int i :: .ref a :: rest) := fun H locs ls hP hD hS hl => by
  subst hj
  refine va_iast C.hx C.hb C.hK hP hD hS ws.length 0 (cA := cI) (n := n) (f := f) (by simp) rfl hin hdg (fun H1 locs1 hP hD hS => ?_)
  have e : (ws ++ [(a, (.inl (cI, n, .inl f) : va_E))]).set ws.length (a, .inl (cI, n, .inl (upd f i.toNatClampNeg x))) = ws ++ [(a, .inl (cI, n, .inl (upd f i.toNatClampNeg x)))] := by simp
  rw [e] at hP hD
  exact k H1 locs1 ls hP hD hS hl
/-- a store into the array at k -/
theorem y_ast (C : yC p s m args meth c cc nL own ret D cI cP cS A) (q0 : Nat) {a n j : Nat} {i x : Int32} {f : Nat → Int32} (ha : ws[q0]? = some (a, .inl (cI, n, .inl f))) (hws : ws.set q0 (a, .inl (cI, n, .inl (upd f j x))) = ws') (hj : i.toNatClampNeg = j) (hin : vp_in i n) (hdg : decode cc pc = .ok (.iastore, 1)) (k : yW p l e R s m args below meth c cells slots Q D A nL (ws') (pc + 1) lv (rest)) : yW p l e R s m args below meth c cells slots Q D A nL (ws) pc lv (.int x :: .int i :: .ref a :: rest) := fun H locs ls hP hD hS hl => by
  subst hj
  subst hws
  exact va_iast C.hx C.hb C.hK hP hD hS q0 0 ha rfl hin hdg (fun H1 locs1 hP hD hS => k H1 locs1 ls hP hD hS hl)
theorem y_aast (C : yC p s m args meth c cc nL own ret D cI cP cS A) (q0 t0 qk ci : Nat) {a n v j : Nat} {i : Int32} {cA : ClassId} {r : vw_C} {vs : List Value} {f : Nat → Option Nat} (ht : (ytys cI cP cS)[t0]? = some (cA, .object r.1)) (hc : vwCl[ci]? = some r) (ha : ws[q0]? = some (a, .inl (cA, n, .inr (.inr (.inr (.inr f)))))) (hv : ws[qk]? = some (v, .inr (ci, vs))) (hws : ws.set q0 (a, .inl (cA, n, .inr (.inr (.inr (.inr (va_up f j (some v))))))) = ws') (hj : i.toNatClampNeg = j) (hin : vp_in i n) (hdg : decode cc pc = .ok (.aastore, 1)) (k : yW p l e R s m args below meth c cells slots Q D A nL (ws') (pc + 1) lv (rest)) : yW p l e R s m args below meth c cells slots Q D A nL (ws) pc lv (.ref v :: .int i :: .ref a :: rest) := fun H locs ls hP hD hS hl => by
  subst hj
  subst hws
  exact va_astq C.hx C.hb C.hK hP hD hS q0 t0 qk ci ha ht hv hc hin hdg (fun H1 locs1 hP hD hS => k H1 locs1 ls hP hD hS hl)
def yM (l : Launch) (y : MethodName) (cc : ByteArray) (mL fr lo mc ms : Nat) (D : va_G) (cI cP cS : ClassId) (ci : Nat) (fs0 av : List Value) (res : Nat → (Nat → Nat) → va_W) : Prop :=
  ∀ h0 sz : Nat, Met l y (Cond.code y cc mL none :: xT) { frames := fr, cells := mc, slots := ms, locals := lo } (va_Pc (.ref h0 :: av) (fun U => U.heap.size = sz ∧ va_P D vwCl [(h0, .inr (ci, fs0))] U.heap ∧ yK D cI cP cS U ∧ va_D (fun _ => True) [(h0, (.inr (ci, fs0) : va_E))])) (va_Qv (fun _ : Nat → Nat => True) (fun q t => va_P D vwCl (res h0 q) t.heap ∧ va_D (va_A [(h0, .inr (ci, fs0))] sz) (res h0 q)) (va_A [(h0, .inr (ci, fs0))] sz)) mc ms (va_A [(h0, .inr (ci, fs0))] sz)
theorem yM_of {y : MethodName} {mL fr lo mc ms ci : Nat} {fs0 av : List Value} {res : Nat → (Nat → Nat) → va_W} (hy : plainName y.cls = true) (hnm : y.name = "<init>") (ho : y.cls = own) (hav : ∀ h0, (lg_sl (.ref h0 :: av)).length ≤ mL) (body : ∀ (h0 : Nat) (p : Program) (e : Env) (s : State) (m : MethodId) (args : Array Value) (below : List Frame) (meth : Method) (c : Code), yC p s m args meth c cc mL own none D cI cP cS (va_A [(h0, .inr (ci, fs0))] s.heap.size) → meth.name = "<init>" → yW p l e { frames := fr, cells := mc, slots := ms, locals := lo } s m args below meth c 0 0 (MQ below (va_Qv (fun _ : Nat → Nat => True) (fun q t => va_P D vwCl (res h0 q) t.heap ∧ va_D (va_A [(h0, .inr (ci, fs0))] s.heap.size) (res h0 q)) (va_A [(h0, .inr (ci, fs0))] s.heap.size)) args s mc ms (va_A [(h0, .inr (ci, fs0))] s.heap.size)) D (va_A [(h0, .inr (ci, fs0))] s.heap.size) mL [(h0, .inr (ci, fs0))] 0 (lv_args 0 (.ref h0 :: av)) []) : yM l y cc mL fr lo mc ms D cI cP cS ci fs0 av res := by
  intro h0 sz
  refine Met.ofW (cc := cc) (maxL := mL) (ret := none) hy rfl ?_
  intro p e s m args below meth c s₁ B hml hv
  obtain ⟨rfl, hsz, hP, hK, hD0⟩ := hv
  subst hsz
  have hown : s.vm.findClass own = some m.cls := by rw [← ho]; exact findClass_of_methodNamed B.named
  have hts := atoms_spec (ws := Cond.code y cc mL none :: xT) B.pre
  have hin : meth.name = "<init>" := (name_of_methodNamed B.named B.method).1.trans hnm
  have h := body h0 p e s m (.ref h0 :: av).toArray below meth c ⟨⟨B.exec, B.bytes, hml, hown, fun w hw => hts w (List.mem_cons_of_mem _ hw)⟩, B.returns, B.notSynchronized, hK, fun q hq => Or.inr hq⟩ hin
  rw [lg_entry_eq]
  exact h s.heap [] _ hP hD0.self va_S.rf (lv_entry (.ref h0 :: av) (hav h0))
theorem y_ret {mc ms h0 ci : Nat} {fs0 : List Value} {res : Nat → (Nat → Nat) → va_W} (C : yC p s m args meth c cc nL own none D cI cP cS (va_A [(h0, .inr (ci, fs0))] s.heap.size)) (q : Nat → Nat) (hres : ws = res h0 q) (hc : cells ≤ mc ∧ slots ≤ ms) (hdg : decode cc pc = .ok (.return_, 1)) : yW p l e R s m args below meth c cells slots (MQ below (va_Qv (fun _ : Nat → Nat => True) (fun q t => va_P D vwCl (res h0 q) t.heap ∧ va_D (va_A [(h0, .inr (ci, fs0))] s.heap.size) (res h0 q)) (va_A [(h0, .inr (ci, fs0))] s.heap.size)) args s mc ms (va_A [(h0, .inr (ci, fs0))] s.heap.size)) D (va_A [(h0, .inr (ci, fs0))] s.heap.size) nL ws pc lv [] := by
  subst hres
  intro H locs ls hP hD hS hl
  refine W.widen (k := mc) (n := ms) hc.1 hc.2 ?_
  exact W.vret C.hx C.hb C.hr (fun t ht hW => ⟨⟨q, rfl, trivial, by rw [ht]; exact hP, hD⟩, hS.F ht⟩) hS.2.2 hdg C.hlk
theorem yjoin {x : Nat × va_E} {w1 : va_W} {H H1 : Heap} (hP : va_P D vwCl (ws ++ [x]) H) (hD : va_D A (ws ++ [x])) (hk : ∀ q : Nat, q < H.size → ¬ va_A [x] H.size q → H1[q]? = H[q]?) (hF : ∀ q, va_A [x] H.size q → A q) (hP1 : va_P D vwCl w1 H1) (hD1 : va_D (va_A [x] H.size) w1) : va_P D vwCl (ws ++ w1) H1 ∧ va_D A (ws ++ w1) := by
  refine va_join hP hD [ws.length] (List.range ws.length) (by simp) ?_ ?_ ?_ hk hF hP1 hD1
  · apply List.ext_getElem?
    intro i
    by_cases hi : i < ws.length
    · rw [List.getElem?_map, List.getElem?_range hi, List.getElem?_map, Option.map_some, List.getElem?_append_left hi, List.getElem?_eq_getElem hi]
      rfl
    · rw [List.getElem?_eq_none (by simp; omega), List.getElem?_eq_none (by simp; omega)]
  · exact yrange_nd _
  · intro i hi h2
    rw [List.mem_range] at hi
    rw [List.mem_singleton] at h2
    omega
theorem yFC {y : MethodName} {h0 sz ci : Nat} {fs0 av : List Value} : FrameBlind (va_Pc (.ref h0 :: av) (fun U => U.heap.size = sz ∧ va_P D vwCl [(h0, .inr (ci, fs0))] U.heap ∧ yK D cI cP cS U ∧ va_D (fun _ => True) [(h0, (.inr (ci, fs0) : va_E))])) := by
  intro a U g mk q
  obtain ⟨q0, q1, qP, qK, qD⟩ := q
  exact ⟨q0, q1, qP, qK.calling, qD⟩

theorem y_initI (C : yC p s m args meth c cc nL own ret D cI cP cS A) {y : MethodName} {bytes : ByteArray} {mL fr lo mc ms ci a index n : Nat} {fs0 As st : List Value} {res : Nat → (Nat → Nat) → va_W} (hl0 : Cond.methodLink own index y ∈ xT) (hM : yM l y bytes mL fr lo mc ms D cI cP cS ci fs0 As res) (hcode : Cond.code y bytes mL none ∈ xT) (hini : Cond.initialized y.cls ∈ xT) (hin : Cond.instanceMethod y ∈ xT) (hy1 : y.name = "<init>") (hd : y.cls ≠ "java/lang/invoke/MethodHandle" ∧ y.cls ≠ "java/lang/invoke/VarHandle" ∧ (parseMethodDescriptor y.desc).map (fun d => d.parameters.length) = some n) (hR : fr + 1 ≤ R.frames ∧ 8 + (mL + 11) + lo ≤ R.locals) (hRc : cells + mc ≤ R.cells ∧ slots + ms ≤ R.slots) (hn : As.length = n) (hst : st = As.reverse ++ .ref a :: rest) (hrm : (rest.map fun v => v.category).sum ≤ 8) (hdg : decode cc pc = .ok (.invokespecial index, 3)) (k : ∀ q : Nat → Nat, yW p l e R s m args below meth c (cells + mc) (slots + ms) Q D A nL (ws ++ res a q) (pc + 3) lv (rest)) : yW p l e R s m args below meth c cells slots Q D A nL (ws ++ [(a, .inr (ci, fs0))]) pc lv (st) := fun H locs ls hP hD hS hl => by
  subst hst
  have hPc : va_P D vwCl [(a, .inr (ci, fs0))] H := fun j q hj => by
    have hz : j < 1 := (List.getElem?_eq_some_iff.mp hj).1
    have h0 : j = 0 := by omega
    subst h0
    cases hj
    exact hP ws.length _ (by simp)
  have hDc : va_D (fun _ => True) [(a, (.inr (ci, fs0) : va_E))] := ⟨fun i j p q hi hj _ => by
    have h1 : i < 1 := (List.getElem?_eq_some_iff.mp hi).1
    have h2 : j < 1 := (List.getElem?_eq_some_iff.mp hj).1
    omega, fun _ _ _ => trivial⟩
  have hFc : ∀ q, va_A [(a, .inr (ci, fs0))] H.size q → A q := va_free hD hS C.hA [ws.length] (by simp)
  refine va_callv (va_runI (As := As) (rest := rest) C.1 (hM a H.size) (cwI n C.hts (xGood hcode) rfl rfl rfl (C.hts _ hini) (C.hts _ hl0) (C.hts _ hin) hy1 hd hR) ⟨yFC (y := y), fun U hU hW => ⟨rfl, by rw [hU], by rw [hU]; exact hPc, C.hk.go hW, hDc⟩⟩ rfl hn hl.1 rfl (lv_room hrm) hdg hRc) hS (fun q _ h => hFc q h) hFc (fun u t H1 locs1 ht hvm hw hB hz hk1 hS1 => ?_)
  obtain ⟨hP1, hD1⟩ := hB
  rw [ht] at hP1
  obtain ⟨hP2, hD2⟩ := yjoin hP hD hk1 hFc hP1 hD1
  exact k u H1 locs1 ls hP2 hD2 hS1 hl
theorem y_initN (C : yC p s m args meth c cc nL own ret D cI cP cS A) {y : MethodName} {bytes : ByteArray} {mL fr lo mc ms ci a index n : Nat} {fs0 As st : List Value} {res : Nat → (Nat → Nat) → va_W} {host : String} (hl0 : Cond.methodLinkNest own index y host ∈ lw_tbl) (hM : yM l y bytes mL fr lo mc ms D cI cP cS ci fs0 As res) (hcode : Cond.code y bytes mL none ∈ xT) (hini : Cond.initialized y.cls ∈ xT) (hin : Cond.instanceMethod y ∈ xT) (hy1 : y.name = "<init>") (hd : y.cls ≠ "java/lang/invoke/MethodHandle" ∧ y.cls ≠ "java/lang/invoke/VarHandle" ∧ (parseMethodDescriptor y.desc).map (fun d => d.parameters.length) = some n) (hR : fr + 1 ≤ R.frames ∧ 8 + (mL + 11) + lo ≤ R.locals) (hRc : cells + mc ≤ R.cells ∧ slots + ms ≤ R.slots) (hn : As.length = n) (hst : st = As.reverse ++ .ref a :: rest) (hrm : (rest.map fun v => v.category).sum ≤ 8) (hdg : decode cc pc = .ok (.invokespecial index, 3)) (k : ∀ q : Nat → Nat, yW p l e R s m args below meth c (cells + mc) (slots + ms) Q D A nL (ws ++ res a q) (pc + 3) lv (rest)) : yW p l e R s m args below meth c cells slots Q D A nL (ws ++ [(a, .inr (ci, fs0))]) pc lv (st) := fun H locs ls hP hD hS hl => by
  subst hst
  have hPc : va_P D vwCl [(a, .inr (ci, fs0))] H := fun j q hj => by
    have hz : j < 1 := (List.getElem?_eq_some_iff.mp hj).1
    have h0 : j = 0 := by omega
    subst h0
    cases hj
    exact hP ws.length _ (by simp)
  have hDc : va_D (fun _ => True) [(a, (.inr (ci, fs0) : va_E))] := ⟨fun i j p q hi hj _ => by
    have h1 : i < 1 := (List.getElem?_eq_some_iff.mp hi).1
    have h2 : j < 1 := (List.getElem?_eq_some_iff.mp hj).1
    omega, fun _ _ _ => trivial⟩
  have hFc : ∀ q, va_A [(a, .inr (ci, fs0))] H.size q → A q := va_free hD hS C.hA [ws.length] (by simp)
  refine va_callv (va_runIN (As := As) (rest := rest) C.1 (hM a H.size) ⟨va_cnB n C.hts (xGood hcode) rfl rfl rfl (C.hk.2.1 _ _ _ _ hl0) (C.hts _ hini) hd hR, hy1, C.hts _ hin⟩ ⟨yFC (y := y), fun U hU hW => ⟨rfl, by rw [hU], by rw [hU]; exact hPc, C.hk.go hW, hDc⟩⟩ rfl hn hl.1 rfl (lv_room hrm) hdg hRc) hS (fun q _ h => hFc q h) hFc (fun u t H1 locs1 ht hvm hw hB hz hk1 hS1 => ?_)
  obtain ⟨hP1, hD1⟩ := hB
  rw [ht] at hP1
  obtain ⟨hP2, hD2⟩ := yjoin hP hD hk1 hFc hP1 hD1
  exact k u H1 locs1 ls hP2 hD2 hS1 hl
theorem y_new' {x1 : Nat × va_E} {t1 : va_W} (C : yC p s m args meth c cc nL own ret D cI cP cS A) {index ci N : Nat} {Cn : String} {T : u_T} (ty : Nat → FieldType) (hin : ∀ w ∈ u_ws Cn T N, w ∈ xT) (hty : ∀ k, k < N → parseFieldDescriptor (T k).2.2.1 = some (ty k)) (hcl : Cond.classLink own index Cn ∈ xT) (hinst : Cond.instantiable Cn N ∈ xT) (hini : Cond.initialized Cn ∈ xT) (hc : vwCl[ci]? = some (Cn, T, N)) {fs : List Value} (hfs : ∀ j, j < N → defaultValue (ty j) = vp_V fs j) (hR : cells + 1 ≤ R.cells ∧ slots + N ≤ R.slots) (hdg : decode cc pc = .ok (.new index, 3)) (k : ∀ q : Nat, yW p l e R s m args below meth c (cells + 1) (slots + N) Q D A nL (x1 :: ysn t1 (q, .inr (ci, fs))) (pc + 3) lv (.ref q :: rest)) : yW p l e R s m args below meth c cells slots Q D A nL (x1 :: t1) pc lv (rest) := y_new (ws := x1 :: t1) C ty hin hty hcl hinst hini hc hfs hR hdg k
theorem y_newa' {x1 : Nat × va_E} {t1 : va_W} (C : yC p s m args meth c cc nL own ret D cI cP cS A) {n : Int32} {N : Nat} (hn : ¬ n < 0) (hN : n.toNatClampNeg = N) (hb : N * 4 ≤ 536870912) (hR : cells + 1 ≤ R.cells ∧ slots + N ≤ R.slots) (hdg : decode cc pc = .ok (.newarray .int, 2)) (k : ∀ q : Nat, yW p l e R s m args below meth c (cells + 1) (slots + N) Q D A nL (x1 :: ysn t1 (q, .inl (cI, N, .inl (fun _ => 0)))) (pc + 2) lv (.ref q :: rest)) : yW p l e R s m args below meth c cells slots Q D A nL (x1 :: t1) pc lv (.int n :: rest) := y_newa (ws := x1 :: t1) C hn hN hb hR hdg k
theorem y_newq' {x1 : Nat × va_E} {t1 : va_W} (C : yC p s m args meth c cc nL own ret D cI cP cS A) {index t N : Nat} {n : Int32} {Cn : String} {cA : ClassId} (ht : (ytys cI cP cS)[t]? = some (cA, .object Cn)) (hcl : Cond.classLink own index Cn ∈ xT) (hAO : va_AO Cn s) (hn : ¬ n < 0) (hN : n.toNatClampNeg = N) (hb : N * 4 ≤ 536870912) (hR : cells + 1 ≤ R.cells ∧ slots + N ≤ R.slots) (hdg : decode cc pc = .ok (.anewarray index, 3)) (k : ∀ q : Nat, yW p l e R s m args below meth c (cells + 1) (slots + N) Q D A nL (x1 :: ysn t1 (q, .inl (cA, N, .inr (.inr (.inr (.inr (fun _ => none))))))) (pc + 3) lv (.ref q :: rest)) : yW p l e R s m args below meth c cells slots Q D A nL (x1 :: t1) pc lv (.int n :: rest) := y_newq (ws := x1 :: t1) C ht hcl hAO hn hN hb hR hdg k
theorem y_astL' {x1 : Nat × va_E} {t1 : va_W} (C : yC p s m args meth c cc nL own ret D cI cP cS A) {a n j : Nat} {i x : Int32} {f : Nat → Int32} (hj : i.toNatClampNeg = j) (hin : vp_in i n) (hdg : decode cc pc = .ok (.iastore, 1)) (k : yW p l e R s m args below meth c cells slots Q D A nL (x1 :: ysn t1 (a, .inl (cI, n, .inl (upd f j x)))) (pc + 1) lv (rest)) : yW p l e R s m args below meth c cells slots Q D A nL (x1 :: ysn t1 (a, .inl (cI, n, .inl f))) pc lv (.int x :: .int i :: .ref a :: rest) := y_astL (ws := x1 :: t1) C hj hin hdg k
theorem y_initI' {x1 : Nat × va_E} {t1 : va_W} (C : yC p s m args meth c cc nL own ret D cI cP cS A) {y : MethodName} {bytes : ByteArray} {mL fr lo mc ms ci a index n : Nat} {fs0 As st : List Value} {res : Nat → (Nat → Nat) → va_W} (hl0 : Cond.methodLink own index y ∈ xT) (hM : yM l y bytes mL fr lo mc ms D cI cP cS ci fs0 As res) (hcode : Cond.code y bytes mL none ∈ xT) (hini : Cond.initialized y.cls ∈ xT) (hin : Cond.instanceMethod y ∈ xT) (hy1 : y.name = "<init>") (hd : y.cls ≠ "java/lang/invoke/MethodHandle" ∧ y.cls ≠ "java/lang/invoke/VarHandle" ∧ (parseMethodDescriptor y.desc).map (fun d => d.parameters.length) = some n) (hR : fr + 1 ≤ R.frames ∧ 8 + (mL + 11) + lo ≤ R.locals) (hRc : cells + mc ≤ R.cells ∧ slots + ms ≤ R.slots) (hn : As.length = n) (hst : st = As.reverse ++ .ref a :: rest) (hrm : (rest.map fun v => v.category).sum ≤ 8) (hdg : decode cc pc = .ok (.invokespecial index, 3)) (k : ∀ q : Nat → Nat, yW p l e R s m args below meth c (cells + mc) (slots + ms) Q D A nL (x1 :: yapp t1 (res a q)) (pc + 3) lv (rest)) : yW p l e R s m args below meth c cells slots Q D A nL (x1 :: ysn t1 (a, .inr (ci, fs0))) pc lv (st) := y_initI (ws := x1 :: t1) C hl0 hM hcode hini hin hy1 hd hR hRc hn hst hrm hdg k
theorem y_initN' {x1 : Nat × va_E} {t1 : va_W} (C : yC p s m args meth c cc nL own ret D cI cP cS A) {y : MethodName} {bytes : ByteArray} {mL fr lo mc ms ci a index n : Nat} {fs0 As st : List Value} {res : Nat → (Nat → Nat) → va_W} {host : String} (hl0 : Cond.methodLinkNest own index y host ∈ lw_tbl) (hM : yM l y bytes mL fr lo mc ms D cI cP cS ci fs0 As res) (hcode : Cond.code y bytes mL none ∈ xT) (hini : Cond.initialized y.cls ∈ xT) (hin : Cond.instanceMethod y ∈ xT) (hy1 : y.name = "<init>") (hd : y.cls ≠ "java/lang/invoke/MethodHandle" ∧ y.cls ≠ "java/lang/invoke/VarHandle" ∧ (parseMethodDescriptor y.desc).map (fun d => d.parameters.length) = some n) (hR : fr + 1 ≤ R.frames ∧ 8 + (mL + 11) + lo ≤ R.locals) (hRc : cells + mc ≤ R.cells ∧ slots + ms ≤ R.slots) (hn : As.length = n) (hst : st = As.reverse ++ .ref a :: rest) (hrm : (rest.map fun v => v.category).sum ≤ 8) (hdg : decode cc pc = .ok (.invokespecial index, 3)) (k : ∀ q : Nat → Nat, yW p l e R s m args below meth c (cells + mc) (slots + ms) Q D A nL (x1 :: yapp t1 (res a q)) (pc + 3) lv (rest)) : yW p l e R s m args below meth c cells slots Q D A nL (x1 :: ysn t1 (a, .inr (ci, fs0))) pc lv (st) := y_initN (ws := x1 :: t1) C hl0 hM hcode hini hin hy1 hd hR hRc hn hst hrm hdg k
theorem y_front {x1 y1 : Nat × va_E} {t1 : va_W} (k : yW p l e R s m args below meth c cells slots Q D A nL (x1 :: y1 :: t1) pc lv (rest)) : yW p l e R s m args below meth c cells slots Q D A nL (x1 :: ysn t1 y1) pc lv (rest) := fun H locs ls hP hD hS hl => by
  have e : ∀ (j : Nat) (q : Nat × va_E), (x1 :: y1 :: t1)[j]? = some q → (x1 :: ysn t1 y1)[if j = 0 then 0 else if j = 1 then t1.length + 1 else j - 1]? = some q := by
    intro j q hj
    match j, hj with
    | 0, hj => exact hj
    | 1, hj =>
      show (x1 :: (t1 ++ [y1]))[t1.length + 1]? = some q
      rw [List.getElem?_cons_succ, List.getElem?_append_right (Nat.le_refl _), Nat.sub_self]
      exact hj
    | j + 2, hj =>
      show (x1 :: (t1 ++ [y1]))[j + 1]? = some q
      rw [List.getElem?_cons_succ]
      rw [List.getElem?_cons_succ, List.getElem?_cons_succ] at hj
      rw [List.getElem?_append_left (List.getElem?_eq_some_iff.mp hj).1]
      exact hj
  refine k H locs ls (fun j q hj => hP _ q (e j q hj)) ⟨fun i j p q hi hj hpq => ?_, fun j q hj => hD.2 _ q (e j q hj)⟩ hS hl
  have h := hD.1 _ _ p q (e i p hi) (e j q hj) hpq
  have hi2 : i < t1.length + 2 := (List.getElem?_eq_some_iff.mp hi).1
  have hj2 : j < t1.length + 2 := (List.getElem?_eq_some_iff.mp hj).1
  split at h <;> split at h <;> (try split at h) <;> (try split at h) <;> omega
theorem y_aastQ (C : yC p s m args meth c cc nL own ret D cI cP cS A) (t0 ci : Nat) {a n v j : Nat} {i : Int32} {cA : ClassId} {r : vw_C} {vs : List Value} {f : Nat → Option Nat} {x1 : Nat × va_E} {t1 w1 : va_W} (ht : (ytys cI cP cS)[t0]? = some (cA, .object r.1)) (hc : vwCl[ci]? = some r) (hv : w1[0]? = some (v, .inr (ci, vs))) (hj : i.toNatClampNeg = j) (hin : vp_in i n) (hdg : decode cc pc = .ok (.aastore, 1)) (k : yW p l e R s m args below meth c cells slots Q D A nL (x1 :: (a, .inl (cA, n, .inr (.inr (.inr (.inr (va_up f j (some v))))))) :: yapp t1 w1) (pc + 1) lv (rest)) : yW p l e R s m args below meth c cells slots Q D A nL (x1 :: (a, .inl (cA, n, .inr (.inr (.inr (.inr f))))) :: yapp t1 w1) pc lv (.ref v :: .int i :: .ref a :: rest) := y_aast C 1 t0 (t1.length + 2) ci ht hc rfl (by
    show (x1 :: (a, _) :: (t1 ++ w1))[t1.length + 2]? = _
    rw [List.getElem?_cons_succ, List.getElem?_cons_succ, List.getElem?_append_right (Nat.le_refl _), Nat.sub_self]
    exact hv) rfl hj hin hdg k
/-- a field of the object whose constructor returned last -/
theorem y_getL (C : yC p s m args meth c cc nL own ret D cI cP cS A) {h0 ci f index : Nat} {fs : List Value} {x1 : Nat × va_E} {t1 w1 : va_W} {v : Value} (hf : xFl own index ci f) (hw : w1[0]? = some (h0, .inr (ci, fs))) (hv : fs[f]? = some v) (hdg : decode cc pc = .ok (.getfield index, 3)) (k : yW p l e R s m args below meth c cells slots Q D A nL (x1 :: yapp t1 w1) (pc + 3) lv (v :: rest)) : yW p l e R s m args below meth c cells slots Q D A nL (x1 :: yapp t1 w1) pc lv (.ref h0 :: rest) := by
  obtain ⟨Cn, T, N, hc, hfN, hin, hlink⟩ := hf
  intro H locs ls hP hD hS hl
  refine va_get C.hx C.hb C.hts hin C.hown C.hK hP (t1.length + 1) ?_ hc f hfN (C.hts _ hlink) (fun _ h => h) hv hdg (k H locs ls hP hD hS hl)
  show (x1 :: (t1 ++ w1))[t1.length + 1]? = _
  rw [List.getElem?_cons_succ, List.getElem?_append_right (Nat.le_refl _), Nat.sub_self]
  exact hw
end YROWS
