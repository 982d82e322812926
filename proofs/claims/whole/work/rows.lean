section
/-! the tables words; those that go with a call -/
/-- a private method of a class that the tables say can be made, by its rows of tables_1 -/
def lw_okq (q : MethodName × Nat) : Prop := (q.1.cls ≠ "java/lang/invoke/MethodHandle" ∧ q.1.cls ≠ "java/lang/invoke/VarHandle") ∧ Cond.instantiable q.1.cls q.2 ∈ tables_1 ∧ Cond.privateMethod q.1 ∈ tables_1 ∧ Cond.instanceMethod q.1 ∈ tables_1
theorem lw_p0 : lw_okq (⟨"LeakCups", "finding", "(I)I"⟩, 10) := ⟨⟨by decide +kernel, by decide +kernel⟩, List.mem_of_getElem? (i := 19) (by decide +kernel), List.mem_of_getElem? (i := 251) (by decide +kernel), List.mem_of_getElem? (i := 252) (by decide +kernel)⟩
theorem lw_p1 : lw_okq (⟨"LeakCups$Wheel", "pour", "()V"⟩, 13) := ⟨⟨by decide +kernel, by decide +kernel⟩, List.mem_of_getElem? (i := 33) (by decide +kernel), List.mem_of_getElem? (i := 332) (by decide +kernel), List.mem_of_getElem? (i := 333) (by decide +kernel)⟩
theorem lw_p2 : lw_okq (⟨"LeakCups$Wheel", "drain", "(I)V"⟩, 13) := ⟨⟨by decide +kernel, by decide +kernel⟩, List.mem_of_getElem? (i := 33) (by decide +kernel), List.mem_of_getElem? (i := 341) (by decide +kernel), List.mem_of_getElem? (i := 342) (by decide +kernel)⟩
theorem lw_p3 : lw_okq (⟨"LeakCups$Wheel", "passOn", "(I)V"⟩, 13) := ⟨⟨by decide +kernel, by decide +kernel⟩, List.mem_of_getElem? (i := 33) (by decide +kernel), List.mem_of_getElem? (i := 346) (by decide +kernel), List.mem_of_getElem? (i := 347) (by decide +kernel)⟩
theorem lw_p4 : lw_okq (⟨"LeakCups$Wheel", "swing", "()V"⟩, 13) := ⟨⟨by decide +kernel, by decide +kernel⟩, List.mem_of_getElem? (i := 33) (by decide +kernel), List.mem_of_getElem? (i := 350) (by decide +kernel), List.mem_of_getElem? (i := 351) (by decide +kernel)⟩
theorem lw_p5 : lw_okq (⟨"LeakCups$Wheel", "watchWay", "()V"⟩, 13) := ⟨⟨by decide +kernel, by decide +kernel⟩, List.mem_of_getElem? (i := 33) (by decide +kernel), List.mem_of_getElem? (i := 363) (by decide +kernel), List.mem_of_getElem? (i := 364) (by decide +kernel)⟩
theorem lw_p6 : lw_okq (⟨"LeakCups$Wheel", "logTurn", "()V"⟩, 13) := ⟨⟨by decide +kernel, by decide +kernel⟩, List.mem_of_getElem? (i := 33) (by decide +kernel), List.mem_of_getElem? (i := 367) (by decide +kernel), List.mem_of_getElem? (i := 368) (by decide +kernel)⟩
theorem lw_p7 : lw_okq (⟨"LeakCups$TextReader", "next", "()V"⟩, 5) := ⟨⟨by decide +kernel, by decide +kernel⟩, List.mem_of_getElem? (i := 149) (by decide +kernel), List.mem_of_getElem? (i := 433) (by decide +kernel), List.mem_of_getElem? (i := 434) (by decide +kernel)⟩
theorem lw_p8 : lw_okq (⟨"LeakCups$TextReader", "readWord", "()V"⟩, 5) := ⟨⟨by decide +kernel, by decide +kernel⟩, List.mem_of_getElem? (i := 149) (by decide +kernel), List.mem_of_getElem? (i := 446) (by decide +kernel), List.mem_of_getElem? (i := 447) (by decide +kernel)⟩
theorem lw_p9 : lw_okq (⟨"LeakCups$TextReader", "readNumber", "()V"⟩, 5) := ⟨⟨by decide +kernel, by decide +kernel⟩, List.mem_of_getElem? (i := 149) (by decide +kernel), List.mem_of_getElem? (i := 522) (by decide +kernel), List.mem_of_getElem? (i := 523) (by decide +kernel)⟩
theorem lw_p10 : lw_okq (⟨"LeakCups$TextReader", "readSign", "()V"⟩, 5) := ⟨⟨by decide +kernel, by decide +kernel⟩, List.mem_of_getElem? (i := 149) (by decide +kernel), List.mem_of_getElem? (i := 527) (by decide +kernel), List.mem_of_getElem? (i := 528) (by decide +kernel)⟩
theorem lw_p11 : lw_okq (⟨"LeakCups$TextReader", "readDeed", "(LLeakCups$Program;)Z"⟩, 5) := ⟨⟨by decide +kernel, by decide +kernel⟩, List.mem_of_getElem? (i := 149) (by decide +kernel), List.mem_of_getElem? (i := 531) (by decide +kernel), List.mem_of_getElem? (i := 532) (by decide +kernel)⟩
theorem lw_p12 : lw_okq (⟨"LeakCups$TextReader", "isSign", "(C)Z"⟩, 5) := ⟨⟨by decide +kernel, by decide +kernel⟩, List.mem_of_getElem? (i := 149) (by decide +kernel), List.mem_of_getElem? (i := 535) (by decide +kernel), List.mem_of_getElem? (i := 536) (by decide +kernel)⟩
theorem lw_p13 : lw_okq (⟨"LeakCups", "isProgram", "(I)Z"⟩, 10) := ⟨⟨by decide +kernel, by decide +kernel⟩, List.mem_of_getElem? (i := 19) (by decide +kernel), List.mem_of_getElem? (i := 556) (by decide +kernel), List.mem_of_getElem? (i := 557) (by decide +kernel)⟩
theorem lw_p14 : lw_okq (⟨"LeakCups", "beginTwoRuns", "(I)V"⟩, 10) := ⟨⟨by decide +kernel, by decide +kernel⟩, List.mem_of_getElem? (i := 19) (by decide +kernel), List.mem_of_getElem? (i := 592) (by decide +kernel), List.mem_of_getElem? (i := 593) (by decide +kernel)⟩
theorem lw_p15 : lw_okq (⟨"LeakCups", "differenceOfRuns", "()I"⟩, 10) := ⟨⟨by decide +kernel, by decide +kernel⟩, List.mem_of_getElem? (i := 19) (by decide +kernel), List.mem_of_getElem? (i := 596) (by decide +kernel), List.mem_of_getElem? (i := 597) (by decide +kernel)⟩
def lw_privs_1 : List (MethodName × Nat) := [(⟨"LeakCups", "finding", "(I)I"⟩, 10), (⟨"LeakCups$Wheel", "pour", "()V"⟩, 13), (⟨"LeakCups$Wheel", "drain", "(I)V"⟩, 13), (⟨"LeakCups$Wheel", "passOn", "(I)V"⟩, 13), (⟨"LeakCups$Wheel", "swing", "()V"⟩, 13), (⟨"LeakCups$Wheel", "watchWay", "()V"⟩, 13), (⟨"LeakCups$Wheel", "logTurn", "()V"⟩, 13), (⟨"LeakCups$TextReader", "next", "()V"⟩, 5), (⟨"LeakCups$TextReader", "readWord", "()V"⟩, 5), (⟨"LeakCups$TextReader", "readNumber", "()V"⟩, 5), (⟨"LeakCups$TextReader", "readSign", "()V"⟩, 5), (⟨"LeakCups$TextReader", "readDeed", "(LLeakCups$Program;)Z"⟩, 5), (⟨"LeakCups$TextReader", "isSign", "(C)Z"⟩, 5), (⟨"LeakCups", "isProgram", "(I)Z"⟩, 10), (⟨"LeakCups", "beginTwoRuns", "(I)V"⟩, 10), (⟨"LeakCups", "differenceOfRuns", "()I"⟩, 10)]
theorem lw_r1 : ∀ q ∈ lw_privs_1, lw_okq q := List.forall_mem_cons.mpr ⟨lw_p0, List.forall_mem_cons.mpr ⟨lw_p1, List.forall_mem_cons.mpr ⟨lw_p2, List.forall_mem_cons.mpr ⟨lw_p3, List.forall_mem_cons.mpr ⟨lw_p4, List.forall_mem_cons.mpr ⟨lw_p5, List.forall_mem_cons.mpr ⟨lw_p6, List.forall_mem_cons.mpr ⟨lw_p7, List.forall_mem_cons.mpr ⟨lw_p8, List.forall_mem_cons.mpr ⟨lw_p9, List.forall_mem_cons.mpr ⟨lw_p10, List.forall_mem_cons.mpr ⟨lw_p11, List.forall_mem_cons.mpr ⟨lw_p12, List.forall_mem_cons.mpr ⟨lw_p13, List.forall_mem_cons.mpr ⟨lw_p14, List.forall_mem_cons.mpr ⟨lw_p15, fun _ h => absurd h List.not_mem_nil⟩⟩⟩⟩⟩⟩⟩⟩⟩⟩⟩⟩⟩⟩⟩⟩
theorem lw_p16 : lw_okq (⟨"LeakCups", "isHeldBy", "(II)Z"⟩, 10) := ⟨⟨by decide +kernel, by decide +kernel⟩, List.mem_of_getElem? (i := 19) (by decide +kernel), List.mem_of_getElem? (i := 634) (by decide +kernel), List.mem_of_getElem? (i := 635) (by decide +kernel)⟩
theorem lw_p17 : lw_okq (⟨"LeakCups$Sheet", "cut", "(I)I"⟩, 3) := ⟨⟨by decide +kernel, by decide +kernel⟩, List.mem_of_getElem? (i := 193) (by decide +kernel), List.mem_of_getElem? (i := 733) (by decide +kernel), List.mem_of_getElem? (i := 734) (by decide +kernel)⟩
theorem lw_p18 : lw_okq (⟨"LeakCups", "findingsOfAll", "()I"⟩, 10) := ⟨⟨by decide +kernel, by decide +kernel⟩, List.mem_of_getElem? (i := 19) (by decide +kernel), List.mem_of_getElem? (i := 785) (by decide +kernel), List.mem_of_getElem? (i := 786) (by decide +kernel)⟩
theorem lw_p19 : lw_okq (⟨"LeakCupsModel", "finds", "(I)I"⟩, 20) := ⟨⟨by decide +kernel, by decide +kernel⟩, List.mem_of_getElem? (i := 789) (by decide +kernel), List.mem_of_getElem? (i := 869) (by decide +kernel), List.mem_of_getElem? (i := 870) (by decide +kernel)⟩
theorem lw_p20 : lw_okq (⟨"LeakCupsModel", "goesOn", "([II)V"⟩, 20) := ⟨⟨by decide +kernel, by decide +kernel⟩, List.mem_of_getElem? (i := 789) (by decide +kernel), List.mem_of_getElem? (i := 928) (by decide +kernel), List.mem_of_getElem? (i := 929) (by decide +kernel)⟩
theorem lw_p21 : lw_okq (⟨"LeakCupsModel", "goesBy", "([I)V"⟩, 20) := ⟨⟨by decide +kernel, by decide +kernel⟩, List.mem_of_getElem? (i := 789) (by decide +kernel), List.mem_of_getElem? (i := 932) (by decide +kernel), List.mem_of_getElem? (i := 933) (by decide +kernel)⟩
theorem lw_p22 : lw_okq (⟨"LeakCupsModel", "torqueOf", "([I)I"⟩, 20) := ⟨⟨by decide +kernel, by decide +kernel⟩, List.mem_of_getElem? (i := 789) (by decide +kernel), List.mem_of_getElem? (i := 936) (by decide +kernel), List.mem_of_getElem? (i := 937) (by decide +kernel)⟩
theorem lw_p23 : lw_okq (⟨"LeakCupsModel", "logged", "()I"⟩, 20) := ⟨⟨by decide +kernel, by decide +kernel⟩, List.mem_of_getElem? (i := 789) (by decide +kernel), List.mem_of_getElem? (i := 958) (by decide +kernel), List.mem_of_getElem? (i := 959) (by decide +kernel)⟩
theorem lw_p24 : lw_okq (⟨"LeakCupsModel", "peak", "(I)I"⟩, 20) := ⟨⟨by decide +kernel, by decide +kernel⟩, List.mem_of_getElem? (i := 789) (by decide +kernel), List.mem_of_getElem? (i := 968) (by decide +kernel), List.mem_of_getElem? (i := 969) (by decide +kernel)⟩
theorem lw_p25 : lw_okq (⟨"LeakCupsModel", "look", "()V"⟩, 20) := ⟨⟨by decide +kernel, by decide +kernel⟩, List.mem_of_getElem? (i := 789) (by decide +kernel), List.mem_of_getElem? (i := 992) (by decide +kernel), List.mem_of_getElem? (i := 993) (by decide +kernel)⟩
theorem lw_p26 : lw_okq (⟨"LeakCupsModel", "reads", "(I)V"⟩, 20) := ⟨⟨by decide +kernel, by decide +kernel⟩, List.mem_of_getElem? (i := 789) (by decide +kernel), List.mem_of_getElem? (i := 1005) (by decide +kernel), List.mem_of_getElem? (i := 1006) (by decide +kernel)⟩
theorem lw_p27 : lw_okq (⟨"LeakCupsModel", "deed", "()I"⟩, 20) := ⟨⟨by decide +kernel, by decide +kernel⟩, List.mem_of_getElem? (i := 789) (by decide +kernel), List.mem_of_getElem? (i := 1009) (by decide +kernel), List.mem_of_getElem? (i := 1010) (by decide +kernel)⟩
theorem lw_p28 : lw_okq (⟨"LeakCupsModel", "isWord", "(Ljava/lang/String;)Z"⟩, 20) := ⟨⟨by decide +kernel, by decide +kernel⟩, List.mem_of_getElem? (i := 789) (by decide +kernel), List.mem_of_getElem? (i := 1014) (by decide +kernel), List.mem_of_getElem? (i := 1015) (by decide +kernel)⟩
theorem lw_p29 : lw_okq (⟨"LeakCupsModel", "must", "(Z)V"⟩, 20) := ⟨⟨by decide +kernel, by decide +kernel⟩, List.mem_of_getElem? (i := 789) (by decide +kernel), List.mem_of_getElem? (i := 1032) (by decide +kernel), List.mem_of_getElem? (i := 1033) (by decide +kernel)⟩
theorem lw_p30 : lw_okq (⟨"LeakCupsModel", "isProgram", "(I)Z"⟩, 20) := ⟨⟨by decide +kernel, by decide +kernel⟩, List.mem_of_getElem? (i := 789) (by decide +kernel), List.mem_of_getElem? (i := 1046) (by decide +kernel), List.mem_of_getElem? (i := 1047) (by decide +kernel)⟩
theorem lw_p31 : lw_okq (⟨"LeakCupsModel", "plays", "(II)V"⟩, 20) := ⟨⟨by decide +kernel, by decide +kernel⟩, List.mem_of_getElem? (i := 789) (by decide +kernel), List.mem_of_getElem? (i := 1054) (by decide +kernel), List.mem_of_getElem? (i := 1055) (by decide +kernel)⟩
def lw_privs_2 : List (MethodName × Nat) := [(⟨"LeakCups", "isHeldBy", "(II)Z"⟩, 10), (⟨"LeakCups$Sheet", "cut", "(I)I"⟩, 3), (⟨"LeakCups", "findingsOfAll", "()I"⟩, 10), (⟨"LeakCupsModel", "finds", "(I)I"⟩, 20), (⟨"LeakCupsModel", "goesOn", "([II)V"⟩, 20), (⟨"LeakCupsModel", "goesBy", "([I)V"⟩, 20), (⟨"LeakCupsModel", "torqueOf", "([I)I"⟩, 20), (⟨"LeakCupsModel", "logged", "()I"⟩, 20), (⟨"LeakCupsModel", "peak", "(I)I"⟩, 20), (⟨"LeakCupsModel", "look", "()V"⟩, 20), (⟨"LeakCupsModel", "reads", "(I)V"⟩, 20), (⟨"LeakCupsModel", "deed", "()I"⟩, 20), (⟨"LeakCupsModel", "isWord", "(Ljava/lang/String;)Z"⟩, 20), (⟨"LeakCupsModel", "must", "(Z)V"⟩, 20), (⟨"LeakCupsModel", "isProgram", "(I)Z"⟩, 20), (⟨"LeakCupsModel", "plays", "(II)V"⟩, 20)]
theorem lw_r2 : ∀ q ∈ lw_privs_2, lw_okq q := List.forall_mem_cons.mpr ⟨lw_p16, List.forall_mem_cons.mpr ⟨lw_p17, List.forall_mem_cons.mpr ⟨lw_p18, List.forall_mem_cons.mpr ⟨lw_p19, List.forall_mem_cons.mpr ⟨lw_p20, List.forall_mem_cons.mpr ⟨lw_p21, List.forall_mem_cons.mpr ⟨lw_p22, List.forall_mem_cons.mpr ⟨lw_p23, List.forall_mem_cons.mpr ⟨lw_p24, List.forall_mem_cons.mpr ⟨lw_p25, List.forall_mem_cons.mpr ⟨lw_p26, List.forall_mem_cons.mpr ⟨lw_p27, List.forall_mem_cons.mpr ⟨lw_p28, List.forall_mem_cons.mpr ⟨lw_p29, List.forall_mem_cons.mpr ⟨lw_p30, List.forall_mem_cons.mpr ⟨lw_p31, fun _ h => absurd h List.not_mem_nil⟩⟩⟩⟩⟩⟩⟩⟩⟩⟩⟩⟩⟩⟩⟩⟩
theorem lw_p32 : lw_okq (⟨"LeakCupsModel", "twoBegin", "(I)V"⟩, 20) := ⟨⟨by decide +kernel, by decide +kernel⟩, List.mem_of_getElem? (i := 789) (by decide +kernel), List.mem_of_getElem? (i := 1071) (by decide +kernel), List.mem_of_getElem? (i := 1072) (by decide +kernel)⟩
theorem lw_p33 : lw_okq (⟨"LeakCupsModel", "goingOf", "(I)I"⟩, 20) := ⟨⟨by decide +kernel, by decide +kernel⟩, List.mem_of_getElem? (i := 789) (by decide +kernel), List.mem_of_getElem? (i := 1088) (by decide +kernel), List.mem_of_getElem? (i := 1089) (by decide +kernel)⟩
theorem lw_p34 : lw_okq (⟨"LeakCupsModel", "drawn", "()I"⟩, 20) := ⟨⟨by decide +kernel, by decide +kernel⟩, List.mem_of_getElem? (i := 789) (by decide +kernel), List.mem_of_getElem? (i := 1113) (by decide +kernel), List.mem_of_getElem? (i := 1114) (by decide +kernel)⟩
theorem lw_p35 : lw_okq (⟨"LeakCupsModel", "begins", "(II)V"⟩, 20) := ⟨⟨by decide +kernel, by decide +kernel⟩, List.mem_of_getElem? (i := 789) (by decide +kernel), List.mem_of_getElem? (i := 1126) (by decide +kernel), List.mem_of_getElem? (i := 1127) (by decide +kernel)⟩
theorem lw_p36 : lw_okq (⟨"LeakCupsModel", "briefly", "()V"⟩, 20) := ⟨⟨by decide +kernel, by decide +kernel⟩, List.mem_of_getElem? (i := 789) (by decide +kernel), List.mem_of_getElem? (i := 1130) (by decide +kernel), List.mem_of_getElem? (i := 1131) (by decide +kernel)⟩
def lw_privs_3 : List (MethodName × Nat) := [(⟨"LeakCupsModel", "twoBegin", "(I)V"⟩, 20), (⟨"LeakCupsModel", "goingOf", "(I)I"⟩, 20), (⟨"LeakCupsModel", "drawn", "()I"⟩, 20), (⟨"LeakCupsModel", "begins", "(II)V"⟩, 20), (⟨"LeakCupsModel", "briefly", "()V"⟩, 20)]
theorem lw_r3 : ∀ q ∈ lw_privs_3, lw_okq q := List.forall_mem_cons.mpr ⟨lw_p32, List.forall_mem_cons.mpr ⟨lw_p33, List.forall_mem_cons.mpr ⟨lw_p34, List.forall_mem_cons.mpr ⟨lw_p35, List.forall_mem_cons.mpr ⟨lw_p36, fun _ h => absurd h List.not_mem_nil⟩⟩⟩⟩⟩
def lw_privs : List (MethodName × Nat) := lw_privs_1 ++ (lw_privs_2 ++ (lw_privs_3))
def lw_tbl : List Cond := k2_sels lw_privs ++ tables_1
theorem lw_privs_ok : ∀ q ∈ lw_privs, lw_okq q := by
  show ∀ q ∈ lw_privs_1 ++ (lw_privs_2 ++ (lw_privs_3)), lw_okq q
  exact List.forall_mem_append.mpr ⟨lw_r1, List.forall_mem_append.mpr ⟨lw_r2, lw_r3⟩⟩
def xT : List Cond := lw_tbl.filter goodWord
theorem xT_in {w : Cond} (h : w ∈ lw_tbl) (g : goodWord w = true) : w ∈ xT := List.mem_filter.mpr ⟨h, g⟩
theorem xm {w : Cond} (i : Nat) (h : lw_tbl[i]? = some w) (g : goodWord w = true) : w ∈ xT := xT_in (List.mem_of_getElem? h) g
theorem xT_sub {w : Cond} (h : w ∈ xT) : w ∈ lw_tbl := (List.mem_filter.mp h).1
theorem xT_good {w : Cond} (h : w ∈ xT) : (w.onTables && w.keeps) = true ∨ ∃ ty, w = .arrayClass ty := good_of_word (List.mem_filter.mp h).2
end
section
/-! names of classes, fields, methods -/
def RX0 : String := "LeakCups$Program"
def TX0 : u_T := fun k => match k with
  | 0 => ("LeakCups$Program", "deeds", "[I", true)
  | 1 => ("LeakCups$Program", "numbers", "[I", true)
  | _ => ("LeakCups$Program", "size", "I", false)
def tyX0 : Nat → FieldType := fun k => match k with
  | 0 => .array .int
  | 1 => .array .int
  | _ => .int
abbrev wsX00 : List Cond := u_ws RX0 TX0 3
theorem nmX0 : ∀ a, a < 3 → ∀ b, b < 3 → a ≠ b → (TX0 a).2.1 ≠ (TX0 b).2.1 := by decide +kernel
theorem tyX0_ok : ∀ k, k < 3 → parseFieldDescriptor (TX0 k).2.2.1 = some (tyX0 k) := by decide +kernel
abbrev cX0_init : ByteArray := prog_2_method_1_code
def yX0_init : MethodName := ⟨RX0, "<init>", "()V"⟩
abbrev cX0_become : ByteArray := prog_2_method_2_code
def yX0_become : MethodName := ⟨RX0, "become", "(LLeakCups$Program;)V"⟩
abbrev cX0_add : ByteArray := prog_2_method_3_code
def yX0_add : MethodName := ⟨RX0, "add", "(II)V"⟩
abbrev cX0_ticksOfAll : ByteArray := prog_2_method_4_code
def yX0_ticksOfAll : MethodName := ⟨RX0, "ticksOfAll", "()I"⟩
abbrev cX0_doDeed : ByteArray := prog_2_method_5_code
def yX0_doDeed : MethodName := ⟨RX0, "doDeed", "(ILLeakCups$Wheel;)V"⟩
abbrev cX0_takes : ByteArray := prog_2_method_6_code
def yX0_takes : MethodName := ⟨RX0, "takes", "(II)Z"⟩
abbrev cX0_wordOf : ByteArray := prog_2_method_7_code
def yX0_wordOf : MethodName := ⟨RX0, "wordOf", "(I)Ljava/lang/String;"⟩
def RX1 : String := "LeakCups$Sheet"
def TX1 : u_T := fun k => match k with
  | 0 => ("LeakCups$Sheet", "row", "[I", true)
  | 1 => ("LeakCups$Sheet", "bits", "I", false)
  | _ => ("LeakCups$Sheet", "size", "I", false)
def tyX1 : Nat → FieldType := fun k => match k with
  | 0 => .array .int
  | 1 => .int
  | _ => .int
abbrev wsX10 : List Cond := u_ws RX1 TX1 3
theorem nmX1 : ∀ a, a < 3 → ∀ b, b < 3 → a ≠ b → (TX1 a).2.1 ≠ (TX1 b).2.1 := by decide +kernel
theorem tyX1_ok : ∀ k, k < 3 → parseFieldDescriptor (TX1 k).2.2.1 = some (tyX1 k) := by decide +kernel
abbrev cX1_init : ByteArray := prog_3_method_1_code
def yX1_init : MethodName := ⟨RX1, "<init>", "()V"⟩
abbrev cX1_begin : ByteArray := prog_3_method_2_code
def yX1_begin : MethodName := ⟨RX1, "begin", "(II)V"⟩
abbrev cX1_isMissing : ByteArray := prog_3_method_3_code
def yX1_isMissing : MethodName := ⟨RX1, "isMissing", "()Z"⟩
abbrev cX1_has : ByteArray := prog_3_method_4_code
def yX1_has : MethodName := ⟨RX1, "has", "(II)Z"⟩
abbrev cX1_put : ByteArray := prog_3_method_5_code
def yX1_put : MethodName := ⟨RX1, "put", "(II)V"⟩
abbrev cX1_cut : ByteArray := prog_3_method_6_code
def yX1_cut : MethodName := ⟨RX1, "cut", "(I)I"⟩
def RX2 : String := "LeakCups$ShortRule"
def TX2 : u_T := fun k => match k with
  | 0 => ("LeakCups$ShortRule", "x", "J", false)
  | 1 => ("LeakCups$ShortRule", "y", "J", false)
  | _ => ("LeakCups$ShortRule", "z", "J", false)
def tyX2 : Nat → FieldType := fun k => match k with
  | 0 => .long
  | 1 => .long
  | _ => .long
abbrev wsX20 : List Cond := u_ws RX2 TX2 3
theorem nmX2 : ∀ a, a < 3 → ∀ b, b < 3 → a ≠ b → (TX2 a).2.1 ≠ (TX2 b).2.1 := by decide +kernel
theorem tyX2_ok : ∀ k, k < 3 → parseFieldDescriptor (TX2 k).2.2.1 = some (tyX2 k) := by decide +kernel
abbrev cX2_init : ByteArray := prog_4_method_1_code
def yX2_init : MethodName := ⟨RX2, "<init>", "()V"⟩
abbrev cX2_begin : ByteArray := prog_4_method_2_code
def yX2_begin : MethodName := ⟨RX2, "begin", "(II)V"⟩
abbrev cX2_apply : ByteArray := prog_4_method_3_code
def yX2_apply : MethodName := ⟨RX2, "apply", "()V"⟩
abbrev cX2_held : ByteArray := prog_4_method_4_code
def yX2_held : MethodName := ⟨RX2, "held", "(J)J"⟩
def RX3 : String := "LeakCups$State"
def TX3 : u_T := fun k => match k with
  | 0 => ("LeakCups$State", "wheel", "LLeakCups$Wheel;", true)
  | 1 => ("LeakCups$State", "programs", "[LLeakCups$Program;", true)
  | 2 => ("LeakCups$State", "programCount", "I", false)
  | 3 => ("LeakCups$State", "spots", "[I", true)
  | _ => ("LeakCups$State", "z", "I", false)
def tyX3 : Nat → FieldType := fun k => match k with
  | 0 => .object "LeakCups$Wheel"
  | 1 => .array (.object "LeakCups$Program")
  | 2 => .int
  | 3 => .array .int
  | _ => .int
abbrev wsX30 : List Cond := u_ws RX3 TX3 5
theorem nmX3 : ∀ a, a < 5 → ∀ b, b < 5 → a ≠ b → (TX3 a).2.1 ≠ (TX3 b).2.1 := by decide +kernel
theorem tyX3_ok : ∀ k, k < 5 → parseFieldDescriptor (TX3 k).2.2.1 = some (tyX3 k) := by decide +kernel
abbrev cX3_init : ByteArray := prog_5_method_1_code
def yX3_init : MethodName := ⟨RX3, "<init>", "()V"⟩
abbrev cX3_become : ByteArray := prog_5_method_2_code
def yX3_become : MethodName := ⟨RX3, "become", "(LLeakCups$State;)V"⟩
abbrev cX3_draw : ByteArray := prog_5_method_3_code
def yX3_draw : MethodName := ⟨RX3, "draw", "()I"⟩
def RX4 : String := "LeakCups$Tape"
def TX4 : u_T := fun k => match k with
  | 0 => ("LeakCups$Tape", "bytes", "[I", true)
  | _ => ("LeakCups$Tape", "size", "I", false)
def tyX4 : Nat → FieldType := fun k => match k with
  | 0 => .array .int
  | _ => .int
abbrev wsX40 : List Cond := u_ws RX4 TX4 2
theorem nmX4 : ∀ a, a < 2 → ∀ b, b < 2 → a ≠ b → (TX4 a).2.1 ≠ (TX4 b).2.1 := by decide +kernel
theorem tyX4_ok : ∀ k, k < 2 → parseFieldDescriptor (TX4 k).2.2.1 = some (tyX4 k) := by decide +kernel
abbrev cX4_init : ByteArray := prog_6_method_1_code
def yX4_init : MethodName := ⟨RX4, "<init>", "()V"⟩
abbrev cX4_append : ByteArray := prog_6_method_2_code
def yX4_append : MethodName := ⟨RX4, "append", "(I)V"⟩
abbrev cX4_byteAt : ByteArray := prog_6_method_3_code
def yX4_byteAt : MethodName := ⟨RX4, "byteAt", "(I)I"⟩
abbrev cX4_isLetter : ByteArray := prog_6_method_4_code
def yX4_isLetter : MethodName := ⟨RX4, "isLetter", "(I)Z"⟩
abbrev cX4_isDigit : ByteArray := prog_6_method_5_code
def yX4_isDigit : MethodName := ⟨RX4, "isDigit", "(I)Z"⟩
abbrev cX4_isWordAt : ByteArray := prog_6_method_6_code
def yX4_isWordAt : MethodName := ⟨RX4, "isWordAt", "(IILjava/lang/String;)Z"⟩
def RX5 : String := "LeakCups$TextReader"
def TX5 : u_T := fun k => match k with
  | 0 => ("LeakCups$TextReader", "tape", "LLeakCups$Tape;", true)
  | 1 => ("LeakCups$TextReader", "token", "I", false)
  | 2 => ("LeakCups$TextReader", "begin", "I", false)
  | 3 => ("LeakCups$TextReader", "end", "I", false)
  | _ => ("LeakCups$TextReader", "value", "I", false)
def tyX5 : Nat → FieldType := fun k => match k with
  | 0 => .object "LeakCups$Tape"
  | 1 => .int
  | 2 => .int
  | 3 => .int
  | _ => .int
abbrev wsX50 : List Cond := u_ws RX5 TX5 5
theorem nmX5 : ∀ a, a < 5 → ∀ b, b < 5 → a ≠ b → (TX5 a).2.1 ≠ (TX5 b).2.1 := by decide +kernel
theorem tyX5_ok : ∀ k, k < 5 → parseFieldDescriptor (TX5 k).2.2.1 = some (tyX5 k) := by decide +kernel
abbrev cX5_init : ByteArray := prog_7_method_1_code
def yX5_init : MethodName := ⟨RX5, "<init>", "(LLeakCups$Tape;)V"⟩
abbrev cX5_read : ByteArray := prog_7_method_2_code
def yX5_read : MethodName := ⟨RX5, "read", "(LLeakCups$Program;)I"⟩
abbrev cX5_readDeed : ByteArray := prog_7_method_3_code
def yX5_readDeed : MethodName := ⟨RX5, "readDeed", "(LLeakCups$Program;)Z"⟩
abbrev cX5_isSign : ByteArray := prog_7_method_4_code
def yX5_isSign : MethodName := ⟨RX5, "isSign", "(C)Z"⟩
abbrev cX5_next : ByteArray := prog_7_method_5_code
def yX5_next : MethodName := ⟨RX5, "next", "()V"⟩
abbrev cX5_readWord : ByteArray := prog_7_method_6_code
def yX5_readWord : MethodName := ⟨RX5, "readWord", "()V"⟩
abbrev cX5_readNumber : ByteArray := prog_7_method_7_code
def yX5_readNumber : MethodName := ⟨RX5, "readNumber", "()V"⟩
abbrev cX5_readSign : ByteArray := prog_7_method_8_code
def yX5_readSign : MethodName := ⟨RX5, "readSign", "()V"⟩
def RX6 : String := "LeakCups$Wheel"
def TX6 : u_T := fun k => match k with
  | 0 => ("LeakCups$Wheel", "settings", "[I", true)
  | 1 => ("LeakCups$Wheel", "kinds", "[I", true)
  | 2 => ("LeakCups$Wheel", "water", "[I", true)
  | 3 => ("LeakCups$Wheel", "turnTicks", "[I", true)
  | 4 => ("LeakCups$Wheel", "turnPeaks", "[I", true)
  | 5 => ("LeakCups$Wheel", "pace", "I", false)
  | 6 => ("LeakCups$Wheel", "angle", "I", false)
  | 7 => ("LeakCups$Wheel", "way", "I", false)
  | 8 => ("LeakCups$Wheel", "spilt", "I", false)
  | 9 => ("LeakCups$Wheel", "lost", "I", false)
  | 10 => ("LeakCups$Wheel", "ticks", "I", false)
  | 11 => ("LeakCups$Wheel", "turns", "I", false)
  | _ => ("LeakCups$Wheel", "peakSinceTurn", "I", false)
def tyX6 : Nat → FieldType := fun k => match k with
  | 0 => .array .int
  | 1 => .array .int
  | 2 => .array .int
  | 3 => .array .int
  | 4 => .array .int
  | 5 => .int
  | 6 => .int
  | 7 => .int
  | 8 => .int
  | 9 => .int
  | 10 => .int
  | 11 => .int
  | _ => .int
abbrev wsX60 : List Cond := u_ws RX6 TX6 13
theorem nmX6 : ∀ a, a < 13 → ∀ b, b < 13 → a ≠ b → (TX6 a).2.1 ≠ (TX6 b).2.1 := by decide +kernel
theorem tyX6_ok : ∀ k, k < 13 → parseFieldDescriptor (TX6 k).2.2.1 = some (tyX6 k) := by decide +kernel
abbrev cX6_init : ByteArray := prog_8_method_1_code
def yX6_init : MethodName := ⟨RX6, "<init>", "()V"⟩
abbrev cX6_become : ByteArray := prog_8_method_2_code
def yX6_become : MethodName := ⟨RX6, "become", "(LLeakCups$Wheel;)V"⟩
abbrev cX6_logged : ByteArray := prog_8_method_3_code
def yX6_logged : MethodName := ⟨RX6, "logged", "()I"⟩
abbrev cX6_placeOf : ByteArray := prog_8_method_4_code
def yX6_placeOf : MethodName := ⟨RX6, "placeOf", "(I)I"⟩
abbrev cX6_topCup : ByteArray := prog_8_method_5_code
def yX6_topCup : MethodName := ⟨RX6, "topCup", "()I"⟩
abbrev cX6_roomOf : ByteArray := prog_8_method_6_code
def yX6_roomOf : MethodName := ⟨RX6, "roomOf", "(I)I"⟩
abbrev cX6_isOf : ByteArray := prog_8_method_7_code
def yX6_isOf : MethodName := ⟨RX6, "isOf", "(II)Z"⟩
abbrev cX6_leakOf : ByteArray := prog_8_method_8_code
def yX6_leakOf : MethodName := ⟨RX6, "leakOf", "(I)I"⟩
abbrev cX6_waterOfAll : ByteArray := prog_8_method_9_code
def yX6_waterOfAll : MethodName := ⟨RX6, "waterOfAll", "()I"⟩
abbrev cX6_pull : ByteArray := prog_8_method_10_code
def yX6_pull : MethodName := ⟨RX6, "pull", "()I"⟩
abbrev cX6_nudge : ByteArray := prog_8_method_11_code
def yX6_nudge : MethodName := ⟨RX6, "nudge", "(I)V"⟩
abbrev cX6_steps : ByteArray := prog_8_method_12_code
def yX6_steps : MethodName := ⟨RX6, "steps", "(I)V"⟩
abbrev cX6_step : ByteArray := prog_8_method_13_code
def yX6_step : MethodName := ⟨RX6, "step", "()V"⟩
abbrev cX6_goes : ByteArray := prog_8_method_14_code
def yX6_goes : MethodName := ⟨RX6, "goes", "(I)I"⟩
abbrev cX6_pour : ByteArray := prog_8_method_15_code
def yX6_pour : MethodName := ⟨RX6, "pour", "()V"⟩
abbrev cX6_drain : ByteArray := prog_8_method_16_code
def yX6_drain : MethodName := ⟨RX6, "drain", "(I)V"⟩
abbrev cX6_passOn : ByteArray := prog_8_method_17_code
def yX6_passOn : MethodName := ⟨RX6, "passOn", "(I)V"⟩
abbrev cX6_swing : ByteArray := prog_8_method_18_code
def yX6_swing : MethodName := ⟨RX6, "swing", "()V"⟩
abbrev cX6_watchWay : ByteArray := prog_8_method_19_code
def yX6_watchWay : MethodName := ⟨RX6, "watchWay", "()V"⟩
abbrev cX6_logTurn : ByteArray := prog_8_method_20_code
def yX6_logTurn : MethodName := ⟨RX6, "logTurn", "()V"⟩
abbrev cX6_held : ByteArray := prog_8_method_21_code
def yX6_held : MethodName := ⟨RX6, "held", "(I)I"⟩
def RX7 : String := "LeakCups"
def TX7 : u_T := fun k => match k with
  | 0 => ("LeakCups", "state", "LLeakCups$State;", true)
  | 1 => ("LeakCups", "kept", "LLeakCups$State;", true)
  | 2 => ("LeakCups", "isKept", "Z", false)
  | 3 => ("LeakCups", "tape", "LLeakCups$Tape;", true)
  | 4 => ("LeakCups", "reader", "LLeakCups$TextReader;", true)
  | 5 => ("LeakCups", "sheets", "[LLeakCups$Sheet;", true)
  | 6 => ("LeakCups", "run", "LLeakCups$Wheel;", true)
  | 7 => ("LeakCups", "otherRun", "LLeakCups$Wheel;", true)
  | 8 => ("LeakCups", "rule", "LLeakCups$ShortRule;", true)
  | _ => ("LeakCups", "findings", "[I", true)
def tyX7 : Nat → FieldType := fun k => match k with
  | 0 => .object "LeakCups$State"
  | 1 => .object "LeakCups$State"
  | 2 => .boolean
  | 3 => .object "LeakCups$Tape"
  | 4 => .object "LeakCups$TextReader"
  | 5 => .array (.object "LeakCups$Sheet")
  | 6 => .object "LeakCups$Wheel"
  | 7 => .object "LeakCups$Wheel"
  | 8 => .object "LeakCups$ShortRule"
  | _ => .array .int
abbrev wsX70 : List Cond := u_ws RX7 TX7 10
theorem nmX7 : ∀ a, a < 10 → ∀ b, b < 10 → a ≠ b → (TX7 a).2.1 ≠ (TX7 b).2.1 := by decide +kernel
theorem tyX7_ok : ∀ k, k < 10 → parseFieldDescriptor (TX7 k).2.2.1 = some (tyX7 k) := by decide +kernel
abbrev cX7_init : ByteArray := prog_1_method_1_code
def yX7_init : MethodName := ⟨RX7, "<init>", "()V"⟩
abbrev cX7_set : ByteArray := prog_1_method_2_code
def yX7_set : MethodName := ⟨RX7, "set", "(II)I"⟩
abbrev cX7_kind : ByteArray := prog_1_method_3_code
def yX7_kind : MethodName := ⟨RX7, "kind", "(II)I"⟩
abbrev cX7_cupOf : ByteArray := prog_1_method_4_code
def yX7_cupOf : MethodName := ⟨RX7, "cupOf", "(II)I"⟩
abbrev cX7_fill : ByteArray := prog_1_method_5_code
def yX7_fill : MethodName := ⟨RX7, "fill", "(II)I"⟩
abbrev cX7_empty : ByteArray := prog_1_method_6_code
def yX7_empty : MethodName := ⟨RX7, "empty", "(I)I"⟩
abbrev cX7_touch : ByteArray := prog_1_method_7_code
def yX7_touch : MethodName := ⟨RX7, "touch", "(I)I"⟩
abbrev cX7_stop : ByteArray := prog_1_method_8_code
def yX7_stop : MethodName := ⟨RX7, "stop", "(I)I"⟩
abbrev cX7_tick : ByteArray := prog_1_method_9_code
def yX7_tick : MethodName := ⟨RX7, "tick", "(I)I"⟩
abbrev cX7_now : ByteArray := prog_1_method_10_code
def yX7_now : MethodName := ⟨RX7, "now", "(I)I"⟩
abbrev cX7_torque : ByteArray := prog_1_method_11_code
def yX7_torque : MethodName := ⟨RX7, "torque", "()I"⟩
abbrev cX7_turn : ByteArray := prog_1_method_12_code
def yX7_turn : MethodName := ⟨RX7, "turn", "(II)I"⟩
abbrev cX7_nextPeak : ByteArray := prog_1_method_13_code
def yX7_nextPeak : MethodName := ⟨RX7, "nextPeak", "(I)I"⟩
abbrev cX7_rising : ByteArray := prog_1_method_14_code
def yX7_rising : MethodName := ⟨RX7, "rising", "()I"⟩
abbrev cX7_quickest : ByteArray := prog_1_method_15_code
def yX7_quickest : MethodName := ⟨RX7, "quickest", "()I"⟩
abbrev cX7_feed : ByteArray := prog_1_method_16_code
def yX7_feed : MethodName := ⟨RX7, "feed", "(II)I"⟩
abbrev cX7_wipe : ByteArray := prog_1_method_17_code
def yX7_wipe : MethodName := ⟨RX7, "wipe", "()I"⟩
abbrev cX7_program : ByteArray := prog_1_method_18_code
def yX7_program : MethodName := ⟨RX7, "program", "()I"⟩
abbrev cX7_programOf : ByteArray := prog_1_method_19_code
def yX7_programOf : MethodName := ⟨RX7, "programOf", "(II)I"⟩
abbrev cX7_play : ByteArray := prog_1_method_20_code
def yX7_play : MethodName := ⟨RX7, "play", "(I)I"⟩
abbrev cX7_ahead : ByteArray := prog_1_method_21_code
def yX7_ahead : MethodName := ⟨RX7, "ahead", "(II)I"⟩
abbrev cX7_apart : ByteArray := prog_1_method_22_code
def yX7_apart : MethodName := ⟨RX7, "apart", "(II)I"⟩
abbrev cX7_parts : ByteArray := prog_1_method_23_code
def yX7_parts : MethodName := ⟨RX7, "parts", "(II)I"⟩
abbrev cX7_going : ByteArray := prog_1_method_24_code
def yX7_going : MethodName := ⟨RX7, "going", "(I)I"⟩
abbrev cX7_tapFor : ByteArray := prog_1_method_25_code
def yX7_tapFor : MethodName := ⟨RX7, "tapFor", "(II)I"⟩
abbrev cX7_bounds : ByteArray := prog_1_method_26_code
def yX7_bounds : MethodName := ⟨RX7, "bounds", "(II)I"⟩
abbrev cX7_often : ByteArray := prog_1_method_27_code
def yX7_often : MethodName := ⟨RX7, "often", "(I)I"⟩
abbrev cX7_holds : ByteArray := prog_1_method_28_code
def yX7_holds : MethodName := ⟨RX7, "holds", "(I)I"⟩
abbrev cX7_chance : ByteArray := prog_1_method_29_code
def yX7_chance : MethodName := ⟨RX7, "chance", "(II)I"⟩
abbrev cX7_brief : ByteArray := prog_1_method_30_code
def yX7_brief : MethodName := ⟨RX7, "brief", "(IIII)I"⟩
abbrev cX7_flips : ByteArray := prog_1_method_31_code
def yX7_flips : MethodName := ⟨RX7, "flips", "(III)I"⟩
abbrev cX7_seed : ByteArray := prog_1_method_32_code
def yX7_seed : MethodName := ⟨RX7, "seed", "(I)I"⟩
abbrev cX7_hold : ByteArray := prog_1_method_33_code
def yX7_hold : MethodName := ⟨RX7, "hold", "(II)I"⟩
abbrev cX7_as : ByteArray := prog_1_method_34_code
def yX7_as : MethodName := ⟨RX7, "as", "(II)I"⟩
abbrev cX7_sheet : ByteArray := prog_1_method_35_code
def yX7_sheet : MethodName := ⟨RX7, "sheet", "(III)I"⟩
abbrev cX7_write : ByteArray := prog_1_method_36_code
def yX7_write : MethodName := ⟨RX7, "write", "(III)I"⟩
abbrev cX7_copy : ByteArray := prog_1_method_37_code
def yX7_copy : MethodName := ⟨RX7, "copy", "(IIIII)I"⟩
abbrev cX7_load : ByteArray := prog_1_method_38_code
def yX7_load : MethodName := ⟨RX7, "load", "(I)I"⟩
abbrev cX7_judge : ByteArray := prog_1_method_39_code
def yX7_judge : MethodName := ⟨RX7, "judge", "(I)I"⟩
abbrev cX7_image : ByteArray := prog_1_method_40_code
def yX7_image : MethodName := ⟨RX7, "image", "()I"⟩
abbrev cX7_undo : ByteArray := prog_1_method_41_code
def yX7_undo : MethodName := ⟨RX7, "undo", "()I"⟩
abbrev cX7_tear : ByteArray := prog_1_method_42_code
def yX7_tear : MethodName := ⟨RX7, "tear", "()I"⟩
abbrev cX7_count : ByteArray := prog_1_method_43_code
def yX7_count : MethodName := ⟨RX7, "count", "(I)I"⟩
abbrev cX7_status : ByteArray := prog_1_method_44_code
def yX7_status : MethodName := ⟨RX7, "status", "(I)I"⟩
abbrev cX7_finding : ByteArray := prog_1_method_45_code
def yX7_finding : MethodName := ⟨RX7, "finding", "(I)I"⟩
abbrev cX7_findingsOfAll : ByteArray := prog_1_method_46_code
def yX7_findingsOfAll : MethodName := ⟨RX7, "findingsOfAll", "()I"⟩
abbrev cX7_beginTwoRuns : ByteArray := prog_1_method_47_code
def yX7_beginTwoRuns : MethodName := ⟨RX7, "beginTwoRuns", "(I)V"⟩
abbrev cX7_differenceOfRuns : ByteArray := prog_1_method_48_code
def yX7_differenceOfRuns : MethodName := ⟨RX7, "differenceOfRuns", "()I"⟩
abbrev cX7_isHeldBy : ByteArray := prog_1_method_49_code
def yX7_isHeldBy : MethodName := ⟨RX7, "isHeldBy", "(II)Z"⟩
abbrev cX7_isProgram : ByteArray := prog_1_method_50_code
def yX7_isProgram : MethodName := ⟨RX7, "isProgram", "(I)Z"⟩
abbrev cX7_isCup : ByteArray := prog_1_method_51_code
def yX7_isCup : MethodName := ⟨RX7, "isCup", "(I)Z"⟩
abbrev cX7_isKind : ByteArray := prog_1_method_52_code
def yX7_isKind : MethodName := ⟨RX7, "isKind", "(I)Z"⟩
abbrev cX7_isSpot : ByteArray := prog_1_method_53_code
def yX7_isSpot : MethodName := ⟨RX7, "isSpot", "(I)Z"⟩
abbrev cX7_isSheet : ByteArray := prog_1_method_54_code
def yX7_isSheet : MethodName := ⟨RX7, "isSheet", "(I)Z"⟩
abbrev cX7_isTouch : ByteArray := prog_1_method_55_code
def yX7_isTouch : MethodName := ⟨RX7, "isTouch", "(I)Z"⟩
abbrev cX7_isAhead : ByteArray := prog_1_method_56_code
def yX7_isAhead : MethodName := ⟨RX7, "isAhead", "(I)Z"⟩
abbrev cX7_isLongRun : ByteArray := prog_1_method_57_code
def yX7_isLongRun : MethodName := ⟨RX7, "isLongRun", "(I)Z"⟩
abbrev cX7_isRuleBegin : ByteArray := prog_1_method_58_code
def yX7_isRuleBegin : MethodName := ⟨RX7, "isRuleBegin", "(III)Z"⟩
abbrev cX7_within : ByteArray := prog_1_method_59_code
def yX7_within : MethodName := ⟨RX7, "within", "(III)Z"⟩
def RX8 : String := "LeakCupsModel"
def TX8 : u_T := fun k => match k with
  | 0 => ("LeakCupsModel", "d", "[I", true)
  | 1 => ("LeakCupsModel", "e", "[I", true)
  | 2 => ("LeakCupsModel", "f", "[I", true)
  | 3 => ("LeakCupsModel", "kept", "[I", true)
  | 4 => ("LeakCupsModel", "hasKept", "Z", false)
  | 5 => ("LeakCupsModel", "found", "[I", true)
  | 6 => ("LeakCupsModel", "lever", "[I", true)
  | 7 => ("LeakCupsModel", "tape", "[I", true)
  | 8 => ("LeakCupsModel", "taped", "I", false)
  | 9 => ("LeakCupsModel", "at", "I", false)
  | 10 => ("LeakCupsModel", "from", "I", false)
  | 11 => ("LeakCupsModel", "token", "I", false)
  | 12 => ("LeakCupsModel", "word", "J", false)
  | 13 => ("LeakCupsModel", "value", "I", false)
  | 14 => ("LeakCupsModel", "isWrong", "Z", false)
  | 15 => ("LeakCupsModel", "rule", "[I", true)
  | 16 => ("LeakCupsModel", "bitsOf", "[I", true)
  | 17 => ("LeakCupsModel", "sizeOf", "[I", true)
  | 18 => ("LeakCupsModel", "number", "[I", true)
  | _ => ("LeakCupsModel", "lifted", "[I", true)
def tyX8 : Nat → FieldType := fun k => match k with
  | 0 => .array .int
  | 1 => .array .int
  | 2 => .array .int
  | 3 => .array .int
  | 4 => .boolean
  | 5 => .array .int
  | 6 => .array .int
  | 7 => .array .int
  | 8 => .int
  | 9 => .int
  | 10 => .int
  | 11 => .int
  | 12 => .long
  | 13 => .int
  | 14 => .boolean
  | 15 => .array .int
  | 16 => .array .int
  | 17 => .array .int
  | 18 => .array .int
  | _ => .array .int
abbrev wsX80 : List Cond := u_ws RX8 TX8 20
theorem nmX8 : ∀ a, a < 20 → ∀ b, b < 20 → a ≠ b → (TX8 a).2.1 ≠ (TX8 b).2.1 := by decide +kernel
theorem tyX8_ok : ∀ k, k < 20 → parseFieldDescriptor (TX8 k).2.2.1 = some (tyX8 k) := by decide +kernel
abbrev cX8_init : ByteArray := prog_10_method_1_code
def yX8_init : MethodName := ⟨RX8, "<init>", "()V"⟩
abbrev cX8_finds : ByteArray := prog_10_method_3_code
def yX8_finds : MethodName := ⟨RX8, "finds", "(I)I"⟩
abbrev cX8_in : ByteArray := prog_10_method_4_code
def yX8_in : MethodName := ⟨RX8, "in", "(JJJ)Z"⟩
abbrev cX8_held : ByteArray := prog_10_method_5_code
def yX8_held : MethodName := ⟨RX8, "held", "(JII)I"⟩
abbrev cX8_copies : ByteArray := prog_10_method_6_code
def yX8_copies : MethodName := ⟨RX8, "copies", "([I[I)V"⟩
abbrev cX8_isCup : ByteArray := prog_10_method_7_code
def yX8_isCup : MethodName := ⟨RX8, "isCup", "(I)Z"⟩
abbrev cX8_mayBe : ByteArray := prog_10_method_8_code
def yX8_mayBe : MethodName := ⟨RX8, "mayBe", "(II)Z"⟩
abbrev cX8_set : ByteArray := prog_10_method_9_code
def yX8_set : MethodName := ⟨RX8, "set", "(II)I"⟩
abbrev cX8_kind : ByteArray := prog_10_method_10_code
def yX8_kind : MethodName := ⟨RX8, "kind", "(II)I"⟩
abbrev cX8_placeOf : ByteArray := prog_10_method_11_code
def yX8_placeOf : MethodName := ⟨RX8, "placeOf", "([II)I"⟩
abbrev cX8_roomOf : ByteArray := prog_10_method_12_code
def yX8_roomOf : MethodName := ⟨RX8, "roomOf", "([II)I"⟩
abbrev cX8_leaksFrom : ByteArray := prog_10_method_13_code
def yX8_leaksFrom : MethodName := ⟨RX8, "leaksFrom", "([II)I"⟩
abbrev cX8_cupOf : ByteArray := prog_10_method_14_code
def yX8_cupOf : MethodName := ⟨RX8, "cupOf", "(II)I"⟩
abbrev cX8_fill : ByteArray := prog_10_method_15_code
def yX8_fill : MethodName := ⟨RX8, "fill", "(II)I"⟩
abbrev cX8_empty : ByteArray := prog_10_method_16_code
def yX8_empty : MethodName := ⟨RX8, "empty", "(I)I"⟩
abbrev cX8_touches : ByteArray := prog_10_method_17_code
def yX8_touches : MethodName := ⟨RX8, "touches", "([II)V"⟩
abbrev cX8_touch : ByteArray := prog_10_method_18_code
def yX8_touch : MethodName := ⟨RX8, "touch", "(I)I"⟩
abbrev cX8_stop : ByteArray := prog_10_method_19_code
def yX8_stop : MethodName := ⟨RX8, "stop", "(I)I"⟩
abbrev cX8_torqueOf : ByteArray := prog_10_method_20_code
def yX8_torqueOf : MethodName := ⟨RX8, "torqueOf", "([I)I"⟩
abbrev cX8_notes : ByteArray := prog_10_method_21_code
def yX8_notes : MethodName := ⟨RX8, "notes", "([I)V"⟩
abbrev cX8_goesBy : ByteArray := prog_10_method_22_code
def yX8_goesBy : MethodName := ⟨RX8, "goesBy", "([I)V"⟩
abbrev cX8_goesOn : ByteArray := prog_10_method_23_code
def yX8_goesOn : MethodName := ⟨RX8, "goesOn", "([II)V"⟩
abbrev cX8_tick : ByteArray := prog_10_method_24_code
def yX8_tick : MethodName := ⟨RX8, "tick", "(I)I"⟩
abbrev cX8_allWater : ByteArray := prog_10_method_25_code
def yX8_allWater : MethodName := ⟨RX8, "allWater", "([I)I"⟩
abbrev cX8_now : ByteArray := prog_10_method_26_code
def yX8_now : MethodName := ⟨RX8, "now", "(I)I"⟩
abbrev cX8_torque : ByteArray := prog_10_method_27_code
def yX8_torque : MethodName := ⟨RX8, "torque", "()I"⟩
abbrev cX8_logged : ByteArray := prog_10_method_28_code
def yX8_logged : MethodName := ⟨RX8, "logged", "()I"⟩
abbrev cX8_peak : ByteArray := prog_10_method_29_code
def yX8_peak : MethodName := ⟨RX8, "peak", "(I)I"⟩
abbrev cX8_turn : ByteArray := prog_10_method_30_code
def yX8_turn : MethodName := ⟨RX8, "turn", "(II)I"⟩
abbrev cX8_nextPeak : ByteArray := prog_10_method_31_code
def yX8_nextPeak : MethodName := ⟨RX8, "nextPeak", "(I)I"⟩
abbrev cX8_rising : ByteArray := prog_10_method_32_code
def yX8_rising : MethodName := ⟨RX8, "rising", "()I"⟩
abbrev cX8_quickest : ByteArray := prog_10_method_33_code
def yX8_quickest : MethodName := ⟨RX8, "quickest", "()I"⟩
abbrev cX8_feed : ByteArray := prog_10_method_34_code
def yX8_feed : MethodName := ⟨RX8, "feed", "(II)I"⟩
abbrev cX8_wipe : ByteArray := prog_10_method_35_code
def yX8_wipe : MethodName := ⟨RX8, "wipe", "()I"⟩
abbrev cX8_isLetter : ByteArray := prog_10_method_36_code
def yX8_isLetter : MethodName := ⟨RX8, "isLetter", "(I)Z"⟩
abbrev cX8_isDigit : ByteArray := prog_10_method_37_code
def yX8_isDigit : MethodName := ⟨RX8, "isDigit", "(I)Z"⟩
abbrev cX8_look : ByteArray := prog_10_method_38_code
def yX8_look : MethodName := ⟨RX8, "look", "()V"⟩
abbrev cX8_isWord : ByteArray := prog_10_method_39_code
def yX8_isWord : MethodName := ⟨RX8, "isWord", "(Ljava/lang/String;)Z"⟩
abbrev cX8_deed : ByteArray := prog_10_method_40_code
def yX8_deed : MethodName := ⟨RX8, "deed", "()I"⟩
abbrev cX8_leastOf : ByteArray := prog_10_method_41_code
def yX8_leastOf : MethodName := ⟨RX8, "leastOf", "(I)I"⟩
abbrev cX8_mostOf : ByteArray := prog_10_method_42_code
def yX8_mostOf : MethodName := ⟨RX8, "mostOf", "(I)I"⟩
abbrev cX8_must : ByteArray := prog_10_method_43_code
def yX8_must : MethodName := ⟨RX8, "must", "(Z)V"⟩
abbrev cX8_reads : ByteArray := prog_10_method_44_code
def yX8_reads : MethodName := ⟨RX8, "reads", "(I)V"⟩
abbrev cX8_program : ByteArray := prog_10_method_45_code
def yX8_program : MethodName := ⟨RX8, "program", "()I"⟩
abbrev cX8_isProgram : ByteArray := prog_10_method_46_code
def yX8_isProgram : MethodName := ⟨RX8, "isProgram", "(I)Z"⟩
abbrev cX8_programOf : ByteArray := prog_10_method_47_code
def yX8_programOf : MethodName := ⟨RX8, "programOf", "(II)I"⟩
abbrev cX8_plays : ByteArray := prog_10_method_48_code
def yX8_plays : MethodName := ⟨RX8, "plays", "(II)V"⟩
abbrev cX8_play : ByteArray := prog_10_method_49_code
def yX8_play : MethodName := ⟨RX8, "play", "(I)I"⟩
abbrev cX8_ahead : ByteArray := prog_10_method_50_code
def yX8_ahead : MethodName := ⟨RX8, "ahead", "(II)I"⟩
abbrev cX8_differ : ByteArray := prog_10_method_51_code
def yX8_differ : MethodName := ⟨RX8, "differ", "([I[I)I"⟩
abbrev cX8_twoBegin : ByteArray := prog_10_method_52_code
def yX8_twoBegin : MethodName := ⟨RX8, "twoBegin", "(I)V"⟩
abbrev cX8_apart : ByteArray := prog_10_method_53_code
def yX8_apart : MethodName := ⟨RX8, "apart", "(II)I"⟩
abbrev cX8_parts : ByteArray := prog_10_method_54_code
def yX8_parts : MethodName := ⟨RX8, "parts", "(II)I"⟩
abbrev cX8_goingOf : ByteArray := prog_10_method_55_code
def yX8_goingOf : MethodName := ⟨RX8, "goingOf", "(I)I"⟩
abbrev cX8_going : ByteArray := prog_10_method_56_code
def yX8_going : MethodName := ⟨RX8, "going", "(I)I"⟩
abbrev cX8_tapFor : ByteArray := prog_10_method_57_code
def yX8_tapFor : MethodName := ⟨RX8, "tapFor", "(II)I"⟩
abbrev cX8_bounds : ByteArray := prog_10_method_58_code
def yX8_bounds : MethodName := ⟨RX8, "bounds", "(II)I"⟩
abbrev cX8_often : ByteArray := prog_10_method_59_code
def yX8_often : MethodName := ⟨RX8, "often", "(I)I"⟩
abbrev cX8_holds : ByteArray := prog_10_method_60_code
def yX8_holds : MethodName := ⟨RX8, "holds", "(I)I"⟩
abbrev cX8_drawn : ByteArray := prog_10_method_61_code
def yX8_drawn : MethodName := ⟨RX8, "drawn", "()I"⟩
abbrev cX8_chance : ByteArray := prog_10_method_62_code
def yX8_chance : MethodName := ⟨RX8, "chance", "(II)I"⟩
abbrev cX8_briefly : ByteArray := prog_10_method_63_code
def yX8_briefly : MethodName := ⟨RX8, "briefly", "()V"⟩
abbrev cX8_begins : ByteArray := prog_10_method_64_code
def yX8_begins : MethodName := ⟨RX8, "begins", "(II)V"⟩
abbrev cX8_isBrief : ByteArray := prog_10_method_65_code
def yX8_isBrief : MethodName := ⟨RX8, "isBrief", "(III)Z"⟩
abbrev cX8_brief : ByteArray := prog_10_method_66_code
def yX8_brief : MethodName := ⟨RX8, "brief", "(IIII)I"⟩
abbrev cX8_flips : ByteArray := prog_10_method_67_code
def yX8_flips : MethodName := ⟨RX8, "flips", "(III)I"⟩
abbrev cX8_seed : ByteArray := prog_10_method_68_code
def yX8_seed : MethodName := ⟨RX8, "seed", "(I)I"⟩
abbrev cX8_hold : ByteArray := prog_10_method_69_code
def yX8_hold : MethodName := ⟨RX8, "hold", "(II)I"⟩
abbrev cX8_isOf : ByteArray := prog_10_method_70_code
def yX8_isOf : MethodName := ⟨RX8, "isOf", "(II)Z"⟩
abbrev cX8_as : ByteArray := prog_10_method_71_code
def yX8_as : MethodName := ⟨RX8, "as", "(II)I"⟩
abbrev cX8_isSheet : ByteArray := prog_10_method_72_code
def yX8_isSheet : MethodName := ⟨RX8, "isSheet", "(I)Z"⟩
abbrev cX8_sheet : ByteArray := prog_10_method_73_code
def yX8_sheet : MethodName := ⟨RX8, "sheet", "(III)I"⟩
abbrev cX8_write : ByteArray := prog_10_method_74_code
def yX8_write : MethodName := ⟨RX8, "write", "(III)I"⟩
abbrev cX8_copy : ByteArray := prog_10_method_75_code
def yX8_copy : MethodName := ⟨RX8, "copy", "(IIIII)I"⟩
abbrev cX8_load : ByteArray := prog_10_method_76_code
def yX8_load : MethodName := ⟨RX8, "load", "(I)I"⟩
abbrev cX8_judge : ByteArray := prog_10_method_77_code
def yX8_judge : MethodName := ⟨RX8, "judge", "(I)I"⟩
abbrev cX8_image : ByteArray := prog_10_method_78_code
def yX8_image : MethodName := ⟨RX8, "image", "()I"⟩
abbrev cX8_undo : ByteArray := prog_10_method_79_code
def yX8_undo : MethodName := ⟨RX8, "undo", "()I"⟩
abbrev cX8_tear : ByteArray := prog_10_method_80_code
def yX8_tear : MethodName := ⟨RX8, "tear", "()I"⟩
abbrev cX8_count : ByteArray := prog_10_method_81_code
def yX8_count : MethodName := ⟨RX8, "count", "(I)I"⟩
abbrev cX8_status : ByteArray := prog_10_method_82_code
def yX8_status : MethodName := ⟨RX8, "status", "(I)I"⟩
abbrev cL_law : ByteArray := code
abbrev vwCl : List vw_C := [(RX0, TX0, 3), (RX1, TX1, 3), (RX2, TX2, 3), (RX3, TX3, 5), (RX4, TX4, 2), (RX5, TX5, 5), (RX6, TX6, 13), (RX7, TX7, 10), (RX8, TX8, 20)]
end
section
/-! decode rows 0 -/
theorem dX0_init_0 : decode cX0_init 0 = .ok (.aload_n 0, 1) := by decide +kernel
theorem dX0_init_1 : decode cX0_init 1 = .ok (.invokespecial 3, 3) := by decide +kernel
theorem dX0_init_4 : decode cX0_init 4 = .ok (.aload_n 0, 1) := by decide +kernel
theorem dX0_init_5 : decode cX0_init 5 = .ok (.bipush 12, 2) := by decide +kernel
theorem dX0_init_7 : decode cX0_init 7 = .ok (.newarray .int, 2) := by decide +kernel
theorem dX0_init_9 : decode cX0_init 9 = .ok (.putfield 9, 3) := by decide +kernel
theorem dX0_init_12 : decode cX0_init 12 = .ok (.aload_n 0, 1) := by decide +kernel
theorem dX0_init_13 : decode cX0_init 13 = .ok (.bipush 12, 2) := by decide +kernel
theorem dX0_init_15 : decode cX0_init 15 = .ok (.newarray .int, 2) := by decide +kernel
theorem dX0_init_17 : decode cX0_init 17 = .ok (.putfield 15, 3) := by decide +kernel
theorem dX0_init_20 : decode cX0_init 20 = .ok (.return_, 1) := by decide +kernel
theorem dX0_become_0 : decode cX0_become 0 = .ok (.aload_n 1, 1) := by decide +kernel
theorem dX0_become_1 : decode cX0_become 1 = .ok (.getfield 9, 3) := by decide +kernel
theorem dX0_become_4 : decode cX0_become 4 = .ok (.iconst 0, 1) := by decide +kernel
theorem dX0_become_5 : decode cX0_become 5 = .ok (.aload_n 0, 1) := by decide +kernel
theorem dX0_become_6 : decode cX0_become 6 = .ok (.getfield 9, 3) := by decide +kernel
theorem dX0_become_9 : decode cX0_become 9 = .ok (.iconst 0, 1) := by decide +kernel
theorem dX0_become_10 : decode cX0_become 10 = .ok (.bipush 12, 2) := by decide +kernel
theorem dX0_become_12 : decode cX0_become 12 = .ok (.invokestatic 18, 3) := by decide +kernel
theorem dX0_become_15 : decode cX0_become 15 = .ok (.aload_n 1, 1) := by decide +kernel
theorem dX0_become_16 : decode cX0_become 16 = .ok (.getfield 15, 3) := by decide +kernel
theorem dX0_become_19 : decode cX0_become 19 = .ok (.iconst 0, 1) := by decide +kernel
theorem dX0_become_20 : decode cX0_become 20 = .ok (.aload_n 0, 1) := by decide +kernel
theorem dX0_become_21 : decode cX0_become 21 = .ok (.getfield 15, 3) := by decide +kernel
theorem dX0_become_24 : decode cX0_become 24 = .ok (.iconst 0, 1) := by decide +kernel
theorem dX0_become_25 : decode cX0_become 25 = .ok (.bipush 12, 2) := by decide +kernel
theorem dX0_become_27 : decode cX0_become 27 = .ok (.invokestatic 18, 3) := by decide +kernel
theorem dX0_become_30 : decode cX0_become 30 = .ok (.aload_n 0, 1) := by decide +kernel
theorem dX0_become_31 : decode cX0_become 31 = .ok (.aload_n 1, 1) := by decide +kernel
theorem dX0_become_32 : decode cX0_become 32 = .ok (.getfield 24, 3) := by decide +kernel
theorem dX0_become_35 : decode cX0_become 35 = .ok (.putfield 24, 3) := by decide +kernel
theorem dX0_become_38 : decode cX0_become 38 = .ok (.return_, 1) := by decide +kernel
theorem dX0_add_0 : decode cX0_add 0 = .ok (.aload_n 0, 1) := by decide +kernel
theorem dX0_add_1 : decode cX0_add 1 = .ok (.getfield 24, 3) := by decide +kernel
theorem dX0_add_4 : decode cX0_add 4 = .ok (.iconst 0, 1) := by decide +kernel
theorem dX0_add_5 : decode cX0_add 5 = .ok (.bipush 11, 2) := by decide +kernel
theorem dX0_add_7 : decode cX0_add 7 = .ok (.invokestatic 28, 3) := by decide +kernel
theorem dX0_add_10 : decode cX0_add 10 = .ok (.ifCond .eq 33, 3) := by decide +kernel
theorem dX0_add_13 : decode cX0_add 13 = .ok (.aload_n 0, 1) := by decide +kernel
theorem dX0_add_14 : decode cX0_add 14 = .ok (.getfield 9, 3) := by decide +kernel
theorem dX0_add_17 : decode cX0_add 17 = .ok (.aload_n 0, 1) := by decide +kernel
theorem dX0_add_18 : decode cX0_add 18 = .ok (.getfield 24, 3) := by decide +kernel
theorem dX0_add_21 : decode cX0_add 21 = .ok (.iload_n 1, 1) := by decide +kernel
theorem dX0_add_22 : decode cX0_add 22 = .ok (.iastore, 1) := by decide +kernel
theorem dX0_add_23 : decode cX0_add 23 = .ok (.aload_n 0, 1) := by decide +kernel
theorem dX0_add_24 : decode cX0_add 24 = .ok (.getfield 15, 3) := by decide +kernel
theorem dX0_add_27 : decode cX0_add 27 = .ok (.aload_n 0, 1) := by decide +kernel
theorem dX0_add_28 : decode cX0_add 28 = .ok (.getfield 24, 3) := by decide +kernel
theorem dX0_add_31 : decode cX0_add 31 = .ok (.iload_n 2, 1) := by decide +kernel
theorem dX0_add_32 : decode cX0_add 32 = .ok (.iastore, 1) := by decide +kernel
theorem dX0_add_33 : decode cX0_add 33 = .ok (.aload_n 0, 1) := by decide +kernel
theorem dX0_add_34 : decode cX0_add 34 = .ok (.dup, 1) := by decide +kernel
theorem dX0_add_35 : decode cX0_add 35 = .ok (.getfield 24, 3) := by decide +kernel
theorem dX0_add_38 : decode cX0_add 38 = .ok (.iconst 1, 1) := by decide +kernel
theorem dX0_add_39 : decode cX0_add 39 = .ok (.iadd, 1) := by decide +kernel
theorem dX0_add_40 : decode cX0_add 40 = .ok (.putfield 24, 3) := by decide +kernel
theorem dX0_add_43 : decode cX0_add 43 = .ok (.return_, 1) := by decide +kernel
theorem dX0_ticksOfAll_0 : decode cX0_ticksOfAll 0 = .ok (.iconst 0, 1) := by decide +kernel
theorem dX0_ticksOfAll_1 : decode cX0_ticksOfAll 1 = .ok (.istore_n 1, 1) := by decide +kernel
theorem dX0_ticksOfAll_2 : decode cX0_ticksOfAll 2 = .ok (.iconst 0, 1) := by decide +kernel
theorem dX0_ticksOfAll_3 : decode cX0_ticksOfAll 3 = .ok (.istore_n 2, 1) := by decide +kernel
theorem dX0_ticksOfAll_4 : decode cX0_ticksOfAll 4 = .ok (.iload_n 2, 1) := by decide +kernel
theorem dX0_ticksOfAll_5 : decode cX0_ticksOfAll 5 = .ok (.aload_n 0, 1) := by decide +kernel
theorem dX0_ticksOfAll_6 : decode cX0_ticksOfAll 6 = .ok (.getfield 24, 3) := by decide +kernel
theorem dX0_ticksOfAll_9 : decode cX0_ticksOfAll 9 = .ok (.if_icmp .ge 29, 3) := by decide +kernel
theorem dX0_ticksOfAll_12 : decode cX0_ticksOfAll 12 = .ok (.aload_n 0, 1) := by decide +kernel
theorem dX0_ticksOfAll_13 : decode cX0_ticksOfAll 13 = .ok (.getfield 9, 3) := by decide +kernel
theorem dX0_ticksOfAll_16 : decode cX0_ticksOfAll 16 = .ok (.iload_n 2, 1) := by decide +kernel
theorem dX0_ticksOfAll_17 : decode cX0_ticksOfAll 17 = .ok (.iaload, 1) := by decide +kernel
theorem dX0_ticksOfAll_18 : decode cX0_ticksOfAll 18 = .ok (.bipush 12, 2) := by decide +kernel
theorem dX0_ticksOfAll_20 : decode cX0_ticksOfAll 20 = .ok (.if_icmp .ne 12, 3) := by decide +kernel
theorem dX0_ticksOfAll_23 : decode cX0_ticksOfAll 23 = .ok (.iload_n 1, 1) := by decide +kernel
theorem dX0_ticksOfAll_24 : decode cX0_ticksOfAll 24 = .ok (.aload_n 0, 1) := by decide +kernel
theorem dX0_ticksOfAll_25 : decode cX0_ticksOfAll 25 = .ok (.getfield 15, 3) := by decide +kernel
theorem dX0_ticksOfAll_28 : decode cX0_ticksOfAll 28 = .ok (.iload_n 2, 1) := by decide +kernel
theorem dX0_ticksOfAll_29 : decode cX0_ticksOfAll 29 = .ok (.iaload, 1) := by decide +kernel
theorem dX0_ticksOfAll_30 : decode cX0_ticksOfAll 30 = .ok (.iadd, 1) := by decide +kernel
theorem dX0_ticksOfAll_31 : decode cX0_ticksOfAll 31 = .ok (.istore_n 1, 1) := by decide +kernel
theorem dX0_ticksOfAll_32 : decode cX0_ticksOfAll 32 = .ok (.iinc 2 1, 3) := by decide +kernel
theorem dX0_ticksOfAll_35 : decode cX0_ticksOfAll 35 = .ok (.goto (-31), 3) := by decide +kernel
theorem dX0_ticksOfAll_38 : decode cX0_ticksOfAll 38 = .ok (.iload_n 1, 1) := by decide +kernel
theorem dX0_ticksOfAll_39 : decode cX0_ticksOfAll 39 = .ok (.ireturn, 1) := by decide +kernel
theorem dX0_doDeed_0 : decode cX0_doDeed 0 = .ok (.iload_n 1, 1) := by decide +kernel
theorem dX0_doDeed_1 : decode cX0_doDeed 1 = .ok (.iconst 0, 1) := by decide +kernel
theorem dX0_doDeed_2 : decode cX0_doDeed 2 = .ok (.aload_n 0, 1) := by decide +kernel
theorem dX0_doDeed_3 : decode cX0_doDeed 3 = .ok (.getfield 24, 3) := by decide +kernel
theorem dX0_doDeed_6 : decode cX0_doDeed 6 = .ok (.iconst 1, 1) := by decide +kernel
theorem dX0_doDeed_7 : decode cX0_doDeed 7 = .ok (.isub, 1) := by decide +kernel
theorem dX0_doDeed_8 : decode cX0_doDeed 8 = .ok (.invokestatic 28, 3) := by decide +kernel
theorem dX0_doDeed_11 : decode cX0_doDeed 11 = .ok (.ifCond .ne 4, 3) := by decide +kernel
theorem dX0_doDeed_14 : decode cX0_doDeed 14 = .ok (.return_, 1) := by decide +kernel
theorem dX0_doDeed_15 : decode cX0_doDeed 15 = .ok (.aload_n 0, 1) := by decide +kernel
theorem dX0_doDeed_16 : decode cX0_doDeed 16 = .ok (.getfield 9, 3) := by decide +kernel
theorem dX0_doDeed_19 : decode cX0_doDeed 19 = .ok (.iload_n 1, 1) := by decide +kernel
theorem dX0_doDeed_20 : decode cX0_doDeed 20 = .ok (.iaload, 1) := by decide +kernel
theorem dX0_doDeed_21 : decode cX0_doDeed 21 = .ok (.istore_n 3, 1) := by decide +kernel
theorem dX0_doDeed_22 : decode cX0_doDeed 22 = .ok (.aload_n 0, 1) := by decide +kernel
theorem dX0_doDeed_23 : decode cX0_doDeed 23 = .ok (.getfield 15, 3) := by decide +kernel
theorem dX0_doDeed_26 : decode cX0_doDeed 26 = .ok (.iload_n 1, 1) := by decide +kernel
theorem dX0_doDeed_27 : decode cX0_doDeed 27 = .ok (.iaload, 1) := by decide +kernel
theorem dX0_doDeed_28 : decode cX0_doDeed 28 = .ok (.istore 4, 2) := by decide +kernel
theorem dX0_doDeed_30 : decode cX0_doDeed 30 = .ok (.iload_n 3, 1) := by decide +kernel
theorem dX0_doDeed_31 : decode cX0_doDeed 31 = .ok (.bipush 7, 2) := by decide +kernel
theorem dX0_doDeed_33 : decode cX0_doDeed 33 = .ok (.if_icmp .ge 14, 3) := by decide +kernel
theorem dX0_doDeed_36 : decode cX0_doDeed 36 = .ok (.aload_n 2, 1) := by decide +kernel
theorem dX0_doDeed_37 : decode cX0_doDeed 37 = .ok (.getfield 32, 3) := by decide +kernel
theorem dX0_doDeed_40 : decode cX0_doDeed 40 = .ok (.iload 4, 2) := by decide +kernel
theorem dX0_doDeed_42 : decode cX0_doDeed 42 = .ok (.iload_n 3, 1) := by decide +kernel
theorem dX0_doDeed_43 : decode cX0_doDeed 43 = .ok (.iastore, 1) := by decide +kernel
theorem dX0_doDeed_44 : decode cX0_doDeed 44 = .ok (.goto 44, 3) := by decide +kernel
theorem dX0_doDeed_47 : decode cX0_doDeed 47 = .ok (.iload_n 3, 1) := by decide +kernel
theorem dX0_doDeed_48 : decode cX0_doDeed 48 = .ok (.bipush 11, 2) := by decide +kernel
theorem dX0_doDeed_50 : decode cX0_doDeed 50 = .ok (.if_icmp .ge 17, 3) := by decide +kernel
theorem dX0_doDeed_53 : decode cX0_doDeed 53 = .ok (.aload_n 2, 1) := by decide +kernel
theorem dX0_doDeed_54 : decode cX0_doDeed 54 = .ok (.getfield 37, 3) := by decide +kernel
theorem dX0_doDeed_57 : decode cX0_doDeed 57 = .ok (.iload_n 3, 1) := by decide +kernel
theorem dX0_doDeed_58 : decode cX0_doDeed 58 = .ok (.bipush 7, 2) := by decide +kernel
theorem dX0_doDeed_60 : decode cX0_doDeed 60 = .ok (.isub, 1) := by decide +kernel
theorem dX0_doDeed_61 : decode cX0_doDeed 61 = .ok (.iload 4, 2) := by decide +kernel
theorem dX0_doDeed_63 : decode cX0_doDeed 63 = .ok (.iastore, 1) := by decide +kernel
theorem dX0_doDeed_64 : decode cX0_doDeed 64 = .ok (.goto 24, 3) := by decide +kernel
theorem dX0_doDeed_67 : decode cX0_doDeed 67 = .ok (.iload_n 3, 1) := by decide +kernel
theorem dX0_doDeed_68 : decode cX0_doDeed 68 = .ok (.bipush 11, 2) := by decide +kernel
theorem dX0_doDeed_70 : decode cX0_doDeed 70 = .ok (.if_icmp .ne 12, 3) := by decide +kernel
theorem dX0_doDeed_73 : decode cX0_doDeed 73 = .ok (.aload_n 2, 1) := by decide +kernel
theorem dX0_doDeed_74 : decode cX0_doDeed 74 = .ok (.iload 4, 2) := by decide +kernel
theorem dX0_doDeed_76 : decode cX0_doDeed 76 = .ok (.invokevirtual 40, 3) := by decide +kernel
theorem dX0_doDeed_79 : decode cX0_doDeed 79 = .ok (.goto 9, 3) := by decide +kernel
theorem dX0_doDeed_82 : decode cX0_doDeed 82 = .ok (.aload_n 2, 1) := by decide +kernel
theorem dX0_doDeed_83 : decode cX0_doDeed 83 = .ok (.iload 4, 2) := by decide +kernel
theorem dX0_doDeed_85 : decode cX0_doDeed 85 = .ok (.invokevirtual 44, 3) := by decide +kernel
theorem dX0_doDeed_88 : decode cX0_doDeed 88 = .ok (.return_, 1) := by decide +kernel
theorem dX0_takes_0 : decode cX0_takes 0 = .ok (.iload_n 1, 1) := by decide +kernel
theorem dX0_takes_1 : decode cX0_takes 1 = .ok (.getstatic 47, 3) := by decide +kernel
theorem dX0_takes_4 : decode cX0_takes 4 = .ok (.iload_n 0, 1) := by decide +kernel
theorem dX0_takes_5 : decode cX0_takes 5 = .ok (.iaload, 1) := by decide +kernel
theorem dX0_takes_6 : decode cX0_takes 6 = .ok (.getstatic 50, 3) := by decide +kernel
theorem dX0_takes_9 : decode cX0_takes 9 = .ok (.iload_n 0, 1) := by decide +kernel
theorem dX0_takes_10 : decode cX0_takes 10 = .ok (.iaload, 1) := by decide +kernel
theorem dX0_takes_11 : decode cX0_takes 11 = .ok (.invokestatic 28, 3) := by decide +kernel
theorem dX0_takes_14 : decode cX0_takes 14 = .ok (.ireturn, 1) := by decide +kernel
theorem dX0_wordOf_0 : decode cX0_wordOf 0 = .ok (.iload_n 0, 1) := by decide +kernel
theorem dX0_wordOf_1 : decode cX0_wordOf 1 = .ok (.tableswitch 99 0 11 #[63, 66, 69, 72, 75, 78, 81, 84, 87, 90, 93, 96], 63) := by decide +kernel
theorem dX0_wordOf_64 : decode cX0_wordOf 64 = .ok (.ldc 53, 2) := by decide +kernel
theorem dX0_wordOf_66 : decode cX0_wordOf 66 = .ok (.areturn, 1) := by decide +kernel
theorem dX0_wordOf_67 : decode cX0_wordOf 67 = .ok (.ldc 55, 2) := by decide +kernel
theorem dX0_wordOf_69 : decode cX0_wordOf 69 = .ok (.areturn, 1) := by decide +kernel
theorem dX0_wordOf_70 : decode cX0_wordOf 70 = .ok (.ldc 57, 2) := by decide +kernel
theorem dX0_wordOf_72 : decode cX0_wordOf 72 = .ok (.areturn, 1) := by decide +kernel
theorem dX0_wordOf_73 : decode cX0_wordOf 73 = .ok (.ldc 59, 2) := by decide +kernel
theorem dX0_wordOf_75 : decode cX0_wordOf 75 = .ok (.areturn, 1) := by decide +kernel
theorem dX0_wordOf_76 : decode cX0_wordOf 76 = .ok (.ldc 61, 2) := by decide +kernel
theorem dX0_wordOf_78 : decode cX0_wordOf 78 = .ok (.areturn, 1) := by decide +kernel
theorem dX0_wordOf_79 : decode cX0_wordOf 79 = .ok (.ldc 63, 2) := by decide +kernel
theorem dX0_wordOf_81 : decode cX0_wordOf 81 = .ok (.areturn, 1) := by decide +kernel
theorem dX0_wordOf_82 : decode cX0_wordOf 82 = .ok (.ldc 65, 2) := by decide +kernel
theorem dX0_wordOf_84 : decode cX0_wordOf 84 = .ok (.areturn, 1) := by decide +kernel
theorem dX0_wordOf_85 : decode cX0_wordOf 85 = .ok (.ldc 67, 2) := by decide +kernel
theorem dX0_wordOf_87 : decode cX0_wordOf 87 = .ok (.areturn, 1) := by decide +kernel
theorem dX0_wordOf_88 : decode cX0_wordOf 88 = .ok (.ldc 69, 2) := by decide +kernel
theorem dX0_wordOf_90 : decode cX0_wordOf 90 = .ok (.areturn, 1) := by decide +kernel
theorem dX0_wordOf_91 : decode cX0_wordOf 91 = .ok (.ldc 71, 2) := by decide +kernel
theorem dX0_wordOf_93 : decode cX0_wordOf 93 = .ok (.areturn, 1) := by decide +kernel
theorem dX0_wordOf_94 : decode cX0_wordOf 94 = .ok (.ldc 73, 2) := by decide +kernel
theorem dX0_wordOf_96 : decode cX0_wordOf 96 = .ok (.areturn, 1) := by decide +kernel
theorem dX0_wordOf_97 : decode cX0_wordOf 97 = .ok (.ldc 75, 2) := by decide +kernel
theorem dX0_wordOf_99 : decode cX0_wordOf 99 = .ok (.areturn, 1) := by decide +kernel
theorem dX0_wordOf_100 : decode cX0_wordOf 100 = .ok (.ldc 77, 2) := by decide +kernel
theorem dX0_wordOf_102 : decode cX0_wordOf 102 = .ok (.areturn, 1) := by decide +kernel
theorem dX1_init_0 : decode cX1_init 0 = .ok (.aload_n 0, 1) := by decide +kernel
theorem dX1_init_1 : decode cX1_init 1 = .ok (.invokespecial 1, 3) := by decide +kernel
theorem dX1_init_4 : decode cX1_init 4 = .ok (.aload_n 0, 1) := by decide +kernel
theorem dX1_init_5 : decode cX1_init 5 = .ok (.bipush 40, 2) := by decide +kernel
theorem dX1_init_7 : decode cX1_init 7 = .ok (.newarray .int, 2) := by decide +kernel
theorem dX1_init_9 : decode cX1_init 9 = .ok (.putfield 9, 3) := by decide +kernel
theorem dX1_init_12 : decode cX1_init 12 = .ok (.return_, 1) := by decide +kernel
theorem dX1_begin_0 : decode cX1_begin 0 = .ok (.aload_n 0, 1) := by decide +kernel
theorem dX1_begin_1 : decode cX1_begin 1 = .ok (.iload_n 1, 1) := by decide +kernel
theorem dX1_begin_2 : decode cX1_begin 2 = .ok (.putfield 13, 3) := by decide +kernel
theorem dX1_begin_5 : decode cX1_begin 5 = .ok (.aload_n 0, 1) := by decide +kernel
theorem dX1_begin_6 : decode cX1_begin 6 = .ok (.iload_n 1, 1) := by decide +kernel
theorem dX1_begin_7 : decode cX1_begin 7 = .ok (.ifCond .ne 7, 3) := by decide +kernel
theorem dX1_begin_10 : decode cX1_begin 10 = .ok (.iconst 0, 1) := by decide +kernel
theorem dX1_begin_11 : decode cX1_begin 11 = .ok (.goto 4, 3) := by decide +kernel
theorem dX1_begin_14 : decode cX1_begin 14 = .ok (.iload_n 2, 1) := by decide +kernel
theorem dX1_begin_15 : decode cX1_begin 15 = .ok (.putfield 17, 3) := by decide +kernel
theorem dX1_begin_18 : decode cX1_begin 18 = .ok (.iconst 0, 1) := by decide +kernel
theorem dX1_begin_19 : decode cX1_begin 19 = .ok (.istore_n 3, 1) := by decide +kernel
theorem dX1_begin_20 : decode cX1_begin 20 = .ok (.iload_n 3, 1) := by decide +kernel
theorem dX1_begin_21 : decode cX1_begin 21 = .ok (.bipush 40, 2) := by decide +kernel
theorem dX1_begin_23 : decode cX1_begin 23 = .ok (.if_icmp .ge 16, 3) := by decide +kernel
theorem dX1_begin_26 : decode cX1_begin 26 = .ok (.aload_n 0, 1) := by decide +kernel
theorem dX1_begin_27 : decode cX1_begin 27 = .ok (.getfield 9, 3) := by decide +kernel
theorem dX1_begin_30 : decode cX1_begin 30 = .ok (.iload_n 3, 1) := by decide +kernel
theorem dX1_begin_31 : decode cX1_begin 31 = .ok (.iconst 0, 1) := by decide +kernel
theorem dX1_begin_32 : decode cX1_begin 32 = .ok (.iastore, 1) := by decide +kernel
theorem dX1_begin_33 : decode cX1_begin 33 = .ok (.iinc 3 1, 3) := by decide +kernel
theorem dX1_begin_36 : decode cX1_begin 36 = .ok (.goto (-16), 3) := by decide +kernel
theorem dX1_begin_39 : decode cX1_begin 39 = .ok (.return_, 1) := by decide +kernel
theorem dX1_isMissing_0 : decode cX1_isMissing 0 = .ok (.aload_n 0, 1) := by decide +kernel
theorem dX1_isMissing_1 : decode cX1_isMissing 1 = .ok (.getfield 13, 3) := by decide +kernel
theorem dX1_isMissing_4 : decode cX1_isMissing 4 = .ok (.ifCond .ne 7, 3) := by decide +kernel
theorem dX1_isMissing_7 : decode cX1_isMissing 7 = .ok (.iconst 1, 1) := by decide +kernel
theorem dX1_isMissing_8 : decode cX1_isMissing 8 = .ok (.goto 4, 3) := by decide +kernel
theorem dX1_isMissing_11 : decode cX1_isMissing 11 = .ok (.iconst 0, 1) := by decide +kernel
theorem dX1_isMissing_12 : decode cX1_isMissing 12 = .ok (.ireturn, 1) := by decide +kernel
theorem dX1_has_0 : decode cX1_has 0 = .ok (.iload_n 1, 1) := by decide +kernel
theorem dX1_has_1 : decode cX1_has 1 = .ok (.ifCond .lt 29, 3) := by decide +kernel
theorem dX1_has_4 : decode cX1_has 4 = .ok (.iload_n 2, 1) := by decide +kernel
theorem dX1_has_5 : decode cX1_has 5 = .ok (.ifCond .lt 25, 3) := by decide +kernel
theorem dX1_has_8 : decode cX1_has 8 = .ok (.iload_n 1, 1) := by decide +kernel
theorem dX1_has_9 : decode cX1_has 9 = .ok (.aload_n 0, 1) := by decide +kernel
theorem dX1_has_10 : decode cX1_has 10 = .ok (.getfield 17, 3) := by decide +kernel
theorem dX1_has_13 : decode cX1_has 13 = .ok (.if_icmp .gt 17, 3) := by decide +kernel
theorem dX1_has_16 : decode cX1_has 16 = .ok (.iload_n 2, 1) := by decide +kernel
theorem dX1_has_17 : decode cX1_has 17 = .ok (.aload_n 0, 1) := by decide +kernel
theorem dX1_has_18 : decode cX1_has 18 = .ok (.getfield 17, 3) := by decide +kernel
theorem dX1_has_21 : decode cX1_has 21 = .ok (.iload_n 1, 1) := by decide +kernel
theorem dX1_has_22 : decode cX1_has 22 = .ok (.isub, 1) := by decide +kernel
theorem dX1_has_23 : decode cX1_has 23 = .ok (.if_icmp .gt 7, 3) := by decide +kernel
theorem dX1_has_26 : decode cX1_has 26 = .ok (.iconst 1, 1) := by decide +kernel
theorem dX1_has_27 : decode cX1_has 27 = .ok (.goto 4, 3) := by decide +kernel
theorem dX1_has_30 : decode cX1_has 30 = .ok (.iconst 0, 1) := by decide +kernel
theorem dX1_has_31 : decode cX1_has 31 = .ok (.ireturn, 1) := by decide +kernel
theorem dX1_put_0 : decode cX1_put 0 = .ok (.iload_n 1, 1) := by decide +kernel
theorem dX1_put_1 : decode cX1_put 1 = .ok (.iconst 0, 1) := by decide +kernel
theorem dX1_put_2 : decode cX1_put 2 = .ok (.aload_n 0, 1) := by decide +kernel
theorem dX1_put_3 : decode cX1_put 3 = .ok (.getfield 17, 3) := by decide +kernel
theorem dX1_put_6 : decode cX1_put 6 = .ok (.iconst 1, 1) := by decide +kernel
theorem dX1_put_7 : decode cX1_put 7 = .ok (.isub, 1) := by decide +kernel
theorem dX1_put_8 : decode cX1_put 8 = .ok (.invokestatic 20, 3) := by decide +kernel
theorem dX1_put_11 : decode cX1_put 11 = .ok (.ifCond .eq 14, 3) := by decide +kernel
theorem dX1_put_14 : decode cX1_put 14 = .ok (.aload_n 0, 1) := by decide +kernel
theorem dX1_put_15 : decode cX1_put 15 = .ok (.getfield 9, 3) := by decide +kernel
theorem dX1_put_18 : decode cX1_put 18 = .ok (.iload_n 1, 1) := by decide +kernel
theorem dX1_put_19 : decode cX1_put 19 = .ok (.aload_n 0, 1) := by decide +kernel
theorem dX1_put_20 : decode cX1_put 20 = .ok (.iload_n 2, 1) := by decide +kernel
theorem dX1_put_21 : decode cX1_put 21 = .ok (.invokevirtual 26, 3) := by decide +kernel
theorem dX1_put_24 : decode cX1_put 24 = .ok (.iastore, 1) := by decide +kernel
theorem dX1_put_25 : decode cX1_put 25 = .ok (.return_, 1) := by decide +kernel
theorem dX1_cut_0 : decode cX1_cut 0 = .ok (.aload_n 0, 1) := by decide +kernel
theorem dX1_cut_1 : decode cX1_cut 1 = .ok (.getfield 13, 3) := by decide +kernel
theorem dX1_cut_4 : decode cX1_cut 4 = .ok (.lookupswitch 34 #[(8, 28), (16, 31)], 28) := by decide +kernel
theorem dX1_cut_32 : decode cX1_cut 32 = .ok (.iload_n 1, 1) := by decide +kernel
theorem dX1_cut_33 : decode cX1_cut 33 = .ok (.i2b, 1) := by decide +kernel
theorem dX1_cut_34 : decode cX1_cut 34 = .ok (.ireturn, 1) := by decide +kernel
theorem dX1_cut_35 : decode cX1_cut 35 = .ok (.iload_n 1, 1) := by decide +kernel
theorem dX1_cut_36 : decode cX1_cut 36 = .ok (.i2s, 1) := by decide +kernel
theorem dX1_cut_37 : decode cX1_cut 37 = .ok (.ireturn, 1) := by decide +kernel
theorem dX1_cut_38 : decode cX1_cut 38 = .ok (.iload_n 1, 1) := by decide +kernel
theorem dX1_cut_39 : decode cX1_cut 39 = .ok (.ireturn, 1) := by decide +kernel
theorem dX2_init_0 : decode cX2_init 0 = .ok (.aload_n 0, 1) := by decide +kernel
theorem dX2_init_1 : decode cX2_init 1 = .ok (.invokespecial 1, 3) := by decide +kernel
theorem dX2_init_4 : decode cX2_init 4 = .ok (.return_, 1) := by decide +kernel
theorem dX2_begin_0 : decode cX2_begin 0 = .ok (.aload_n 0, 1) := by decide +kernel
theorem dX2_begin_1 : decode cX2_begin 1 = .ok (.iload_n 1, 1) := by decide +kernel
theorem dX2_begin_2 : decode cX2_begin 2 = .ok (.i2l, 1) := by decide +kernel
theorem dX2_begin_3 : decode cX2_begin 3 = .ok (.putfield 7, 3) := by decide +kernel
theorem dX2_begin_6 : decode cX2_begin 6 = .ok (.aload_n 0, 1) := by decide +kernel
theorem dX2_begin_7 : decode cX2_begin 7 = .ok (.iload_n 2, 1) := by decide +kernel
theorem dX2_begin_8 : decode cX2_begin 8 = .ok (.i2l, 1) := by decide +kernel
theorem dX2_begin_9 : decode cX2_begin 9 = .ok (.putfield 13, 3) := by decide +kernel
theorem dX2_begin_12 : decode cX2_begin 12 = .ok (.aload_n 0, 1) := by decide +kernel
theorem dX2_begin_13 : decode cX2_begin 13 = .ok (.lconst 0, 1) := by decide +kernel
theorem dX2_begin_14 : decode cX2_begin 14 = .ok (.putfield 16, 3) := by decide +kernel
theorem dX2_begin_17 : decode cX2_begin 17 = .ok (.return_, 1) := by decide +kernel
theorem dX2_apply_0 : decode cX2_apply 0 = .ok (.aload_n 0, 1) := by decide +kernel
theorem dX2_apply_1 : decode cX2_apply 1 = .ok (.getfield 7, 3) := by decide +kernel
theorem dX2_apply_4 : decode cX2_apply 4 = .ok (.aload_n 0, 1) := by decide +kernel
theorem dX2_apply_5 : decode cX2_apply 5 = .ok (.getfield 13, 3) := by decide +kernel
theorem dX2_apply_8 : decode cX2_apply 8 = .ok (.aload_n 0, 1) := by decide +kernel
theorem dX2_apply_9 : decode cX2_apply 9 = .ok (.getfield 7, 3) := by decide +kernel
theorem dX2_apply_12 : decode cX2_apply 12 = .ok (.lsub, 1) := by decide +kernel
theorem dX2_apply_13 : decode cX2_apply 13 = .ok (.ldc2_w 19, 3) := by decide +kernel
theorem dX2_apply_16 : decode cX2_apply 16 = .ok (.ldiv, 1) := by decide +kernel
theorem dX2_apply_17 : decode cX2_apply 17 = .ok (.ladd, 1) := by decide +kernel
theorem dX2_apply_18 : decode cX2_apply 18 = .ok (.lstore_n 1, 1) := by decide +kernel
theorem dX2_apply_19 : decode cX2_apply 19 = .ok (.aload_n 0, 1) := by decide +kernel
theorem dX2_apply_20 : decode cX2_apply 20 = .ok (.getfield 13, 3) := by decide +kernel
theorem dX2_apply_23 : decode cX2_apply 23 = .ok (.aload_n 0, 1) := by decide +kernel
theorem dX2_apply_24 : decode cX2_apply 24 = .ok (.getfield 7, 3) := by decide +kernel
theorem dX2_apply_27 : decode cX2_apply 27 = .ok (.ldc2_w 21, 3) := by decide +kernel
theorem dX2_apply_30 : decode cX2_apply 30 = .ok (.aload_n 0, 1) := by decide +kernel
theorem dX2_apply_31 : decode cX2_apply 31 = .ok (.getfield 16, 3) := by decide +kernel
theorem dX2_apply_34 : decode cX2_apply 34 = .ok (.lsub, 1) := by decide +kernel
theorem dX2_apply_35 : decode cX2_apply 35 = .ok (.lmul, 1) := by decide +kernel
theorem dX2_apply_36 : decode cX2_apply 36 = .ok (.ldc2_w 23, 3) := by decide +kernel
theorem dX2_apply_39 : decode cX2_apply 39 = .ok (.ldiv, 1) := by decide +kernel
theorem dX2_apply_40 : decode cX2_apply 40 = .ok (.aload_n 0, 1) := by decide +kernel
theorem dX2_apply_41 : decode cX2_apply 41 = .ok (.getfield 13, 3) := by decide +kernel
theorem dX2_apply_44 : decode cX2_apply 44 = .ok (.lsub, 1) := by decide +kernel
theorem dX2_apply_45 : decode cX2_apply 45 = .ok (.ldc2_w 23, 3) := by decide +kernel
theorem dX2_apply_48 : decode cX2_apply 48 = .ok (.ldiv, 1) := by decide +kernel
theorem dX2_apply_49 : decode cX2_apply 49 = .ok (.ladd, 1) := by decide +kernel
theorem dX2_apply_50 : decode cX2_apply 50 = .ok (.lstore_n 3, 1) := by decide +kernel
theorem dX2_apply_51 : decode cX2_apply 51 = .ok (.aload_n 0, 1) := by decide +kernel
theorem dX2_apply_52 : decode cX2_apply 52 = .ok (.getfield 16, 3) := by decide +kernel
theorem dX2_apply_55 : decode cX2_apply 55 = .ok (.aload_n 0, 1) := by decide +kernel
theorem dX2_apply_56 : decode cX2_apply 56 = .ok (.getfield 7, 3) := by decide +kernel
theorem dX2_apply_59 : decode cX2_apply 59 = .ok (.aload_n 0, 1) := by decide +kernel
theorem dX2_apply_60 : decode cX2_apply 60 = .ok (.getfield 13, 3) := by decide +kernel
theorem dX2_apply_63 : decode cX2_apply 63 = .ok (.lmul, 1) := by decide +kernel
theorem dX2_apply_64 : decode cX2_apply 64 = .ok (.ldc2_w 23, 3) := by decide +kernel
theorem dX2_apply_67 : decode cX2_apply 67 = .ok (.ldiv, 1) := by decide +kernel
theorem dX2_apply_68 : decode cX2_apply 68 = .ok (.ldc2_w 25, 3) := by decide +kernel
theorem dX2_apply_71 : decode cX2_apply 71 = .ok (.aload_n 0, 1) := by decide +kernel
theorem dX2_apply_72 : decode cX2_apply 72 = .ok (.getfield 16, 3) := by decide +kernel
theorem dX2_apply_75 : decode cX2_apply 75 = .ok (.lmul, 1) := by decide +kernel
theorem dX2_apply_76 : decode cX2_apply 76 = .ok (.ldc2_w 27, 3) := by decide +kernel
theorem dX2_apply_79 : decode cX2_apply 79 = .ok (.ldiv, 1) := by decide +kernel
theorem dX2_apply_80 : decode cX2_apply 80 = .ok (.lsub, 1) := by decide +kernel
theorem dX2_apply_81 : decode cX2_apply 81 = .ok (.ldc2_w 23, 3) := by decide +kernel
theorem dX2_apply_84 : decode cX2_apply 84 = .ok (.ldiv, 1) := by decide +kernel
theorem dX2_apply_85 : decode cX2_apply 85 = .ok (.ladd, 1) := by decide +kernel
theorem dX2_apply_86 : decode cX2_apply 86 = .ok (.lstore 5, 2) := by decide +kernel
theorem dX2_apply_88 : decode cX2_apply 88 = .ok (.aload_n 0, 1) := by decide +kernel
theorem dX2_apply_89 : decode cX2_apply 89 = .ok (.lload_n 1, 1) := by decide +kernel
theorem dX2_apply_90 : decode cX2_apply 90 = .ok (.invokestatic 29, 3) := by decide +kernel
theorem dX2_apply_93 : decode cX2_apply 93 = .ok (.putfield 7, 3) := by decide +kernel
theorem dX2_apply_96 : decode cX2_apply 96 = .ok (.aload_n 0, 1) := by decide +kernel
theorem dX2_apply_97 : decode cX2_apply 97 = .ok (.lload_n 3, 1) := by decide +kernel
theorem dX2_apply_98 : decode cX2_apply 98 = .ok (.invokestatic 29, 3) := by decide +kernel
theorem dX2_apply_101 : decode cX2_apply 101 = .ok (.putfield 13, 3) := by decide +kernel
theorem dX2_apply_104 : decode cX2_apply 104 = .ok (.aload_n 0, 1) := by decide +kernel
theorem dX2_apply_105 : decode cX2_apply 105 = .ok (.lload 5, 2) := by decide +kernel
theorem dX2_apply_107 : decode cX2_apply 107 = .ok (.invokestatic 29, 3) := by decide +kernel
theorem dX2_apply_110 : decode cX2_apply 110 = .ok (.putfield 16, 3) := by decide +kernel
theorem dX2_apply_113 : decode cX2_apply 113 = .ok (.return_, 1) := by decide +kernel
theorem dX2_held_0 : decode cX2_held 0 = .ok (.ldc2_w 33, 3) := by decide +kernel
theorem dX2_held_3 : decode cX2_held 3 = .ok (.lload_n 0, 1) := by decide +kernel
theorem dX2_held_4 : decode cX2_held 4 = .ok (.ldc2_w 35, 3) := by decide +kernel
theorem dX2_held_7 : decode cX2_held 7 = .ok (.invokestatic 37, 3) := by decide +kernel
theorem dX2_held_10 : decode cX2_held 10 = .ok (.invokestatic 43, 3) := by decide +kernel
theorem dX2_held_13 : decode cX2_held 13 = .ok (.lreturn, 1) := by decide +kernel
theorem dX3_init_0 : decode cX3_init 0 = .ok (.aload_n 0, 1) := by decide +kernel
theorem dX3_init_1 : decode cX3_init 1 = .ok (.invokespecial 3, 3) := by decide +kernel
theorem dX3_init_4 : decode cX3_init 4 = .ok (.aload_n 0, 1) := by decide +kernel
theorem dX3_init_5 : decode cX3_init 5 = .ok (.new 9, 3) := by decide +kernel
theorem dX3_init_8 : decode cX3_init 8 = .ok (.dup, 1) := by decide +kernel
theorem dX3_init_9 : decode cX3_init 9 = .ok (.invokespecial 11, 3) := by decide +kernel
theorem dX3_init_12 : decode cX3_init 12 = .ok (.putfield 12, 3) := by decide +kernel
theorem dX3_init_15 : decode cX3_init 15 = .ok (.aload_n 0, 1) := by decide +kernel
theorem dX3_init_16 : decode cX3_init 16 = .ok (.bipush 6, 2) := by decide +kernel
theorem dX3_init_18 : decode cX3_init 18 = .ok (.anewarray 18, 3) := by decide +kernel
theorem dX3_init_21 : decode cX3_init 21 = .ok (.putfield 20, 3) := by decide +kernel
theorem dX3_init_24 : decode cX3_init 24 = .ok (.aload_n 0, 1) := by decide +kernel
theorem dX3_init_25 : decode cX3_init 25 = .ok (.bipush 10, 2) := by decide +kernel
theorem dX3_init_27 : decode cX3_init 27 = .ok (.newarray .int, 2) := by decide +kernel
theorem dX3_init_29 : decode cX3_init 29 = .ok (.putfield 24, 3) := by decide +kernel
theorem dX3_init_32 : decode cX3_init 32 = .ok (.aload_n 0, 1) := by decide +kernel
theorem dX3_init_33 : decode cX3_init 33 = .ok (.iconst 1, 1) := by decide +kernel
theorem dX3_init_34 : decode cX3_init 34 = .ok (.putfield 28, 3) := by decide +kernel
theorem dX3_init_37 : decode cX3_init 37 = .ok (.iconst 0, 1) := by decide +kernel
theorem dX3_init_38 : decode cX3_init 38 = .ok (.istore_n 1, 1) := by decide +kernel
theorem dX3_init_39 : decode cX3_init 39 = .ok (.iload_n 1, 1) := by decide +kernel
theorem dX3_init_40 : decode cX3_init 40 = .ok (.bipush 6, 2) := by decide +kernel
theorem dX3_init_42 : decode cX3_init 42 = .ok (.if_icmp .ge 22, 3) := by decide +kernel
theorem dX3_init_45 : decode cX3_init 45 = .ok (.aload_n 0, 1) := by decide +kernel
theorem dX3_init_46 : decode cX3_init 46 = .ok (.getfield 20, 3) := by decide +kernel
theorem dX3_init_49 : decode cX3_init 49 = .ok (.iload_n 1, 1) := by decide +kernel
theorem dX3_init_50 : decode cX3_init 50 = .ok (.new 18, 3) := by decide +kernel
theorem dX3_init_53 : decode cX3_init 53 = .ok (.dup, 1) := by decide +kernel
theorem dX3_init_54 : decode cX3_init 54 = .ok (.invokespecial 32, 3) := by decide +kernel
theorem dX3_init_57 : decode cX3_init 57 = .ok (.aastore, 1) := by decide +kernel
theorem dX3_init_58 : decode cX3_init 58 = .ok (.iinc 1 1, 3) := by decide +kernel
theorem dX3_init_61 : decode cX3_init 61 = .ok (.goto (-22), 3) := by decide +kernel
theorem dX3_init_64 : decode cX3_init 64 = .ok (.iconst 0, 1) := by decide +kernel
theorem dX3_init_65 : decode cX3_init 65 = .ok (.istore_n 1, 1) := by decide +kernel
theorem dX3_init_66 : decode cX3_init 66 = .ok (.iload_n 1, 1) := by decide +kernel
theorem dX3_init_67 : decode cX3_init 67 = .ok (.bipush 10, 2) := by decide +kernel
theorem dX3_init_69 : decode cX3_init 69 = .ok (.if_icmp .ge 16, 3) := by decide +kernel
theorem dX3_init_72 : decode cX3_init 72 = .ok (.aload_n 0, 1) := by decide +kernel
theorem dX3_init_73 : decode cX3_init 73 = .ok (.getfield 24, 3) := by decide +kernel
theorem dX3_init_76 : decode cX3_init 76 = .ok (.iload_n 1, 1) := by decide +kernel
theorem dX3_init_77 : decode cX3_init 77 = .ok (.iconst (-1), 1) := by decide +kernel
theorem dX3_init_78 : decode cX3_init 78 = .ok (.iastore, 1) := by decide +kernel
theorem dX3_init_79 : decode cX3_init 79 = .ok (.iinc 1 1, 3) := by decide +kernel
theorem dX3_init_82 : decode cX3_init 82 = .ok (.goto (-16), 3) := by decide +kernel
theorem dX3_init_85 : decode cX3_init 85 = .ok (.return_, 1) := by decide +kernel
theorem dX3_become_0 : decode cX3_become 0 = .ok (.aload_n 0, 1) := by decide +kernel
theorem dX3_become_1 : decode cX3_become 1 = .ok (.getfield 12, 3) := by decide +kernel
theorem dX3_become_4 : decode cX3_become 4 = .ok (.aload_n 1, 1) := by decide +kernel
theorem dX3_become_5 : decode cX3_become 5 = .ok (.getfield 12, 3) := by decide +kernel
theorem dX3_become_8 : decode cX3_become 8 = .ok (.invokevirtual 33, 3) := by decide +kernel
theorem dX3_become_11 : decode cX3_become 11 = .ok (.iconst 0, 1) := by decide +kernel
theorem dX3_become_12 : decode cX3_become 12 = .ok (.istore_n 2, 1) := by decide +kernel
theorem dX3_become_13 : decode cX3_become 13 = .ok (.iload_n 2, 1) := by decide +kernel
theorem dX3_become_14 : decode cX3_become 14 = .ok (.bipush 6, 2) := by decide +kernel
theorem dX3_become_16 : decode cX3_become 16 = .ok (.if_icmp .ge 24, 3) := by decide +kernel
theorem dX3_become_19 : decode cX3_become 19 = .ok (.aload_n 0, 1) := by decide +kernel
theorem dX3_become_20 : decode cX3_become 20 = .ok (.getfield 20, 3) := by decide +kernel
theorem dX3_become_23 : decode cX3_become 23 = .ok (.iload_n 2, 1) := by decide +kernel
theorem dX3_become_24 : decode cX3_become 24 = .ok (.aaload, 1) := by decide +kernel
theorem dX3_become_25 : decode cX3_become 25 = .ok (.aload_n 1, 1) := by decide +kernel
theorem dX3_become_26 : decode cX3_become 26 = .ok (.getfield 20, 3) := by decide +kernel
theorem dX3_become_29 : decode cX3_become 29 = .ok (.iload_n 2, 1) := by decide +kernel
theorem dX3_become_30 : decode cX3_become 30 = .ok (.aaload, 1) := by decide +kernel
theorem dX3_become_31 : decode cX3_become 31 = .ok (.invokevirtual 37, 3) := by decide +kernel
theorem dX3_become_34 : decode cX3_become 34 = .ok (.iinc 2 1, 3) := by decide +kernel
theorem dX3_become_37 : decode cX3_become 37 = .ok (.goto (-24), 3) := by decide +kernel
theorem dX3_become_40 : decode cX3_become 40 = .ok (.aload_n 0, 1) := by decide +kernel
theorem dX3_become_41 : decode cX3_become 41 = .ok (.aload_n 1, 1) := by decide +kernel
theorem dX3_become_42 : decode cX3_become 42 = .ok (.getfield 40, 3) := by decide +kernel
theorem dX3_become_45 : decode cX3_become 45 = .ok (.putfield 40, 3) := by decide +kernel
theorem dX3_become_48 : decode cX3_become 48 = .ok (.aload_n 1, 1) := by decide +kernel
theorem dX3_become_49 : decode cX3_become 49 = .ok (.getfield 24, 3) := by decide +kernel
theorem dX3_become_52 : decode cX3_become 52 = .ok (.iconst 0, 1) := by decide +kernel
theorem dX3_become_53 : decode cX3_become 53 = .ok (.aload_n 0, 1) := by decide +kernel
theorem dX3_become_54 : decode cX3_become 54 = .ok (.getfield 24, 3) := by decide +kernel
theorem dX3_become_57 : decode cX3_become 57 = .ok (.iconst 0, 1) := by decide +kernel
theorem dX3_become_58 : decode cX3_become 58 = .ok (.bipush 10, 2) := by decide +kernel
theorem dX3_become_60 : decode cX3_become 60 = .ok (.invokestatic 43, 3) := by decide +kernel
theorem dX3_become_63 : decode cX3_become 63 = .ok (.aload_n 0, 1) := by decide +kernel
theorem dX3_become_64 : decode cX3_become 64 = .ok (.aload_n 1, 1) := by decide +kernel
theorem dX3_become_65 : decode cX3_become 65 = .ok (.getfield 28, 3) := by decide +kernel
theorem dX3_become_68 : decode cX3_become 68 = .ok (.putfield 28, 3) := by decide +kernel
theorem dX3_become_71 : decode cX3_become 71 = .ok (.return_, 1) := by decide +kernel
theorem dX3_draw_0 : decode cX3_draw 0 = .ok (.aload_n 0, 1) := by decide +kernel
theorem dX3_draw_1 : decode cX3_draw 1 = .ok (.aload_n 0, 1) := by decide +kernel
theorem dX3_draw_2 : decode cX3_draw 2 = .ok (.getfield 28, 3) := by decide +kernel
theorem dX3_draw_5 : decode cX3_draw 5 = .ok (.ldc 49, 2) := by decide +kernel
theorem dX3_draw_7 : decode cX3_draw 7 = .ok (.imul, 1) := by decide +kernel
theorem dX3_draw_8 : decode cX3_draw 8 = .ok (.sipush 12345, 3) := by decide +kernel
theorem dX3_draw_11 : decode cX3_draw 11 = .ok (.iadd, 1) := by decide +kernel
theorem dX3_draw_12 : decode cX3_draw 12 = .ok (.putfield 28, 3) := by decide +kernel
theorem dX3_draw_15 : decode cX3_draw 15 = .ok (.aload_n 0, 1) := by decide +kernel
theorem dX3_draw_16 : decode cX3_draw 16 = .ok (.getfield 28, 3) := by decide +kernel
theorem dX3_draw_19 : decode cX3_draw 19 = .ok (.bipush 8, 2) := by decide +kernel
theorem dX3_draw_21 : decode cX3_draw 21 = .ok (.iushr, 1) := by decide +kernel
theorem dX3_draw_22 : decode cX3_draw 22 = .ok (.ireturn, 1) := by decide +kernel
theorem dX4_init_0 : decode cX4_init 0 = .ok (.aload_n 0, 1) := by decide +kernel
theorem dX4_init_1 : decode cX4_init 1 = .ok (.invokespecial 1, 3) := by decide +kernel
theorem dX4_init_4 : decode cX4_init 4 = .ok (.aload_n 0, 1) := by decide +kernel
theorem dX4_init_5 : decode cX4_init 5 = .ok (.bipush 100, 2) := by decide +kernel
theorem dX4_init_7 : decode cX4_init 7 = .ok (.newarray .int, 2) := by decide +kernel
theorem dX4_init_9 : decode cX4_init 9 = .ok (.putfield 9, 3) := by decide +kernel
theorem dX4_init_12 : decode cX4_init 12 = .ok (.return_, 1) := by decide +kernel
theorem dX4_append_0 : decode cX4_append 0 = .ok (.aload_n 0, 1) := by decide +kernel
theorem dX4_append_1 : decode cX4_append 1 = .ok (.getfield 13, 3) := by decide +kernel
theorem dX4_append_4 : decode cX4_append 4 = .ok (.iconst 0, 1) := by decide +kernel
theorem dX4_append_5 : decode cX4_append 5 = .ok (.bipush 99, 2) := by decide +kernel
theorem dX4_append_7 : decode cX4_append 7 = .ok (.invokestatic 17, 3) := by decide +kernel
theorem dX4_append_10 : decode cX4_append 10 = .ok (.ifCond .eq 27, 3) := by decide +kernel
theorem dX4_append_13 : decode cX4_append 13 = .ok (.aload_n 0, 1) := by decide +kernel
theorem dX4_append_14 : decode cX4_append 14 = .ok (.getfield 9, 3) := by decide +kernel
theorem dX4_append_17 : decode cX4_append 17 = .ok (.aload_n 0, 1) := by decide +kernel
theorem dX4_append_18 : decode cX4_append 18 = .ok (.getfield 13, 3) := by decide +kernel
theorem dX4_append_21 : decode cX4_append 21 = .ok (.iload_n 1, 1) := by decide +kernel
theorem dX4_append_22 : decode cX4_append 22 = .ok (.sipush 255, 3) := by decide +kernel
theorem dX4_append_25 : decode cX4_append 25 = .ok (.iand, 1) := by decide +kernel
theorem dX4_append_26 : decode cX4_append 26 = .ok (.iastore, 1) := by decide +kernel
theorem dX4_append_27 : decode cX4_append 27 = .ok (.aload_n 0, 1) := by decide +kernel
theorem dX4_append_28 : decode cX4_append 28 = .ok (.dup, 1) := by decide +kernel
theorem dX4_append_29 : decode cX4_append 29 = .ok (.getfield 13, 3) := by decide +kernel
theorem dX4_append_32 : decode cX4_append 32 = .ok (.iconst 1, 1) := by decide +kernel
theorem dX4_append_33 : decode cX4_append 33 = .ok (.iadd, 1) := by decide +kernel
theorem dX4_append_34 : decode cX4_append 34 = .ok (.putfield 13, 3) := by decide +kernel
theorem dX4_append_37 : decode cX4_append 37 = .ok (.return_, 1) := by decide +kernel
theorem dX4_byteAt_0 : decode cX4_byteAt 0 = .ok (.iload_n 1, 1) := by decide +kernel
theorem dX4_byteAt_1 : decode cX4_byteAt 1 = .ok (.ifCond .lt 20, 3) := by decide +kernel
theorem dX4_byteAt_4 : decode cX4_byteAt 4 = .ok (.iload_n 1, 1) := by decide +kernel
theorem dX4_byteAt_5 : decode cX4_byteAt 5 = .ok (.aload_n 0, 1) := by decide +kernel
theorem dX4_byteAt_6 : decode cX4_byteAt 6 = .ok (.getfield 13, 3) := by decide +kernel
theorem dX4_byteAt_9 : decode cX4_byteAt 9 = .ok (.if_icmp .ge 12, 3) := by decide +kernel
theorem dX4_byteAt_12 : decode cX4_byteAt 12 = .ok (.aload_n 0, 1) := by decide +kernel
theorem dX4_byteAt_13 : decode cX4_byteAt 13 = .ok (.getfield 9, 3) := by decide +kernel
theorem dX4_byteAt_16 : decode cX4_byteAt 16 = .ok (.iload_n 1, 1) := by decide +kernel
theorem dX4_byteAt_17 : decode cX4_byteAt 17 = .ok (.iaload, 1) := by decide +kernel
theorem dX4_byteAt_18 : decode cX4_byteAt 18 = .ok (.goto 4, 3) := by decide +kernel
theorem dX4_byteAt_21 : decode cX4_byteAt 21 = .ok (.iconst (-1), 1) := by decide +kernel
theorem dX4_byteAt_22 : decode cX4_byteAt 22 = .ok (.ireturn, 1) := by decide +kernel
theorem dX4_isLetter_0 : decode cX4_isLetter 0 = .ok (.aload_n 0, 1) := by decide +kernel
theorem dX4_isLetter_1 : decode cX4_isLetter 1 = .ok (.iload_n 1, 1) := by decide +kernel
theorem dX4_isLetter_2 : decode cX4_isLetter 2 = .ok (.invokevirtual 23, 3) := by decide +kernel
theorem dX4_isLetter_5 : decode cX4_isLetter 5 = .ok (.bipush 97, 2) := by decide +kernel
theorem dX4_isLetter_7 : decode cX4_isLetter 7 = .ok (.bipush 122, 2) := by decide +kernel
theorem dX4_isLetter_9 : decode cX4_isLetter 9 = .ok (.invokestatic 17, 3) := by decide +kernel
theorem dX4_isLetter_12 : decode cX4_isLetter 12 = .ok (.ireturn, 1) := by decide +kernel
theorem dX4_isDigit_0 : decode cX4_isDigit 0 = .ok (.aload_n 0, 1) := by decide +kernel
theorem dX4_isDigit_1 : decode cX4_isDigit 1 = .ok (.iload_n 1, 1) := by decide +kernel
theorem dX4_isDigit_2 : decode cX4_isDigit 2 = .ok (.invokevirtual 23, 3) := by decide +kernel
theorem dX4_isDigit_5 : decode cX4_isDigit 5 = .ok (.bipush 48, 2) := by decide +kernel
theorem dX4_isDigit_7 : decode cX4_isDigit 7 = .ok (.bipush 57, 2) := by decide +kernel
theorem dX4_isDigit_9 : decode cX4_isDigit 9 = .ok (.invokestatic 17, 3) := by decide +kernel
theorem dX4_isDigit_12 : decode cX4_isDigit 12 = .ok (.ireturn, 1) := by decide +kernel
theorem dX4_isWordAt_0 : decode cX4_isWordAt 0 = .ok (.iload_n 2, 1) := by decide +kernel
theorem dX4_isWordAt_1 : decode cX4_isWordAt 1 = .ok (.iload_n 1, 1) := by decide +kernel
theorem dX4_isWordAt_2 : decode cX4_isWordAt 2 = .ok (.isub, 1) := by decide +kernel
theorem dX4_isWordAt_3 : decode cX4_isWordAt 3 = .ok (.aload_n 3, 1) := by decide +kernel
theorem dX4_isWordAt_4 : decode cX4_isWordAt 4 = .ok (.invokevirtual 27, 3) := by decide +kernel
theorem dX4_isWordAt_7 : decode cX4_isWordAt 7 = .ok (.if_icmp .eq 5, 3) := by decide +kernel
theorem dX4_isWordAt_10 : decode cX4_isWordAt 10 = .ok (.iconst 0, 1) := by decide +kernel
theorem dX4_isWordAt_11 : decode cX4_isWordAt 11 = .ok (.ireturn, 1) := by decide +kernel
theorem dX4_isWordAt_12 : decode cX4_isWordAt 12 = .ok (.iconst 0, 1) := by decide +kernel
theorem dX4_isWordAt_13 : decode cX4_isWordAt 13 = .ok (.istore 4, 2) := by decide +kernel
theorem dX4_isWordAt_15 : decode cX4_isWordAt 15 = .ok (.iload 4, 2) := by decide +kernel
theorem dX4_isWordAt_17 : decode cX4_isWordAt 17 = .ok (.aload_n 3, 1) := by decide +kernel
theorem dX4_isWordAt_18 : decode cX4_isWordAt 18 = .ok (.invokevirtual 27, 3) := by decide +kernel
theorem dX4_isWordAt_21 : decode cX4_isWordAt 21 = .ok (.if_icmp .ge 28, 3) := by decide +kernel
theorem dX4_isWordAt_24 : decode cX4_isWordAt 24 = .ok (.aload_n 0, 1) := by decide +kernel
theorem dX4_isWordAt_25 : decode cX4_isWordAt 25 = .ok (.iload_n 1, 1) := by decide +kernel
theorem dX4_isWordAt_26 : decode cX4_isWordAt 26 = .ok (.iload 4, 2) := by decide +kernel
theorem dX4_isWordAt_28 : decode cX4_isWordAt 28 = .ok (.iadd, 1) := by decide +kernel
theorem dX4_isWordAt_29 : decode cX4_isWordAt 29 = .ok (.invokevirtual 23, 3) := by decide +kernel
theorem dX4_isWordAt_32 : decode cX4_isWordAt 32 = .ok (.aload_n 3, 1) := by decide +kernel
theorem dX4_isWordAt_33 : decode cX4_isWordAt 33 = .ok (.iload 4, 2) := by decide +kernel
theorem dX4_isWordAt_35 : decode cX4_isWordAt 35 = .ok (.invokevirtual 33, 3) := by decide +kernel
theorem dX4_isWordAt_38 : decode cX4_isWordAt 38 = .ok (.if_icmp .eq 5, 3) := by decide +kernel
theorem dX4_isWordAt_41 : decode cX4_isWordAt 41 = .ok (.iconst 0, 1) := by decide +kernel
theorem dX4_isWordAt_42 : decode cX4_isWordAt 42 = .ok (.ireturn, 1) := by decide +kernel
theorem dX4_isWordAt_43 : decode cX4_isWordAt 43 = .ok (.iinc 4 1, 3) := by decide +kernel
theorem dX4_isWordAt_46 : decode cX4_isWordAt 46 = .ok (.goto (-31), 3) := by decide +kernel
theorem dX4_isWordAt_49 : decode cX4_isWordAt 49 = .ok (.iconst 1, 1) := by decide +kernel
theorem dX4_isWordAt_50 : decode cX4_isWordAt 50 = .ok (.ireturn, 1) := by decide +kernel
theorem dX5_init_0 : decode cX5_init 0 = .ok (.aload_n 0, 1) := by decide +kernel
theorem dX5_init_1 : decode cX5_init 1 = .ok (.invokespecial 3, 3) := by decide +kernel
theorem dX5_init_4 : decode cX5_init 4 = .ok (.aload_n 0, 1) := by decide +kernel
theorem dX5_init_5 : decode cX5_init 5 = .ok (.aload_n 1, 1) := by decide +kernel
theorem dX5_init_6 : decode cX5_init 6 = .ok (.putfield 9, 3) := by decide +kernel
theorem dX5_init_9 : decode cX5_init 9 = .ok (.return_, 1) := by decide +kernel
theorem dX5_read_0 : decode cX5_read 0 = .ok (.aload_n 0, 1) := by decide +kernel
theorem dX5_read_1 : decode cX5_read 1 = .ok (.iconst 0, 1) := by decide +kernel
theorem dX5_read_2 : decode cX5_read 2 = .ok (.putfield 15, 3) := by decide +kernel
theorem dX5_read_5 : decode cX5_read 5 = .ok (.aload_n 1, 1) := by decide +kernel
theorem dX5_read_6 : decode cX5_read 6 = .ok (.iconst 0, 1) := by decide +kernel
theorem dX5_read_7 : decode cX5_read 7 = .ok (.putfield 19, 3) := by decide +kernel
theorem dX5_read_10 : decode cX5_read 10 = .ok (.aload_n 0, 1) := by decide +kernel
theorem dX5_read_11 : decode cX5_read 11 = .ok (.invokevirtual 24, 3) := by decide +kernel
theorem dX5_read_14 : decode cX5_read 14 = .ok (.iconst 0, 1) := by decide +kernel
theorem dX5_read_15 : decode cX5_read 15 = .ok (.istore_n 2, 1) := by decide +kernel
theorem dX5_read_16 : decode cX5_read 16 = .ok (.iload_n 2, 1) := by decide +kernel
theorem dX5_read_17 : decode cX5_read 17 = .ok (.bipush 12, 2) := by decide +kernel
theorem dX5_read_19 : decode cX5_read 19 = .ok (.if_icmp .ge 56, 3) := by decide +kernel
theorem dX5_read_22 : decode cX5_read 22 = .ok (.aload_n 0, 1) := by decide +kernel
theorem dX5_read_23 : decode cX5_read 23 = .ok (.aload_n 1, 1) := by decide +kernel
theorem dX5_read_24 : decode cX5_read 24 = .ok (.invokevirtual 27, 3) := by decide +kernel
theorem dX5_read_27 : decode cX5_read 27 = .ok (.ifCond .ne 8, 3) := by decide +kernel
theorem dX5_read_30 : decode cX5_read 30 = .ok (.aload_n 0, 1) := by decide +kernel
theorem dX5_read_31 : decode cX5_read 31 = .ok (.getfield 31, 3) := by decide +kernel
theorem dX5_read_34 : decode cX5_read 34 = .ok (.ireturn, 1) := by decide +kernel
theorem dX5_read_35 : decode cX5_read 35 = .ok (.aload_n 0, 1) := by decide +kernel
theorem dX5_read_36 : decode cX5_read 36 = .ok (.getfield 31, 3) := by decide +kernel
theorem dX5_read_39 : decode cX5_read 39 = .ok (.aload_n 0, 1) := by decide +kernel
theorem dX5_read_40 : decode cX5_read 40 = .ok (.getfield 9, 3) := by decide +kernel
theorem dX5_read_43 : decode cX5_read 43 = .ok (.getfield 34, 3) := by decide +kernel
theorem dX5_read_46 : decode cX5_read 46 = .ok (.if_icmp .ne 5, 3) := by decide +kernel
theorem dX5_read_49 : decode cX5_read 49 = .ok (.iconst (-1), 1) := by decide +kernel
theorem dX5_read_50 : decode cX5_read 50 = .ok (.ireturn, 1) := by decide +kernel
theorem dX5_read_51 : decode cX5_read 51 = .ok (.aload_n 0, 1) := by decide +kernel
theorem dX5_read_52 : decode cX5_read 52 = .ok (.bipush 59, 2) := by decide +kernel
theorem dX5_read_54 : decode cX5_read 54 = .ok (.invokevirtual 37, 3) := by decide +kernel
theorem dX5_read_57 : decode cX5_read 57 = .ok (.ifCond .ne 8, 3) := by decide +kernel
theorem dX5_read_60 : decode cX5_read 60 = .ok (.aload_n 0, 1) := by decide +kernel
theorem dX5_read_61 : decode cX5_read 61 = .ok (.getfield 31, 3) := by decide +kernel
theorem dX5_read_64 : decode cX5_read 64 = .ok (.ireturn, 1) := by decide +kernel
theorem dX5_read_65 : decode cX5_read 65 = .ok (.aload_n 0, 1) := by decide +kernel
theorem dX5_read_66 : decode cX5_read 66 = .ok (.invokevirtual 24, 3) := by decide +kernel
theorem dX5_read_69 : decode cX5_read 69 = .ok (.iinc 2 1, 3) := by decide +kernel
theorem dX5_read_72 : decode cX5_read 72 = .ok (.goto (-56), 3) := by decide +kernel
theorem dX5_read_75 : decode cX5_read 75 = .ok (.aload_n 0, 1) := by decide +kernel
theorem dX5_read_76 : decode cX5_read 76 = .ok (.getfield 31, 3) := by decide +kernel
theorem dX5_read_79 : decode cX5_read 79 = .ok (.ireturn, 1) := by decide +kernel
theorem dX5_readDeed_0 : decode cX5_readDeed 0 = .ok (.aload_n 0, 1) := by decide +kernel
theorem dX5_readDeed_1 : decode cX5_readDeed 1 = .ok (.getfield 41, 3) := by decide +kernel
theorem dX5_readDeed_4 : decode cX5_readDeed 4 = .ok (.istore_n 2, 1) := by decide +kernel
theorem dX5_readDeed_5 : decode cX5_readDeed 5 = .ok (.aload_n 0, 1) := by decide +kernel
theorem dX5_readDeed_6 : decode cX5_readDeed 6 = .ok (.getfield 44, 3) := by decide +kernel
theorem dX5_readDeed_9 : decode cX5_readDeed 9 = .ok (.ifCond .ne 8, 3) := by decide +kernel
theorem dX5_readDeed_12 : decode cX5_readDeed 12 = .ok (.iload_n 2, 1) := by decide +kernel
theorem dX5_readDeed_13 : decode cX5_readDeed 13 = .ok (.iconst (-1), 1) := by decide +kernel
theorem dX5_readDeed_14 : decode cX5_readDeed 14 = .ok (.if_icmp .ne 5, 3) := by decide +kernel
theorem dX5_readDeed_17 : decode cX5_readDeed 17 = .ok (.iconst 0, 1) := by decide +kernel
theorem dX5_readDeed_18 : decode cX5_readDeed 18 = .ok (.ireturn, 1) := by decide +kernel
theorem dX5_readDeed_19 : decode cX5_readDeed 19 = .ok (.aload_n 0, 1) := by decide +kernel
theorem dX5_readDeed_20 : decode cX5_readDeed 20 = .ok (.invokevirtual 24, 3) := by decide +kernel
theorem dX5_readDeed_23 : decode cX5_readDeed 23 = .ok (.iload_n 2, 1) := by decide +kernel
theorem dX5_readDeed_24 : decode cX5_readDeed 24 = .ok (.bipush 11, 2) := by decide +kernel
theorem dX5_readDeed_26 : decode cX5_readDeed 26 = .ok (.if_icmp .ne 16, 3) := by decide +kernel
theorem dX5_readDeed_29 : decode cX5_readDeed 29 = .ok (.aload_n 0, 1) := by decide +kernel
theorem dX5_readDeed_30 : decode cX5_readDeed 30 = .ok (.bipush 45, 2) := by decide +kernel
theorem dX5_readDeed_32 : decode cX5_readDeed 32 = .ok (.invokevirtual 37, 3) := by decide +kernel
theorem dX5_readDeed_35 : decode cX5_readDeed 35 = .ok (.ifCond .eq 7, 3) := by decide +kernel
theorem dX5_readDeed_38 : decode cX5_readDeed 38 = .ok (.iconst 1, 1) := by decide +kernel
theorem dX5_readDeed_39 : decode cX5_readDeed 39 = .ok (.goto 4, 3) := by decide +kernel
theorem dX5_readDeed_42 : decode cX5_readDeed 42 = .ok (.iconst 0, 1) := by decide +kernel
theorem dX5_readDeed_43 : decode cX5_readDeed 43 = .ok (.istore_n 3, 1) := by decide +kernel
theorem dX5_readDeed_44 : decode cX5_readDeed 44 = .ok (.iload_n 3, 1) := by decide +kernel
theorem dX5_readDeed_45 : decode cX5_readDeed 45 = .ok (.ifCond .eq 7, 3) := by decide +kernel
theorem dX5_readDeed_48 : decode cX5_readDeed 48 = .ok (.aload_n 0, 1) := by decide +kernel
theorem dX5_readDeed_49 : decode cX5_readDeed 49 = .ok (.invokevirtual 24, 3) := by decide +kernel
theorem dX5_readDeed_52 : decode cX5_readDeed 52 = .ok (.aload_n 0, 1) := by decide +kernel
theorem dX5_readDeed_53 : decode cX5_readDeed 53 = .ok (.getfield 44, 3) := by decide +kernel
theorem dX5_readDeed_56 : decode cX5_readDeed 56 = .ok (.iconst 1, 1) := by decide +kernel
theorem dX5_readDeed_57 : decode cX5_readDeed 57 = .ok (.if_icmp .ne 14, 3) := by decide +kernel
theorem dX5_readDeed_60 : decode cX5_readDeed 60 = .ok (.iload_n 2, 1) := by decide +kernel
theorem dX5_readDeed_61 : decode cX5_readDeed 61 = .ok (.aload_n 0, 1) := by decide +kernel
theorem dX5_readDeed_62 : decode cX5_readDeed 62 = .ok (.getfield 41, 3) := by decide +kernel
theorem dX5_readDeed_65 : decode cX5_readDeed 65 = .ok (.invokestatic 47, 3) := by decide +kernel
theorem dX5_readDeed_68 : decode cX5_readDeed 68 = .ok (.ifCond .ne 5, 3) := by decide +kernel
theorem dX5_readDeed_71 : decode cX5_readDeed 71 = .ok (.iconst 0, 1) := by decide +kernel
theorem dX5_readDeed_72 : decode cX5_readDeed 72 = .ok (.ireturn, 1) := by decide +kernel
theorem dX5_readDeed_73 : decode cX5_readDeed 73 = .ok (.aload_n 1, 1) := by decide +kernel
theorem dX5_readDeed_74 : decode cX5_readDeed 74 = .ok (.iload_n 2, 1) := by decide +kernel
theorem dX5_readDeed_75 : decode cX5_readDeed 75 = .ok (.iload_n 3, 1) := by decide +kernel
theorem dX5_readDeed_76 : decode cX5_readDeed 76 = .ok (.ifCond .eq 11, 3) := by decide +kernel
theorem dX5_readDeed_79 : decode cX5_readDeed 79 = .ok (.aload_n 0, 1) := by decide +kernel
theorem dX5_readDeed_80 : decode cX5_readDeed 80 = .ok (.getfield 41, 3) := by decide +kernel
theorem dX5_readDeed_83 : decode cX5_readDeed 83 = .ok (.ineg, 1) := by decide +kernel
theorem dX5_readDeed_84 : decode cX5_readDeed 84 = .ok (.goto 7, 3) := by decide +kernel
theorem dX5_readDeed_87 : decode cX5_readDeed 87 = .ok (.aload_n 0, 1) := by decide +kernel
theorem dX5_readDeed_88 : decode cX5_readDeed 88 = .ok (.getfield 41, 3) := by decide +kernel
theorem dX5_readDeed_91 : decode cX5_readDeed 91 = .ok (.invokevirtual 51, 3) := by decide +kernel
theorem dX5_readDeed_94 : decode cX5_readDeed 94 = .ok (.aload_n 0, 1) := by decide +kernel
theorem dX5_readDeed_95 : decode cX5_readDeed 95 = .ok (.invokevirtual 24, 3) := by decide +kernel
theorem dX5_readDeed_98 : decode cX5_readDeed 98 = .ok (.iconst 1, 1) := by decide +kernel
theorem dX5_readDeed_99 : decode cX5_readDeed 99 = .ok (.ireturn, 1) := by decide +kernel
theorem dX5_isSign_0 : decode cX5_isSign 0 = .ok (.aload_n 0, 1) := by decide +kernel
theorem dX5_isSign_1 : decode cX5_isSign 1 = .ok (.getfield 44, 3) := by decide +kernel
theorem dX5_isSign_4 : decode cX5_isSign 4 = .ok (.iconst 2, 1) := by decide +kernel
theorem dX5_isSign_5 : decode cX5_isSign 5 = .ok (.if_icmp .ne 15, 3) := by decide +kernel
theorem dX5_isSign_8 : decode cX5_isSign 8 = .ok (.aload_n 0, 1) := by decide +kernel
theorem dX5_isSign_9 : decode cX5_isSign 9 = .ok (.getfield 41, 3) := by decide +kernel
theorem dX5_isSign_12 : decode cX5_isSign 12 = .ok (.iload_n 1, 1) := by decide +kernel
theorem dX5_isSign_13 : decode cX5_isSign 13 = .ok (.if_icmp .ne 7, 3) := by decide +kernel
theorem dX5_isSign_16 : decode cX5_isSign 16 = .ok (.iconst 1, 1) := by decide +kernel
theorem dX5_isSign_17 : decode cX5_isSign 17 = .ok (.goto 4, 3) := by decide +kernel
theorem dX5_isSign_20 : decode cX5_isSign 20 = .ok (.iconst 0, 1) := by decide +kernel
theorem dX5_isSign_21 : decode cX5_isSign 21 = .ok (.ireturn, 1) := by decide +kernel
theorem dX5_next_0 : decode cX5_next 0 = .ok (.aload_n 0, 1) := by decide +kernel
theorem dX5_next_1 : decode cX5_next 1 = .ok (.aload_n 0, 1) := by decide +kernel
theorem dX5_next_2 : decode cX5_next 2 = .ok (.getfield 15, 3) := by decide +kernel
theorem dX5_next_5 : decode cX5_next 5 = .ok (.putfield 31, 3) := by decide +kernel
theorem dX5_next_8 : decode cX5_next 8 = .ok (.aload_n 0, 1) := by decide +kernel
theorem dX5_next_9 : decode cX5_next 9 = .ok (.getfield 31, 3) := by decide +kernel
theorem dX5_next_12 : decode cX5_next 12 = .ok (.aload_n 0, 1) := by decide +kernel
theorem dX5_next_13 : decode cX5_next 13 = .ok (.getfield 9, 3) := by decide +kernel
theorem dX5_next_16 : decode cX5_next 16 = .ok (.getfield 34, 3) := by decide +kernel
theorem dX5_next_19 : decode cX5_next 19 = .ok (.if_icmp .ge 32, 3) := by decide +kernel
theorem dX5_next_22 : decode cX5_next 22 = .ok (.aload_n 0, 1) := by decide +kernel
theorem dX5_next_23 : decode cX5_next 23 = .ok (.getfield 9, 3) := by decide +kernel
theorem dX5_next_26 : decode cX5_next 26 = .ok (.aload_n 0, 1) := by decide +kernel
theorem dX5_next_27 : decode cX5_next 27 = .ok (.getfield 31, 3) := by decide +kernel
theorem dX5_next_30 : decode cX5_next 30 = .ok (.invokevirtual 55, 3) := by decide +kernel
theorem dX5_next_33 : decode cX5_next 33 = .ok (.bipush 32, 2) := by decide +kernel
theorem dX5_next_35 : decode cX5_next 35 = .ok (.if_icmp .ne 16, 3) := by decide +kernel
theorem dX5_next_38 : decode cX5_next 38 = .ok (.aload_n 0, 1) := by decide +kernel
theorem dX5_next_39 : decode cX5_next 39 = .ok (.dup, 1) := by decide +kernel
theorem dX5_next_40 : decode cX5_next 40 = .ok (.getfield 31, 3) := by decide +kernel
theorem dX5_next_43 : decode cX5_next 43 = .ok (.iconst 1, 1) := by decide +kernel
theorem dX5_next_44 : decode cX5_next 44 = .ok (.iadd, 1) := by decide +kernel
theorem dX5_next_45 : decode cX5_next 45 = .ok (.putfield 31, 3) := by decide +kernel
theorem dX5_next_48 : decode cX5_next 48 = .ok (.goto (-40), 3) := by decide +kernel
theorem dX5_next_51 : decode cX5_next 51 = .ok (.aload_n 0, 1) := by decide +kernel
theorem dX5_next_52 : decode cX5_next 52 = .ok (.aload_n 0, 1) := by decide +kernel
theorem dX5_next_53 : decode cX5_next 53 = .ok (.getfield 31, 3) := by decide +kernel
theorem dX5_next_56 : decode cX5_next 56 = .ok (.putfield 15, 3) := by decide +kernel
theorem dX5_next_59 : decode cX5_next 59 = .ok (.aload_n 0, 1) := by decide +kernel
theorem dX5_next_60 : decode cX5_next 60 = .ok (.getfield 9, 3) := by decide +kernel
theorem dX5_next_63 : decode cX5_next 63 = .ok (.aload_n 0, 1) := by decide +kernel
theorem dX5_next_64 : decode cX5_next 64 = .ok (.getfield 31, 3) := by decide +kernel
theorem dX5_next_67 : decode cX5_next 67 = .ok (.invokevirtual 59, 3) := by decide +kernel
theorem dX5_next_70 : decode cX5_next 70 = .ok (.ifCond .eq 10, 3) := by decide +kernel
theorem dX5_next_73 : decode cX5_next 73 = .ok (.aload_n 0, 1) := by decide +kernel
theorem dX5_next_74 : decode cX5_next 74 = .ok (.invokevirtual 63, 3) := by decide +kernel
theorem dX5_next_77 : decode cX5_next 77 = .ok (.goto 28, 3) := by decide +kernel
theorem dX5_next_80 : decode cX5_next 80 = .ok (.aload_n 0, 1) := by decide +kernel
theorem dX5_next_81 : decode cX5_next 81 = .ok (.getfield 9, 3) := by decide +kernel
theorem dX5_next_84 : decode cX5_next 84 = .ok (.aload_n 0, 1) := by decide +kernel
theorem dX5_next_85 : decode cX5_next 85 = .ok (.getfield 31, 3) := by decide +kernel
theorem dX5_next_88 : decode cX5_next 88 = .ok (.invokevirtual 66, 3) := by decide +kernel
theorem dX5_next_91 : decode cX5_next 91 = .ok (.ifCond .eq 10, 3) := by decide +kernel
theorem dX5_next_94 : decode cX5_next 94 = .ok (.aload_n 0, 1) := by decide +kernel
theorem dX5_next_95 : decode cX5_next 95 = .ok (.invokevirtual 69, 3) := by decide +kernel
theorem dX5_next_98 : decode cX5_next 98 = .ok (.goto 7, 3) := by decide +kernel
theorem dX5_next_101 : decode cX5_next 101 = .ok (.aload_n 0, 1) := by decide +kernel
theorem dX5_next_102 : decode cX5_next 102 = .ok (.invokevirtual 72, 3) := by decide +kernel
theorem dX5_next_105 : decode cX5_next 105 = .ok (.return_, 1) := by decide +kernel
theorem dX5_readWord_0 : decode cX5_readWord 0 = .ok (.aload_n 0, 1) := by decide +kernel
theorem dX5_readWord_1 : decode cX5_readWord 1 = .ok (.getfield 15, 3) := by decide +kernel
theorem dX5_readWord_4 : decode cX5_readWord 4 = .ok (.aload_n 0, 1) := by decide +kernel
theorem dX5_readWord_5 : decode cX5_readWord 5 = .ok (.getfield 9, 3) := by decide +kernel
theorem dX5_readWord_8 : decode cX5_readWord 8 = .ok (.getfield 34, 3) := by decide +kernel
theorem dX5_readWord_11 : decode cX5_readWord 11 = .ok (.if_icmp .ge 30, 3) := by decide +kernel
theorem dX5_readWord_14 : decode cX5_readWord 14 = .ok (.aload_n 0, 1) := by decide +kernel
theorem dX5_readWord_15 : decode cX5_readWord 15 = .ok (.getfield 9, 3) := by decide +kernel
theorem dX5_readWord_18 : decode cX5_readWord 18 = .ok (.aload_n 0, 1) := by decide +kernel
theorem dX5_readWord_19 : decode cX5_readWord 19 = .ok (.getfield 15, 3) := by decide +kernel
theorem dX5_readWord_22 : decode cX5_readWord 22 = .ok (.invokevirtual 59, 3) := by decide +kernel
theorem dX5_readWord_25 : decode cX5_readWord 25 = .ok (.ifCond .eq 16, 3) := by decide +kernel
theorem dX5_readWord_28 : decode cX5_readWord 28 = .ok (.aload_n 0, 1) := by decide +kernel
theorem dX5_readWord_29 : decode cX5_readWord 29 = .ok (.dup, 1) := by decide +kernel
theorem dX5_readWord_30 : decode cX5_readWord 30 = .ok (.getfield 15, 3) := by decide +kernel
theorem dX5_readWord_33 : decode cX5_readWord 33 = .ok (.iconst 1, 1) := by decide +kernel
theorem dX5_readWord_34 : decode cX5_readWord 34 = .ok (.iadd, 1) := by decide +kernel
theorem dX5_readWord_35 : decode cX5_readWord 35 = .ok (.putfield 15, 3) := by decide +kernel
theorem dX5_readWord_38 : decode cX5_readWord 38 = .ok (.goto (-38), 3) := by decide +kernel
theorem dX5_readWord_41 : decode cX5_readWord 41 = .ok (.aload_n 0, 1) := by decide +kernel
theorem dX5_readWord_42 : decode cX5_readWord 42 = .ok (.iconst 0, 1) := by decide +kernel
theorem dX5_readWord_43 : decode cX5_readWord 43 = .ok (.putfield 44, 3) := by decide +kernel
theorem dX5_readWord_46 : decode cX5_readWord 46 = .ok (.aload_n 0, 1) := by decide +kernel
theorem dX5_readWord_47 : decode cX5_readWord 47 = .ok (.iconst (-1), 1) := by decide +kernel
theorem dX5_readWord_48 : decode cX5_readWord 48 = .ok (.putfield 41, 3) := by decide +kernel
theorem dX5_readWord_51 : decode cX5_readWord 51 = .ok (.iconst 0, 1) := by decide +kernel
theorem dX5_readWord_52 : decode cX5_readWord 52 = .ok (.istore_n 1, 1) := by decide +kernel
theorem dX5_readWord_53 : decode cX5_readWord 53 = .ok (.iload_n 1, 1) := by decide +kernel
theorem dX5_readWord_54 : decode cX5_readWord 54 = .ok (.bipush 13, 2) := by decide +kernel
theorem dX5_readWord_56 : decode cX5_readWord 56 = .ok (.if_icmp .ge 36, 3) := by decide +kernel
theorem dX5_readWord_59 : decode cX5_readWord 59 = .ok (.aload_n 0, 1) := by decide +kernel
theorem dX5_readWord_60 : decode cX5_readWord 60 = .ok (.getfield 9, 3) := by decide +kernel
theorem dX5_readWord_63 : decode cX5_readWord 63 = .ok (.aload_n 0, 1) := by decide +kernel
theorem dX5_readWord_64 : decode cX5_readWord 64 = .ok (.getfield 31, 3) := by decide +kernel
theorem dX5_readWord_67 : decode cX5_readWord 67 = .ok (.aload_n 0, 1) := by decide +kernel
theorem dX5_readWord_68 : decode cX5_readWord 68 = .ok (.getfield 15, 3) := by decide +kernel
theorem dX5_readWord_71 : decode cX5_readWord 71 = .ok (.iload_n 1, 1) := by decide +kernel
theorem dX5_readWord_72 : decode cX5_readWord 72 = .ok (.invokestatic 75, 3) := by decide +kernel
theorem dX5_readWord_75 : decode cX5_readWord 75 = .ok (.invokevirtual 79, 3) := by decide +kernel
theorem dX5_readWord_78 : decode cX5_readWord 78 = .ok (.ifCond .eq 8, 3) := by decide +kernel
theorem dX5_readWord_81 : decode cX5_readWord 81 = .ok (.aload_n 0, 1) := by decide +kernel
theorem dX5_readWord_82 : decode cX5_readWord 82 = .ok (.iload_n 1, 1) := by decide +kernel
theorem dX5_readWord_83 : decode cX5_readWord 83 = .ok (.putfield 41, 3) := by decide +kernel
theorem dX5_readWord_86 : decode cX5_readWord 86 = .ok (.iinc 1 1, 3) := by decide +kernel
theorem dX5_readWord_89 : decode cX5_readWord 89 = .ok (.goto (-36), 3) := by decide +kernel
theorem dX5_readWord_92 : decode cX5_readWord 92 = .ok (.return_, 1) := by decide +kernel
theorem dX5_readNumber_0 : decode cX5_readNumber 0 = .ok (.aload_n 0, 1) := by decide +kernel
theorem dX5_readNumber_1 : decode cX5_readNumber 1 = .ok (.iconst 1, 1) := by decide +kernel
theorem dX5_readNumber_2 : decode cX5_readNumber 2 = .ok (.putfield 44, 3) := by decide +kernel
theorem dX5_readNumber_5 : decode cX5_readNumber 5 = .ok (.aload_n 0, 1) := by decide +kernel
theorem dX5_readNumber_6 : decode cX5_readNumber 6 = .ok (.iconst 0, 1) := by decide +kernel
theorem dX5_readNumber_7 : decode cX5_readNumber 7 = .ok (.putfield 41, 3) := by decide +kernel
theorem dX5_readNumber_10 : decode cX5_readNumber 10 = .ok (.aload_n 0, 1) := by decide +kernel
theorem dX5_readNumber_11 : decode cX5_readNumber 11 = .ok (.getfield 15, 3) := by decide +kernel
theorem dX5_readNumber_14 : decode cX5_readNumber 14 = .ok (.aload_n 0, 1) := by decide +kernel
theorem dX5_readNumber_15 : decode cX5_readNumber 15 = .ok (.getfield 9, 3) := by decide +kernel
theorem dX5_readNumber_18 : decode cX5_readNumber 18 = .ok (.getfield 34, 3) := by decide +kernel
theorem dX5_readNumber_21 : decode cX5_readNumber 21 = .ok (.if_icmp .ge 62, 3) := by decide +kernel
theorem dX5_readNumber_24 : decode cX5_readNumber 24 = .ok (.aload_n 0, 1) := by decide +kernel
theorem dX5_readNumber_25 : decode cX5_readNumber 25 = .ok (.getfield 9, 3) := by decide +kernel
theorem dX5_readNumber_28 : decode cX5_readNumber 28 = .ok (.aload_n 0, 1) := by decide +kernel
theorem dX5_readNumber_29 : decode cX5_readNumber 29 = .ok (.getfield 15, 3) := by decide +kernel
theorem dX5_readNumber_32 : decode cX5_readNumber 32 = .ok (.invokevirtual 66, 3) := by decide +kernel
theorem dX5_readNumber_35 : decode cX5_readNumber 35 = .ok (.ifCond .eq 48, 3) := by decide +kernel
theorem dX5_readNumber_38 : decode cX5_readNumber 38 = .ok (.aload_n 0, 1) := by decide +kernel
theorem dX5_readNumber_39 : decode cX5_readNumber 39 = .ok (.aload_n 0, 1) := by decide +kernel
theorem dX5_readNumber_40 : decode cX5_readNumber 40 = .ok (.getfield 41, 3) := by decide +kernel
theorem dX5_readNumber_43 : decode cX5_readNumber 43 = .ok (.bipush 10, 2) := by decide +kernel
theorem dX5_readNumber_45 : decode cX5_readNumber 45 = .ok (.imul, 1) := by decide +kernel
theorem dX5_readNumber_46 : decode cX5_readNumber 46 = .ok (.aload_n 0, 1) := by decide +kernel
theorem dX5_readNumber_47 : decode cX5_readNumber 47 = .ok (.getfield 9, 3) := by decide +kernel
theorem dX5_readNumber_50 : decode cX5_readNumber 50 = .ok (.aload_n 0, 1) := by decide +kernel
theorem dX5_readNumber_51 : decode cX5_readNumber 51 = .ok (.getfield 15, 3) := by decide +kernel
theorem dX5_readNumber_54 : decode cX5_readNumber 54 = .ok (.invokevirtual 55, 3) := by decide +kernel
theorem dX5_readNumber_57 : decode cX5_readNumber 57 = .ok (.iadd, 1) := by decide +kernel
theorem dX5_readNumber_58 : decode cX5_readNumber 58 = .ok (.bipush 48, 2) := by decide +kernel
theorem dX5_readNumber_60 : decode cX5_readNumber 60 = .ok (.isub, 1) := by decide +kernel
theorem dX5_readNumber_61 : decode cX5_readNumber 61 = .ok (.sipush 1000, 3) := by decide +kernel
theorem dX5_readNumber_64 : decode cX5_readNumber 64 = .ok (.invokestatic 83, 3) := by decide +kernel
theorem dX5_readNumber_67 : decode cX5_readNumber 67 = .ok (.putfield 41, 3) := by decide +kernel
theorem dX5_readNumber_70 : decode cX5_readNumber 70 = .ok (.aload_n 0, 1) := by decide +kernel
theorem dX5_readNumber_71 : decode cX5_readNumber 71 = .ok (.dup, 1) := by decide +kernel
theorem dX5_readNumber_72 : decode cX5_readNumber 72 = .ok (.getfield 15, 3) := by decide +kernel
theorem dX5_readNumber_75 : decode cX5_readNumber 75 = .ok (.iconst 1, 1) := by decide +kernel
theorem dX5_readNumber_76 : decode cX5_readNumber 76 = .ok (.iadd, 1) := by decide +kernel
theorem dX5_readNumber_77 : decode cX5_readNumber 77 = .ok (.putfield 15, 3) := by decide +kernel
theorem dX5_readNumber_80 : decode cX5_readNumber 80 = .ok (.goto (-70), 3) := by decide +kernel
theorem dX5_readNumber_83 : decode cX5_readNumber 83 = .ok (.return_, 1) := by decide +kernel
theorem dX5_readSign_0 : decode cX5_readSign 0 = .ok (.aload_n 0, 1) := by decide +kernel
theorem dX5_readSign_1 : decode cX5_readSign 1 = .ok (.aload_n 0, 1) := by decide +kernel
theorem dX5_readSign_2 : decode cX5_readSign 2 = .ok (.getfield 9, 3) := by decide +kernel
theorem dX5_readSign_5 : decode cX5_readSign 5 = .ok (.aload_n 0, 1) := by decide +kernel
theorem dX5_readSign_6 : decode cX5_readSign 6 = .ok (.getfield 31, 3) := by decide +kernel
theorem dX5_readSign_9 : decode cX5_readSign 9 = .ok (.invokevirtual 55, 3) := by decide +kernel
theorem dX5_readSign_12 : decode cX5_readSign 12 = .ok (.putfield 41, 3) := by decide +kernel
theorem dX5_readSign_15 : decode cX5_readSign 15 = .ok (.aload_n 0, 1) := by decide +kernel
theorem dX5_readSign_16 : decode cX5_readSign 16 = .ok (.aload_n 0, 1) := by decide +kernel
theorem dX5_readSign_17 : decode cX5_readSign 17 = .ok (.getfield 41, 3) := by decide +kernel
theorem dX5_readSign_20 : decode cX5_readSign 20 = .ok (.bipush 59, 2) := by decide +kernel
theorem dX5_readSign_22 : decode cX5_readSign 22 = .ok (.if_icmp .eq 12, 3) := by decide +kernel
theorem dX5_readSign_25 : decode cX5_readSign 25 = .ok (.aload_n 0, 1) := by decide +kernel
theorem dX5_readSign_26 : decode cX5_readSign 26 = .ok (.getfield 41, 3) := by decide +kernel
theorem dX5_readSign_29 : decode cX5_readSign 29 = .ok (.bipush 45, 2) := by decide +kernel
theorem dX5_readSign_31 : decode cX5_readSign 31 = .ok (.if_icmp .ne 7, 3) := by decide +kernel
theorem dX5_readSign_34 : decode cX5_readSign 34 = .ok (.iconst 2, 1) := by decide +kernel
theorem dX5_readSign_35 : decode cX5_readSign 35 = .ok (.goto 4, 3) := by decide +kernel
theorem dX5_readSign_38 : decode cX5_readSign 38 = .ok (.iconst 3, 1) := by decide +kernel
theorem dX5_readSign_39 : decode cX5_readSign 39 = .ok (.putfield 44, 3) := by decide +kernel
theorem dX5_readSign_42 : decode cX5_readSign 42 = .ok (.aload_n 0, 1) := by decide +kernel
theorem dX5_readSign_43 : decode cX5_readSign 43 = .ok (.getfield 44, 3) := by decide +kernel
theorem dX5_readSign_46 : decode cX5_readSign 46 = .ok (.iconst 2, 1) := by decide +kernel
theorem dX5_readSign_47 : decode cX5_readSign 47 = .ok (.if_icmp .ne 13, 3) := by decide +kernel
theorem dX5_readSign_50 : decode cX5_readSign 50 = .ok (.aload_n 0, 1) := by decide +kernel
theorem dX5_readSign_51 : decode cX5_readSign 51 = .ok (.dup, 1) := by decide +kernel
theorem dX5_readSign_52 : decode cX5_readSign 52 = .ok (.getfield 15, 3) := by decide +kernel
theorem dX5_readSign_55 : decode cX5_readSign 55 = .ok (.iconst 1, 1) := by decide +kernel
theorem dX5_readSign_56 : decode cX5_readSign 56 = .ok (.iadd, 1) := by decide +kernel
theorem dX5_readSign_57 : decode cX5_readSign 57 = .ok (.putfield 15, 3) := by decide +kernel
theorem dX5_readSign_60 : decode cX5_readSign 60 = .ok (.return_, 1) := by decide +kernel
theorem dX6_init_0 : decode cX6_init 0 = .ok (.aload_n 0, 1) := by decide +kernel
theorem dX6_init_1 : decode cX6_init 1 = .ok (.invokespecial 3, 3) := by decide +kernel
theorem dX6_init_4 : decode cX6_init 4 = .ok (.aload_n 0, 1) := by decide +kernel
theorem dX6_init_5 : decode cX6_init 5 = .ok (.iconst 4, 1) := by decide +kernel
theorem dX6_init_6 : decode cX6_init 6 = .ok (.newarray .int, 2) := by decide +kernel
theorem dX6_init_8 : decode cX6_init 8 = .ok (.dup, 1) := by decide +kernel
theorem dX6_init_9 : decode cX6_init 9 = .ok (.iconst 0, 1) := by decide +kernel
theorem dX6_init_10 : decode cX6_init 10 = .ok (.bipush 10, 2) := by decide +kernel
theorem dX6_init_12 : decode cX6_init 12 = .ok (.iastore, 1) := by decide +kernel
theorem dX6_init_13 : decode cX6_init 13 = .ok (.dup, 1) := by decide +kernel
theorem dX6_init_14 : decode cX6_init 14 = .ok (.iconst 1, 1) := by decide +kernel
theorem dX6_init_15 : decode cX6_init 15 = .ok (.iconst 5, 1) := by decide +kernel
theorem dX6_init_16 : decode cX6_init 16 = .ok (.iastore, 1) := by decide +kernel
theorem dX6_init_17 : decode cX6_init 17 = .ok (.dup, 1) := by decide +kernel
theorem dX6_init_18 : decode cX6_init 18 = .ok (.iconst 2, 1) := by decide +kernel
theorem dX6_init_19 : decode cX6_init 19 = .ok (.bipush 10, 2) := by decide +kernel
theorem dX6_init_21 : decode cX6_init 21 = .ok (.iastore, 1) := by decide +kernel
theorem dX6_init_22 : decode cX6_init 22 = .ok (.dup, 1) := by decide +kernel
theorem dX6_init_23 : decode cX6_init 23 = .ok (.iconst 3, 1) := by decide +kernel
theorem dX6_init_24 : decode cX6_init 24 = .ok (.bipush 10, 2) := by decide +kernel
theorem dX6_init_26 : decode cX6_init 26 = .ok (.iastore, 1) := by decide +kernel
theorem dX6_init_27 : decode cX6_init 27 = .ok (.putfield 9, 3) := by decide +kernel
theorem dX6_init_30 : decode cX6_init 30 = .ok (.aload_n 0, 1) := by decide +kernel
theorem dX6_init_31 : decode cX6_init 31 = .ok (.bipush 12, 2) := by decide +kernel
theorem dX6_init_33 : decode cX6_init 33 = .ok (.newarray .int, 2) := by decide +kernel
theorem dX6_init_35 : decode cX6_init 35 = .ok (.putfield 15, 3) := by decide +kernel
theorem dX6_init_38 : decode cX6_init 38 = .ok (.aload_n 0, 1) := by decide +kernel
theorem dX6_init_39 : decode cX6_init 39 = .ok (.bipush 12, 2) := by decide +kernel
theorem dX6_init_41 : decode cX6_init 41 = .ok (.newarray .int, 2) := by decide +kernel
theorem dX6_init_43 : decode cX6_init 43 = .ok (.putfield 18, 3) := by decide +kernel
theorem dX6_init_46 : decode cX6_init 46 = .ok (.aload_n 0, 1) := by decide +kernel
theorem dX6_init_47 : decode cX6_init 47 = .ok (.bipush 40, 2) := by decide +kernel
theorem dX6_init_49 : decode cX6_init 49 = .ok (.newarray .int, 2) := by decide +kernel
theorem dX6_init_51 : decode cX6_init 51 = .ok (.putfield 21, 3) := by decide +kernel
theorem dX6_init_54 : decode cX6_init 54 = .ok (.aload_n 0, 1) := by decide +kernel
theorem dX6_init_55 : decode cX6_init 55 = .ok (.bipush 40, 2) := by decide +kernel
theorem dX6_init_57 : decode cX6_init 57 = .ok (.newarray .int, 2) := by decide +kernel
theorem dX6_init_59 : decode cX6_init 59 = .ok (.putfield 24, 3) := by decide +kernel
theorem dX6_init_62 : decode cX6_init 62 = .ok (.return_, 1) := by decide +kernel
theorem dX6_become_0 : decode cX6_become 0 = .ok (.aload_n 1, 1) := by decide +kernel
theorem dX6_become_1 : decode cX6_become 1 = .ok (.getfield 9, 3) := by decide +kernel
theorem dX6_become_4 : decode cX6_become 4 = .ok (.iconst 0, 1) := by decide +kernel
theorem dX6_become_5 : decode cX6_become 5 = .ok (.aload_n 0, 1) := by decide +kernel
theorem dX6_become_6 : decode cX6_become 6 = .ok (.getfield 9, 3) := by decide +kernel
theorem dX6_become_9 : decode cX6_become 9 = .ok (.iconst 0, 1) := by decide +kernel
theorem dX6_become_10 : decode cX6_become 10 = .ok (.iconst 4, 1) := by decide +kernel
theorem dX6_become_11 : decode cX6_become 11 = .ok (.invokestatic 27, 3) := by decide +kernel
theorem dX6_become_14 : decode cX6_become 14 = .ok (.aload_n 1, 1) := by decide +kernel
theorem dX6_become_15 : decode cX6_become 15 = .ok (.getfield 15, 3) := by decide +kernel
theorem dX6_become_18 : decode cX6_become 18 = .ok (.iconst 0, 1) := by decide +kernel
theorem dX6_become_19 : decode cX6_become 19 = .ok (.aload_n 0, 1) := by decide +kernel
theorem dX6_become_20 : decode cX6_become 20 = .ok (.getfield 15, 3) := by decide +kernel
theorem dX6_become_23 : decode cX6_become 23 = .ok (.iconst 0, 1) := by decide +kernel
theorem dX6_become_24 : decode cX6_become 24 = .ok (.bipush 12, 2) := by decide +kernel
theorem dX6_become_26 : decode cX6_become 26 = .ok (.invokestatic 27, 3) := by decide +kernel
theorem dX6_become_29 : decode cX6_become 29 = .ok (.aload_n 1, 1) := by decide +kernel
theorem dX6_become_30 : decode cX6_become 30 = .ok (.getfield 18, 3) := by decide +kernel
theorem dX6_become_33 : decode cX6_become 33 = .ok (.iconst 0, 1) := by decide +kernel
theorem dX6_become_34 : decode cX6_become 34 = .ok (.aload_n 0, 1) := by decide +kernel
theorem dX6_become_35 : decode cX6_become 35 = .ok (.getfield 18, 3) := by decide +kernel
theorem dX6_become_38 : decode cX6_become 38 = .ok (.iconst 0, 1) := by decide +kernel
theorem dX6_become_39 : decode cX6_become 39 = .ok (.bipush 12, 2) := by decide +kernel
theorem dX6_become_41 : decode cX6_become 41 = .ok (.invokestatic 27, 3) := by decide +kernel
theorem dX6_become_44 : decode cX6_become 44 = .ok (.aload_n 1, 1) := by decide +kernel
theorem dX6_become_45 : decode cX6_become 45 = .ok (.getfield 21, 3) := by decide +kernel
theorem dX6_become_48 : decode cX6_become 48 = .ok (.iconst 0, 1) := by decide +kernel
theorem dX6_become_49 : decode cX6_become 49 = .ok (.aload_n 0, 1) := by decide +kernel
theorem dX6_become_50 : decode cX6_become 50 = .ok (.getfield 21, 3) := by decide +kernel
theorem dX6_become_53 : decode cX6_become 53 = .ok (.iconst 0, 1) := by decide +kernel
theorem dX6_become_54 : decode cX6_become 54 = .ok (.bipush 40, 2) := by decide +kernel
theorem dX6_become_56 : decode cX6_become 56 = .ok (.invokestatic 27, 3) := by decide +kernel
theorem dX6_become_59 : decode cX6_become 59 = .ok (.aload_n 1, 1) := by decide +kernel
theorem dX6_become_60 : decode cX6_become 60 = .ok (.getfield 24, 3) := by decide +kernel
theorem dX6_become_63 : decode cX6_become 63 = .ok (.iconst 0, 1) := by decide +kernel
theorem dX6_become_64 : decode cX6_become 64 = .ok (.aload_n 0, 1) := by decide +kernel
theorem dX6_become_65 : decode cX6_become 65 = .ok (.getfield 24, 3) := by decide +kernel
theorem dX6_become_68 : decode cX6_become 68 = .ok (.iconst 0, 1) := by decide +kernel
theorem dX6_become_69 : decode cX6_become 69 = .ok (.bipush 40, 2) := by decide +kernel
theorem dX6_become_71 : decode cX6_become 71 = .ok (.invokestatic 27, 3) := by decide +kernel
theorem dX6_become_74 : decode cX6_become 74 = .ok (.aload_n 0, 1) := by decide +kernel
theorem dX6_become_75 : decode cX6_become 75 = .ok (.aload_n 1, 1) := by decide +kernel
theorem dX6_become_76 : decode cX6_become 76 = .ok (.getfield 33, 3) := by decide +kernel
theorem dX6_become_79 : decode cX6_become 79 = .ok (.putfield 33, 3) := by decide +kernel
theorem dX6_become_82 : decode cX6_become 82 = .ok (.aload_n 0, 1) := by decide +kernel
theorem dX6_become_83 : decode cX6_become 83 = .ok (.aload_n 1, 1) := by decide +kernel
theorem dX6_become_84 : decode cX6_become 84 = .ok (.getfield 37, 3) := by decide +kernel
theorem dX6_become_87 : decode cX6_become 87 = .ok (.putfield 37, 3) := by decide +kernel
theorem dX6_become_90 : decode cX6_become 90 = .ok (.aload_n 0, 1) := by decide +kernel
theorem dX6_become_91 : decode cX6_become 91 = .ok (.aload_n 1, 1) := by decide +kernel
theorem dX6_become_92 : decode cX6_become 92 = .ok (.getfield 40, 3) := by decide +kernel
theorem dX6_become_95 : decode cX6_become 95 = .ok (.putfield 40, 3) := by decide +kernel
theorem dX6_become_98 : decode cX6_become 98 = .ok (.aload_n 0, 1) := by decide +kernel
theorem dX6_become_99 : decode cX6_become 99 = .ok (.aload_n 1, 1) := by decide +kernel
theorem dX6_become_100 : decode cX6_become 100 = .ok (.getfield 43, 3) := by decide +kernel
theorem dX6_become_103 : decode cX6_become 103 = .ok (.putfield 43, 3) := by decide +kernel
theorem dX6_become_106 : decode cX6_become 106 = .ok (.aload_n 0, 1) := by decide +kernel
theorem dX6_become_107 : decode cX6_become 107 = .ok (.aload_n 1, 1) := by decide +kernel
theorem dX6_become_108 : decode cX6_become 108 = .ok (.getfield 46, 3) := by decide +kernel
theorem dX6_become_111 : decode cX6_become 111 = .ok (.putfield 46, 3) := by decide +kernel
theorem dX6_become_114 : decode cX6_become 114 = .ok (.aload_n 0, 1) := by decide +kernel
theorem dX6_become_115 : decode cX6_become 115 = .ok (.aload_n 1, 1) := by decide +kernel
theorem dX6_become_116 : decode cX6_become 116 = .ok (.getfield 49, 3) := by decide +kernel
theorem dX6_become_119 : decode cX6_become 119 = .ok (.putfield 49, 3) := by decide +kernel
theorem dX6_become_122 : decode cX6_become 122 = .ok (.aload_n 0, 1) := by decide +kernel
theorem dX6_become_123 : decode cX6_become 123 = .ok (.aload_n 1, 1) := by decide +kernel
theorem dX6_become_124 : decode cX6_become 124 = .ok (.getfield 52, 3) := by decide +kernel
theorem dX6_become_127 : decode cX6_become 127 = .ok (.putfield 52, 3) := by decide +kernel
theorem dX6_become_130 : decode cX6_become 130 = .ok (.aload_n 0, 1) := by decide +kernel
theorem dX6_become_131 : decode cX6_become 131 = .ok (.aload_n 1, 1) := by decide +kernel
theorem dX6_become_132 : decode cX6_become 132 = .ok (.getfield 55, 3) := by decide +kernel
theorem dX6_become_135 : decode cX6_become 135 = .ok (.putfield 55, 3) := by decide +kernel
theorem dX6_become_138 : decode cX6_become 138 = .ok (.return_, 1) := by decide +kernel
theorem dX6_logged_0 : decode cX6_logged 0 = .ok (.aload_n 0, 1) := by decide +kernel
theorem dX6_logged_1 : decode cX6_logged 1 = .ok (.getfield 52, 3) := by decide +kernel
theorem dX6_logged_4 : decode cX6_logged 4 = .ok (.bipush 40, 2) := by decide +kernel
theorem dX6_logged_6 : decode cX6_logged 6 = .ok (.invokestatic 58, 3) := by decide +kernel
theorem dX6_logged_9 : decode cX6_logged 9 = .ok (.ireturn, 1) := by decide +kernel
theorem dX6_placeOf_0 : decode cX6_placeOf 0 = .ok (.iload_n 1, 1) := by decide +kernel
theorem dX6_placeOf_1 : decode cX6_placeOf 1 = .ok (.aload_n 0, 1) := by decide +kernel
theorem dX6_placeOf_2 : decode cX6_placeOf 2 = .ok (.getfield 37, 3) := by decide +kernel
theorem dX6_placeOf_5 : decode cX6_placeOf 5 = .ok (.bipush 100, 2) := by decide +kernel
theorem dX6_placeOf_7 : decode cX6_placeOf 7 = .ok (.idiv, 1) := by decide +kernel
theorem dX6_placeOf_8 : decode cX6_placeOf 8 = .ok (.iadd, 1) := by decide +kernel
theorem dX6_placeOf_9 : decode cX6_placeOf 9 = .ok (.bipush 12, 2) := by decide +kernel
theorem dX6_placeOf_11 : decode cX6_placeOf 11 = .ok (.irem, 1) := by decide +kernel
theorem dX6_placeOf_12 : decode cX6_placeOf 12 = .ok (.ireturn, 1) := by decide +kernel
theorem dX6_topCup_0 : decode cX6_topCup 0 = .ok (.bipush 12, 2) := by decide +kernel
theorem dX6_topCup_2 : decode cX6_topCup 2 = .ok (.aload_n 0, 1) := by decide +kernel
theorem dX6_topCup_3 : decode cX6_topCup 3 = .ok (.getfield 37, 3) := by decide +kernel
theorem dX6_topCup_6 : decode cX6_topCup 6 = .ok (.bipush 100, 2) := by decide +kernel
theorem dX6_topCup_8 : decode cX6_topCup 8 = .ok (.idiv, 1) := by decide +kernel
theorem dX6_topCup_9 : decode cX6_topCup 9 = .ok (.isub, 1) := by decide +kernel
theorem dX6_topCup_10 : decode cX6_topCup 10 = .ok (.bipush 12, 2) := by decide +kernel
theorem dX6_topCup_12 : decode cX6_topCup 12 = .ok (.irem, 1) := by decide +kernel
theorem dX6_topCup_13 : decode cX6_topCup 13 = .ok (.ireturn, 1) := by decide +kernel
theorem dX6_roomOf_0 : decode cX6_roomOf 0 = .ok (.getstatic 64, 3) := by decide +kernel
theorem dX6_roomOf_3 : decode cX6_roomOf 3 = .ok (.aload_n 0, 1) := by decide +kernel
theorem dX6_roomOf_4 : decode cX6_roomOf 4 = .ok (.getfield 15, 3) := by decide +kernel
theorem dX6_roomOf_7 : decode cX6_roomOf 7 = .ok (.iload_n 1, 1) := by decide +kernel
theorem dX6_roomOf_8 : decode cX6_roomOf 8 = .ok (.iaload, 1) := by decide +kernel
theorem dX6_roomOf_9 : decode cX6_roomOf 9 = .ok (.iaload, 1) := by decide +kernel
theorem dX6_roomOf_10 : decode cX6_roomOf 10 = .ok (.ireturn, 1) := by decide +kernel
theorem dX6_isOf_0 : decode cX6_isOf 0 = .ok (.aload_n 0, 1) := by decide +kernel
theorem dX6_isOf_1 : decode cX6_isOf 1 = .ok (.getfield 15, 3) := by decide +kernel
theorem dX6_isOf_4 : decode cX6_isOf 4 = .ok (.iload_n 1, 1) := by decide +kernel
theorem dX6_isOf_5 : decode cX6_isOf 5 = .ok (.iaload, 1) := by decide +kernel
theorem dX6_isOf_6 : decode cX6_isOf 6 = .ok (.istore_n 3, 1) := by decide +kernel
theorem dX6_isOf_7 : decode cX6_isOf 7 = .ok (.iconst 0, 1) := by decide +kernel
theorem dX6_isOf_8 : decode cX6_isOf 8 = .ok (.istore 4, 2) := by decide +kernel
theorem dX6_isOf_10 : decode cX6_isOf 10 = .ok (.iload 4, 2) := by decide +kernel
theorem dX6_isOf_12 : decode cX6_isOf 12 = .ok (.bipush 7, 2) := by decide +kernel
theorem dX6_isOf_14 : decode cX6_isOf 14 = .ok (.if_icmp .ge 32, 3) := by decide +kernel
theorem dX6_isOf_17 : decode cX6_isOf 17 = .ok (.iload_n 3, 1) := by decide +kernel
theorem dX6_isOf_18 : decode cX6_isOf 18 = .ok (.iconst 0, 1) := by decide +kernel
theorem dX6_isOf_19 : decode cX6_isOf 19 = .ok (.bipush 6, 2) := by decide +kernel
theorem dX6_isOf_21 : decode cX6_isOf 21 = .ok (.invokestatic 67, 3) := by decide +kernel
theorem dX6_isOf_24 : decode cX6_isOf 24 = .ok (.ifCond .eq 22, 3) := by decide +kernel
theorem dX6_isOf_27 : decode cX6_isOf 27 = .ok (.iload_n 3, 1) := by decide +kernel
theorem dX6_isOf_28 : decode cX6_isOf 28 = .ok (.iload_n 2, 1) := by decide +kernel
theorem dX6_isOf_29 : decode cX6_isOf 29 = .ok (.if_icmp .ne 5, 3) := by decide +kernel
theorem dX6_isOf_32 : decode cX6_isOf 32 = .ok (.iconst 1, 1) := by decide +kernel
theorem dX6_isOf_33 : decode cX6_isOf 33 = .ok (.ireturn, 1) := by decide +kernel
theorem dX6_isOf_34 : decode cX6_isOf 34 = .ok (.getstatic 71, 3) := by decide +kernel
theorem dX6_isOf_37 : decode cX6_isOf 37 = .ok (.iload_n 3, 1) := by decide +kernel
theorem dX6_isOf_38 : decode cX6_isOf 38 = .ok (.iaload, 1) := by decide +kernel
theorem dX6_isOf_39 : decode cX6_isOf 39 = .ok (.istore_n 3, 1) := by decide +kernel
theorem dX6_isOf_40 : decode cX6_isOf 40 = .ok (.iinc 4 1, 3) := by decide +kernel
theorem dX6_isOf_43 : decode cX6_isOf 43 = .ok (.goto (-33), 3) := by decide +kernel
theorem dX6_isOf_46 : decode cX6_isOf 46 = .ok (.iconst 0, 1) := by decide +kernel
theorem dX6_isOf_47 : decode cX6_isOf 47 = .ok (.ireturn, 1) := by decide +kernel
theorem dX6_leakOf_0 : decode cX6_leakOf 0 = .ok (.aload_n 0, 1) := by decide +kernel
theorem dX6_leakOf_1 : decode cX6_leakOf 1 = .ok (.getfield 18, 3) := by decide +kernel
theorem dX6_leakOf_4 : decode cX6_leakOf 4 = .ok (.iload_n 1, 1) := by decide +kernel
theorem dX6_leakOf_5 : decode cX6_leakOf 5 = .ok (.iaload, 1) := by decide +kernel
theorem dX6_leakOf_6 : decode cX6_leakOf 6 = .ok (.istore_n 2, 1) := by decide +kernel
theorem dX6_leakOf_7 : decode cX6_leakOf 7 = .ok (.iload_n 2, 1) := by decide +kernel
theorem dX6_leakOf_8 : decode cX6_leakOf 8 = .ok (.aload_n 0, 1) := by decide +kernel
theorem dX6_leakOf_9 : decode cX6_leakOf 9 = .ok (.getfield 9, 3) := by decide +kernel
theorem dX6_leakOf_12 : decode cX6_leakOf 12 = .ok (.iconst 1, 1) := by decide +kernel
theorem dX6_leakOf_13 : decode cX6_leakOf 13 = .ok (.iaload, 1) := by decide +kernel
theorem dX6_leakOf_14 : decode cX6_leakOf 14 = .ok (.imul, 1) := by decide +kernel
theorem dX6_leakOf_15 : decode cX6_leakOf 15 = .ok (.bipush 100, 2) := by decide +kernel
theorem dX6_leakOf_17 : decode cX6_leakOf 17 = .ok (.idiv, 1) := by decide +kernel
theorem dX6_leakOf_18 : decode cX6_leakOf 18 = .ok (.istore_n 3, 1) := by decide +kernel
theorem dX6_leakOf_19 : decode cX6_leakOf 19 = .ok (.iload_n 2, 1) := by decide +kernel
theorem dX6_leakOf_20 : decode cX6_leakOf 20 = .ok (.bipush 100, 2) := by decide +kernel
theorem dX6_leakOf_22 : decode cX6_leakOf 22 = .ok (.isub, 1) := by decide +kernel
theorem dX6_leakOf_23 : decode cX6_leakOf 23 = .ok (.iconst 0, 1) := by decide +kernel
theorem dX6_leakOf_24 : decode cX6_leakOf 24 = .ok (.invokestatic 74, 3) := by decide +kernel
theorem dX6_leakOf_27 : decode cX6_leakOf 27 = .ok (.aload_n 0, 1) := by decide +kernel
theorem dX6_leakOf_28 : decode cX6_leakOf 28 = .ok (.getfield 9, 3) := by decide +kernel
theorem dX6_leakOf_31 : decode cX6_leakOf 31 = .ok (.iconst 1, 1) := by decide +kernel
theorem dX6_leakOf_32 : decode cX6_leakOf 32 = .ok (.iaload, 1) := by decide +kernel
theorem dX6_leakOf_33 : decode cX6_leakOf 33 = .ok (.imul, 1) := by decide +kernel
theorem dX6_leakOf_34 : decode cX6_leakOf 34 = .ok (.bipush 100, 2) := by decide +kernel
theorem dX6_leakOf_36 : decode cX6_leakOf 36 = .ok (.idiv, 1) := by decide +kernel
theorem dX6_leakOf_37 : decode cX6_leakOf 37 = .ok (.istore 4, 2) := by decide +kernel
theorem dX6_leakOf_39 : decode cX6_leakOf 39 = .ok (.aload_n 0, 1) := by decide +kernel
theorem dX6_leakOf_40 : decode cX6_leakOf 40 = .ok (.getfield 15, 3) := by decide +kernel
theorem dX6_leakOf_43 : decode cX6_leakOf 43 = .ok (.iload_n 1, 1) := by decide +kernel
theorem dX6_leakOf_44 : decode cX6_leakOf 44 = .ok (.iaload, 1) := by decide +kernel
theorem dX6_leakOf_45 : decode cX6_leakOf 45 = .ok (.tableswitch 69 1 6 #[39, 41, 49, 41, 52, 41], 39) := by decide +kernel
theorem dX6_leakOf_84 : decode cX6_leakOf 84 = .ok (.iconst 0, 1) := by decide +kernel
theorem dX6_leakOf_85 : decode cX6_leakOf 85 = .ok (.ireturn, 1) := by decide +kernel
theorem dX6_leakOf_86 : decode cX6_leakOf 86 = .ok (.iconst 2, 1) := by decide +kernel
theorem dX6_leakOf_87 : decode cX6_leakOf 87 = .ok (.iload_n 3, 1) := by decide +kernel
theorem dX6_leakOf_88 : decode cX6_leakOf 88 = .ok (.imul, 1) := by decide +kernel
theorem dX6_leakOf_89 : decode cX6_leakOf 89 = .ok (.iload_n 2, 1) := by decide +kernel
theorem dX6_leakOf_90 : decode cX6_leakOf 90 = .ok (.invokestatic 58, 3) := by decide +kernel
theorem dX6_leakOf_93 : decode cX6_leakOf 93 = .ok (.ireturn, 1) := by decide +kernel
theorem dX6_leakOf_94 : decode cX6_leakOf 94 = .ok (.iload 4, 2) := by decide +kernel
theorem dX6_leakOf_96 : decode cX6_leakOf 96 = .ok (.ireturn, 1) := by decide +kernel
theorem dX6_leakOf_97 : decode cX6_leakOf 97 = .ok (.aload_n 0, 1) := by decide +kernel
theorem dX6_leakOf_98 : decode cX6_leakOf 98 = .ok (.iload_n 1, 1) := by decide +kernel
theorem dX6_leakOf_99 : decode cX6_leakOf 99 = .ok (.invokevirtual 77, 3) := by decide +kernel
theorem dX6_leakOf_102 : decode cX6_leakOf 102 = .ok (.bipush 6, 2) := by decide +kernel
theorem dX6_leakOf_104 : decode cX6_leakOf 104 = .ok (.if_icmp .ne 7, 3) := by decide +kernel
theorem dX6_leakOf_107 : decode cX6_leakOf 107 = .ok (.iload_n 2, 1) := by decide +kernel
theorem dX6_leakOf_108 : decode cX6_leakOf 108 = .ok (.goto 5, 3) := by decide +kernel
theorem dX6_leakOf_111 : decode cX6_leakOf 111 = .ok (.iload 4, 2) := by decide +kernel
theorem dX6_leakOf_113 : decode cX6_leakOf 113 = .ok (.ireturn, 1) := by decide +kernel
theorem dX6_leakOf_114 : decode cX6_leakOf 114 = .ok (.iload_n 3, 1) := by decide +kernel
theorem dX6_leakOf_115 : decode cX6_leakOf 115 = .ok (.ireturn, 1) := by decide +kernel
theorem dX6_waterOfAll_0 : decode cX6_waterOfAll 0 = .ok (.iconst 0, 1) := by decide +kernel
theorem dX6_waterOfAll_1 : decode cX6_waterOfAll 1 = .ok (.istore_n 1, 1) := by decide +kernel
theorem dX6_waterOfAll_2 : decode cX6_waterOfAll 2 = .ok (.iconst 0, 1) := by decide +kernel
theorem dX6_waterOfAll_3 : decode cX6_waterOfAll 3 = .ok (.istore_n 2, 1) := by decide +kernel
theorem dX6_waterOfAll_4 : decode cX6_waterOfAll 4 = .ok (.iload_n 2, 1) := by decide +kernel
theorem dX6_waterOfAll_5 : decode cX6_waterOfAll 5 = .ok (.bipush 12, 2) := by decide +kernel
theorem dX6_waterOfAll_7 : decode cX6_waterOfAll 7 = .ok (.if_icmp .ge 18, 3) := by decide +kernel
theorem dX6_waterOfAll_10 : decode cX6_waterOfAll 10 = .ok (.iload_n 1, 1) := by decide +kernel
theorem dX6_waterOfAll_11 : decode cX6_waterOfAll 11 = .ok (.aload_n 0, 1) := by decide +kernel
theorem dX6_waterOfAll_12 : decode cX6_waterOfAll 12 = .ok (.getfield 18, 3) := by decide +kernel
theorem dX6_waterOfAll_15 : decode cX6_waterOfAll 15 = .ok (.iload_n 2, 1) := by decide +kernel
theorem dX6_waterOfAll_16 : decode cX6_waterOfAll 16 = .ok (.iaload, 1) := by decide +kernel
theorem dX6_waterOfAll_17 : decode cX6_waterOfAll 17 = .ok (.iadd, 1) := by decide +kernel
theorem dX6_waterOfAll_18 : decode cX6_waterOfAll 18 = .ok (.istore_n 1, 1) := by decide +kernel
theorem dX6_waterOfAll_19 : decode cX6_waterOfAll 19 = .ok (.iinc 2 1, 3) := by decide +kernel
theorem dX6_waterOfAll_22 : decode cX6_waterOfAll 22 = .ok (.goto (-18), 3) := by decide +kernel
theorem dX6_waterOfAll_25 : decode cX6_waterOfAll 25 = .ok (.iload_n 1, 1) := by decide +kernel
theorem dX6_waterOfAll_26 : decode cX6_waterOfAll 26 = .ok (.ireturn, 1) := by decide +kernel
theorem dX6_pull_0 : decode cX6_pull 0 = .ok (.iconst 0, 1) := by decide +kernel
theorem dX6_pull_1 : decode cX6_pull 1 = .ok (.istore_n 1, 1) := by decide +kernel
theorem dX6_pull_2 : decode cX6_pull 2 = .ok (.iconst 0, 1) := by decide +kernel
theorem dX6_pull_3 : decode cX6_pull 3 = .ok (.istore_n 2, 1) := by decide +kernel
theorem dX6_pull_4 : decode cX6_pull 4 = .ok (.iload_n 2, 1) := by decide +kernel
theorem dX6_pull_5 : decode cX6_pull 5 = .ok (.bipush 12, 2) := by decide +kernel
theorem dX6_pull_7 : decode cX6_pull 7 = .ok (.if_icmp .ge 28, 3) := by decide +kernel
theorem dX6_pull_10 : decode cX6_pull 10 = .ok (.iload_n 1, 1) := by decide +kernel
theorem dX6_pull_11 : decode cX6_pull 11 = .ok (.aload_n 0, 1) := by decide +kernel
theorem dX6_pull_12 : decode cX6_pull 12 = .ok (.getfield 18, 3) := by decide +kernel
theorem dX6_pull_15 : decode cX6_pull 15 = .ok (.iload_n 2, 1) := by decide +kernel
theorem dX6_pull_16 : decode cX6_pull 16 = .ok (.iaload, 1) := by decide +kernel
theorem dX6_pull_17 : decode cX6_pull 17 = .ok (.getstatic 81, 3) := by decide +kernel
theorem dX6_pull_20 : decode cX6_pull 20 = .ok (.aload_n 0, 1) := by decide +kernel
theorem dX6_pull_21 : decode cX6_pull 21 = .ok (.iload_n 2, 1) := by decide +kernel
theorem dX6_pull_22 : decode cX6_pull 22 = .ok (.invokevirtual 77, 3) := by decide +kernel
theorem dX6_pull_25 : decode cX6_pull 25 = .ok (.iaload, 1) := by decide +kernel
theorem dX6_pull_26 : decode cX6_pull 26 = .ok (.imul, 1) := by decide +kernel
theorem dX6_pull_27 : decode cX6_pull 27 = .ok (.iadd, 1) := by decide +kernel
theorem dX6_pull_28 : decode cX6_pull 28 = .ok (.istore_n 1, 1) := by decide +kernel
theorem dX6_pull_29 : decode cX6_pull 29 = .ok (.iinc 2 1, 3) := by decide +kernel
theorem dX6_pull_32 : decode cX6_pull 32 = .ok (.goto (-28), 3) := by decide +kernel
theorem dX6_pull_35 : decode cX6_pull 35 = .ok (.iload_n 1, 1) := by decide +kernel
theorem dX6_pull_36 : decode cX6_pull 36 = .ok (.ireturn, 1) := by decide +kernel
theorem dX6_nudge_0 : decode cX6_nudge 0 = .ok (.aload_n 0, 1) := by decide +kernel
theorem dX6_nudge_1 : decode cX6_nudge 1 = .ok (.aload_n 0, 1) := by decide +kernel
theorem dX6_nudge_2 : decode cX6_nudge 2 = .ok (.getfield 33, 3) := by decide +kernel
theorem dX6_nudge_5 : decode cX6_nudge 5 = .ok (.iload_n 1, 1) := by decide +kernel
theorem dX6_nudge_6 : decode cX6_nudge 6 = .ok (.iadd, 1) := by decide +kernel
theorem dX6_nudge_7 : decode cX6_nudge 7 = .ok (.invokestatic 84, 3) := by decide +kernel
theorem dX6_nudge_10 : decode cX6_nudge 10 = .ok (.putfield 33, 3) := by decide +kernel
theorem dX6_nudge_13 : decode cX6_nudge 13 = .ok (.aload_n 0, 1) := by decide +kernel
theorem dX6_nudge_14 : decode cX6_nudge 14 = .ok (.getfield 33, 3) := by decide +kernel
theorem dX6_nudge_17 : decode cX6_nudge 17 = .ok (.ifCond .eq 15, 3) := by decide +kernel
theorem dX6_nudge_20 : decode cX6_nudge 20 = .ok (.aload_n 0, 1) := by decide +kernel
theorem dX6_nudge_21 : decode cX6_nudge 21 = .ok (.aload_n 0, 1) := by decide +kernel
theorem dX6_nudge_22 : decode cX6_nudge 22 = .ok (.getfield 33, 3) := by decide +kernel
theorem dX6_nudge_25 : decode cX6_nudge 25 = .ok (.iconst 0, 1) := by decide +kernel
theorem dX6_nudge_26 : decode cX6_nudge 26 = .ok (.invokestatic 87, 3) := by decide +kernel
theorem dX6_nudge_29 : decode cX6_nudge 29 = .ok (.putfield 40, 3) := by decide +kernel
theorem dX6_nudge_32 : decode cX6_nudge 32 = .ok (.return_, 1) := by decide +kernel
theorem dX6_steps_0 : decode cX6_steps 0 = .ok (.iconst 0, 1) := by decide +kernel
theorem dX6_steps_1 : decode cX6_steps 1 = .ok (.istore_n 2, 1) := by decide +kernel
theorem dX6_steps_2 : decode cX6_steps 2 = .ok (.iload_n 2, 1) := by decide +kernel
theorem dX6_steps_3 : decode cX6_steps 3 = .ok (.iload_n 1, 1) := by decide +kernel
theorem dX6_steps_4 : decode cX6_steps 4 = .ok (.if_icmp .ge 13, 3) := by decide +kernel
theorem dX6_steps_7 : decode cX6_steps 7 = .ok (.aload_n 0, 1) := by decide +kernel
theorem dX6_steps_8 : decode cX6_steps 8 = .ok (.invokevirtual 92, 3) := by decide +kernel
theorem dX6_steps_11 : decode cX6_steps 11 = .ok (.iinc 2 1, 3) := by decide +kernel
theorem dX6_steps_14 : decode cX6_steps 14 = .ok (.goto (-12), 3) := by decide +kernel
theorem dX6_steps_17 : decode cX6_steps 17 = .ok (.return_, 1) := by decide +kernel
theorem dX6_step_0 : decode cX6_step 0 = .ok (.aload_n 0, 1) := by decide +kernel
theorem dX6_step_1 : decode cX6_step 1 = .ok (.invokevirtual 95, 3) := by decide +kernel
theorem dX6_step_4 : decode cX6_step 4 = .ok (.iconst 0, 1) := by decide +kernel
theorem dX6_step_5 : decode cX6_step 5 = .ok (.istore_n 1, 1) := by decide +kernel
theorem dX6_step_6 : decode cX6_step 6 = .ok (.iload_n 1, 1) := by decide +kernel
theorem dX6_step_7 : decode cX6_step 7 = .ok (.bipush 12, 2) := by decide +kernel
theorem dX6_step_9 : decode cX6_step 9 = .ok (.if_icmp .ge 14, 3) := by decide +kernel
theorem dX6_step_12 : decode cX6_step 12 = .ok (.aload_n 0, 1) := by decide +kernel
theorem dX6_step_13 : decode cX6_step 13 = .ok (.iload_n 1, 1) := by decide +kernel
theorem dX6_step_14 : decode cX6_step 14 = .ok (.invokevirtual 98, 3) := by decide +kernel
theorem dX6_step_17 : decode cX6_step 17 = .ok (.iinc 1 1, 3) := by decide +kernel
theorem dX6_step_20 : decode cX6_step 20 = .ok (.goto (-14), 3) := by decide +kernel
theorem dX6_step_23 : decode cX6_step 23 = .ok (.aload_n 0, 1) := by decide +kernel
theorem dX6_step_24 : decode cX6_step 24 = .ok (.invokevirtual 102, 3) := by decide +kernel
theorem dX6_step_27 : decode cX6_step 27 = .ok (.aload_n 0, 1) := by decide +kernel
theorem dX6_step_28 : decode cX6_step 28 = .ok (.dup, 1) := by decide +kernel
theorem dX6_step_29 : decode cX6_step 29 = .ok (.getfield 49, 3) := by decide +kernel
theorem dX6_step_32 : decode cX6_step 32 = .ok (.iconst 1, 1) := by decide +kernel
theorem dX6_step_33 : decode cX6_step 33 = .ok (.iadd, 1) := by decide +kernel
theorem dX6_step_34 : decode cX6_step 34 = .ok (.putfield 49, 3) := by decide +kernel
theorem dX6_step_37 : decode cX6_step 37 = .ok (.aload_n 0, 1) := by decide +kernel
theorem dX6_step_38 : decode cX6_step 38 = .ok (.invokevirtual 105, 3) := by decide +kernel
theorem dX6_step_41 : decode cX6_step 41 = .ok (.return_, 1) := by decide +kernel
theorem dX6_goes_0 : decode cX6_goes 0 = .ok (.iload_n 1, 1) := by decide +kernel
theorem dX6_goes_1 : decode cX6_goes 1 = .ok (.iconst 2, 1) := by decide +kernel
theorem dX6_goes_2 : decode cX6_goes 2 = .ok (.idiv, 1) := by decide +kernel
theorem dX6_goes_3 : decode cX6_goes 3 = .ok (.istore_n 2, 1) := by decide +kernel
theorem dX6_goes_4 : decode cX6_goes 4 = .ok (.aload_n 0, 1) := by decide +kernel
theorem dX6_goes_5 : decode cX6_goes 5 = .ok (.getfield 52, 3) := by decide +kernel
theorem dX6_goes_8 : decode cX6_goes 8 = .ok (.istore_n 3, 1) := by decide +kernel
theorem dX6_goes_9 : decode cX6_goes 9 = .ok (.aload_n 0, 1) := by decide +kernel
theorem dX6_goes_10 : decode cX6_goes 10 = .ok (.iload_n 2, 1) := by decide +kernel
theorem dX6_goes_11 : decode cX6_goes 11 = .ok (.invokevirtual 108, 3) := by decide +kernel
theorem dX6_goes_14 : decode cX6_goes 14 = .ok (.aload_n 0, 1) := by decide +kernel
theorem dX6_goes_15 : decode cX6_goes 15 = .ok (.getfield 52, 3) := by decide +kernel
theorem dX6_goes_18 : decode cX6_goes 18 = .ok (.istore 4, 2) := by decide +kernel
theorem dX6_goes_20 : decode cX6_goes 20 = .ok (.iconst 1, 1) := by decide +kernel
theorem dX6_goes_21 : decode cX6_goes 21 = .ok (.istore 5, 2) := by decide +kernel
theorem dX6_goes_23 : decode cX6_goes 23 = .ok (.iload_n 2, 1) := by decide +kernel
theorem dX6_goes_24 : decode cX6_goes 24 = .ok (.istore 6, 2) := by decide +kernel
theorem dX6_goes_26 : decode cX6_goes 26 = .ok (.iload 6, 2) := by decide +kernel
theorem dX6_goes_28 : decode cX6_goes 28 = .ok (.iload_n 1, 1) := by decide +kernel
theorem dX6_goes_29 : decode cX6_goes 29 = .ok (.if_icmp .ge 32, 3) := by decide +kernel
theorem dX6_goes_32 : decode cX6_goes 32 = .ok (.aload_n 0, 1) := by decide +kernel
theorem dX6_goes_33 : decode cX6_goes 33 = .ok (.invokevirtual 92, 3) := by decide +kernel
theorem dX6_goes_36 : decode cX6_goes 36 = .ok (.iload 5, 2) := by decide +kernel
theorem dX6_goes_38 : decode cX6_goes 38 = .ok (.ifCond .eq 14, 3) := by decide +kernel
theorem dX6_goes_41 : decode cX6_goes 41 = .ok (.aload_n 0, 1) := by decide +kernel
theorem dX6_goes_42 : decode cX6_goes 42 = .ok (.getfield 33, 3) := by decide +kernel
theorem dX6_goes_45 : decode cX6_goes 45 = .ok (.ifCond .ne 7, 3) := by decide +kernel
theorem dX6_goes_48 : decode cX6_goes 48 = .ok (.iconst 1, 1) := by decide +kernel
theorem dX6_goes_49 : decode cX6_goes 49 = .ok (.goto 4, 3) := by decide +kernel
theorem dX6_goes_52 : decode cX6_goes 52 = .ok (.iconst 0, 1) := by decide +kernel
theorem dX6_goes_53 : decode cX6_goes 53 = .ok (.istore 5, 2) := by decide +kernel
theorem dX6_goes_55 : decode cX6_goes 55 = .ok (.iinc 6 1, 3) := by decide +kernel
theorem dX6_goes_58 : decode cX6_goes 58 = .ok (.goto (-32), 3) := by decide +kernel
theorem dX6_goes_61 : decode cX6_goes 61 = .ok (.iload 5, 2) := by decide +kernel
theorem dX6_goes_63 : decode cX6_goes 63 = .ok (.ifCond .eq 5, 3) := by decide +kernel
theorem dX6_goes_66 : decode cX6_goes 66 = .ok (.iconst 0, 1) := by decide +kernel
theorem dX6_goes_67 : decode cX6_goes 67 = .ok (.ireturn, 1) := by decide +kernel
theorem dX6_goes_68 : decode cX6_goes 68 = .ok (.aload_n 0, 1) := by decide +kernel
theorem dX6_goes_69 : decode cX6_goes 69 = .ok (.getfield 52, 3) := by decide +kernel
theorem dX6_goes_72 : decode cX6_goes 72 = .ok (.iload_n 3, 1) := by decide +kernel
theorem dX6_goes_73 : decode cX6_goes 73 = .ok (.if_icmp .ne 5, 3) := by decide +kernel
theorem dX6_goes_76 : decode cX6_goes 76 = .ok (.iconst 1, 1) := by decide +kernel
theorem dX6_goes_77 : decode cX6_goes 77 = .ok (.ireturn, 1) := by decide +kernel
theorem dX6_goes_78 : decode cX6_goes 78 = .ok (.aload_n 0, 1) := by decide +kernel
theorem dX6_goes_79 : decode cX6_goes 79 = .ok (.getfield 52, 3) := by decide +kernel
theorem dX6_goes_82 : decode cX6_goes 82 = .ok (.iload 4, 2) := by decide +kernel
theorem dX6_goes_84 : decode cX6_goes 84 = .ok (.if_icmp .ne 7, 3) := by decide +kernel
theorem dX6_goes_87 : decode cX6_goes 87 = .ok (.iconst 2, 1) := by decide +kernel
theorem dX6_goes_88 : decode cX6_goes 88 = .ok (.goto 4, 3) := by decide +kernel
theorem dX6_goes_91 : decode cX6_goes 91 = .ok (.iconst 3, 1) := by decide +kernel
theorem dX6_goes_92 : decode cX6_goes 92 = .ok (.ireturn, 1) := by decide +kernel
theorem dX6_pour_0 : decode cX6_pour 0 = .ok (.aload_n 0, 1) := by decide +kernel
theorem dX6_pour_1 : decode cX6_pour 1 = .ok (.invokevirtual 111, 3) := by decide +kernel
theorem dX6_pour_4 : decode cX6_pour 4 = .ok (.istore_n 1, 1) := by decide +kernel
theorem dX6_pour_5 : decode cX6_pour 5 = .ok (.aload_n 0, 1) := by decide +kernel
theorem dX6_pour_6 : decode cX6_pour 6 = .ok (.iload_n 1, 1) := by decide +kernel
theorem dX6_pour_7 : decode cX6_pour 7 = .ok (.invokevirtual 115, 3) := by decide +kernel
theorem dX6_pour_10 : decode cX6_pour 10 = .ok (.aload_n 0, 1) := by decide +kernel
theorem dX6_pour_11 : decode cX6_pour 11 = .ok (.getfield 18, 3) := by decide +kernel
theorem dX6_pour_14 : decode cX6_pour 14 = .ok (.iload_n 1, 1) := by decide +kernel
theorem dX6_pour_15 : decode cX6_pour 15 = .ok (.iaload, 1) := by decide +kernel
theorem dX6_pour_16 : decode cX6_pour 16 = .ok (.isub, 1) := by decide +kernel
theorem dX6_pour_17 : decode cX6_pour 17 = .ok (.iconst 0, 1) := by decide +kernel
theorem dX6_pour_18 : decode cX6_pour 18 = .ok (.invokestatic 74, 3) := by decide +kernel
theorem dX6_pour_21 : decode cX6_pour 21 = .ok (.istore_n 2, 1) := by decide +kernel
theorem dX6_pour_22 : decode cX6_pour 22 = .ok (.aload_n 0, 1) := by decide +kernel
theorem dX6_pour_23 : decode cX6_pour 23 = .ok (.getfield 9, 3) := by decide +kernel
theorem dX6_pour_26 : decode cX6_pour 26 = .ok (.iconst 0, 1) := by decide +kernel
theorem dX6_pour_27 : decode cX6_pour 27 = .ok (.iaload, 1) := by decide +kernel
theorem dX6_pour_28 : decode cX6_pour 28 = .ok (.iload_n 2, 1) := by decide +kernel
theorem dX6_pour_29 : decode cX6_pour 29 = .ok (.invokestatic 58, 3) := by decide +kernel
theorem dX6_pour_32 : decode cX6_pour 32 = .ok (.istore_n 3, 1) := by decide +kernel
theorem dX6_pour_33 : decode cX6_pour 33 = .ok (.aload_n 0, 1) := by decide +kernel
theorem dX6_pour_34 : decode cX6_pour 34 = .ok (.getfield 18, 3) := by decide +kernel
theorem dX6_pour_37 : decode cX6_pour 37 = .ok (.iload_n 1, 1) := by decide +kernel
theorem dX6_pour_38 : decode cX6_pour 38 = .ok (.dup2, 1) := by decide +kernel
theorem dX6_pour_39 : decode cX6_pour 39 = .ok (.iaload, 1) := by decide +kernel
theorem dX6_pour_40 : decode cX6_pour 40 = .ok (.iload_n 3, 1) := by decide +kernel
theorem dX6_pour_41 : decode cX6_pour 41 = .ok (.iadd, 1) := by decide +kernel
theorem dX6_pour_42 : decode cX6_pour 42 = .ok (.iastore, 1) := by decide +kernel
theorem dX6_pour_43 : decode cX6_pour 43 = .ok (.aload_n 0, 1) := by decide +kernel
theorem dX6_pour_44 : decode cX6_pour 44 = .ok (.dup, 1) := by decide +kernel
theorem dX6_pour_45 : decode cX6_pour 45 = .ok (.getfield 43, 3) := by decide +kernel
theorem dX6_pour_48 : decode cX6_pour 48 = .ok (.aload_n 0, 1) := by decide +kernel
theorem dX6_pour_49 : decode cX6_pour 49 = .ok (.getfield 9, 3) := by decide +kernel
theorem dX6_pour_52 : decode cX6_pour 52 = .ok (.iconst 0, 1) := by decide +kernel
theorem dX6_pour_53 : decode cX6_pour 53 = .ok (.iaload, 1) := by decide +kernel
theorem dX6_pour_54 : decode cX6_pour 54 = .ok (.iload_n 3, 1) := by decide +kernel
theorem dX6_pour_55 : decode cX6_pour 55 = .ok (.isub, 1) := by decide +kernel
theorem dX6_pour_56 : decode cX6_pour 56 = .ok (.iadd, 1) := by decide +kernel
theorem dX6_pour_57 : decode cX6_pour 57 = .ok (.putfield 43, 3) := by decide +kernel
theorem dX6_pour_60 : decode cX6_pour 60 = .ok (.return_, 1) := by decide +kernel
theorem dX6_drain_0 : decode cX6_drain 0 = .ok (.aload_n 0, 1) := by decide +kernel
theorem dX6_drain_1 : decode cX6_drain 1 = .ok (.iload_n 1, 1) := by decide +kernel
theorem dX6_drain_2 : decode cX6_drain 2 = .ok (.invokevirtual 118, 3) := by decide +kernel
theorem dX6_drain_5 : decode cX6_drain 5 = .ok (.istore_n 2, 1) := by decide +kernel
theorem dX6_drain_6 : decode cX6_drain 6 = .ok (.aload_n 0, 1) := by decide +kernel
theorem dX6_drain_7 : decode cX6_drain 7 = .ok (.getfield 18, 3) := by decide +kernel
theorem dX6_drain_10 : decode cX6_drain 10 = .ok (.iload_n 1, 1) := by decide +kernel
theorem dX6_drain_11 : decode cX6_drain 11 = .ok (.dup2, 1) := by decide +kernel
theorem dX6_drain_12 : decode cX6_drain 12 = .ok (.iaload, 1) := by decide +kernel
theorem dX6_drain_13 : decode cX6_drain 13 = .ok (.iload_n 2, 1) := by decide +kernel
theorem dX6_drain_14 : decode cX6_drain 14 = .ok (.isub, 1) := by decide +kernel
theorem dX6_drain_15 : decode cX6_drain 15 = .ok (.iastore, 1) := by decide +kernel
theorem dX6_drain_16 : decode cX6_drain 16 = .ok (.aload_n 0, 1) := by decide +kernel
theorem dX6_drain_17 : decode cX6_drain 17 = .ok (.dup, 1) := by decide +kernel
theorem dX6_drain_18 : decode cX6_drain 18 = .ok (.getfield 46, 3) := by decide +kernel
theorem dX6_drain_21 : decode cX6_drain 21 = .ok (.iload_n 2, 1) := by decide +kernel
theorem dX6_drain_22 : decode cX6_drain 22 = .ok (.iadd, 1) := by decide +kernel
theorem dX6_drain_23 : decode cX6_drain 23 = .ok (.putfield 46, 3) := by decide +kernel
theorem dX6_drain_26 : decode cX6_drain 26 = .ok (.aload_n 0, 1) := by decide +kernel
theorem dX6_drain_27 : decode cX6_drain 27 = .ok (.getfield 15, 3) := by decide +kernel
theorem dX6_drain_30 : decode cX6_drain 30 = .ok (.iload_n 1, 1) := by decide +kernel
theorem dX6_drain_31 : decode cX6_drain 31 = .ok (.iaload, 1) := by decide +kernel
theorem dX6_drain_32 : decode cX6_drain 32 = .ok (.bipush 6, 2) := by decide +kernel
theorem dX6_drain_34 : decode cX6_drain 34 = .ok (.if_icmp .ne 8, 3) := by decide +kernel
theorem dX6_drain_37 : decode cX6_drain 37 = .ok (.aload_n 0, 1) := by decide +kernel
theorem dX6_drain_38 : decode cX6_drain 38 = .ok (.iload_n 1, 1) := by decide +kernel
theorem dX6_drain_39 : decode cX6_drain 39 = .ok (.invokevirtual 121, 3) := by decide +kernel
theorem dX6_drain_42 : decode cX6_drain 42 = .ok (.return_, 1) := by decide +kernel
theorem dX6_passOn_0 : decode cX6_passOn 0 = .ok (.iload_n 1, 1) := by decide +kernel
theorem dX6_passOn_1 : decode cX6_passOn 1 = .ok (.iconst 1, 1) := by decide +kernel
theorem dX6_passOn_2 : decode cX6_passOn 2 = .ok (.iadd, 1) := by decide +kernel
theorem dX6_passOn_3 : decode cX6_passOn 3 = .ok (.bipush 12, 2) := by decide +kernel
theorem dX6_passOn_5 : decode cX6_passOn 5 = .ok (.irem, 1) := by decide +kernel
theorem dX6_passOn_6 : decode cX6_passOn 6 = .ok (.istore_n 2, 1) := by decide +kernel
theorem dX6_passOn_7 : decode cX6_passOn 7 = .ok (.aload_n 0, 1) := by decide +kernel
theorem dX6_passOn_8 : decode cX6_passOn 8 = .ok (.getfield 18, 3) := by decide +kernel
theorem dX6_passOn_11 : decode cX6_passOn 11 = .ok (.iload_n 1, 1) := by decide +kernel
theorem dX6_passOn_12 : decode cX6_passOn 12 = .ok (.iaload, 1) := by decide +kernel
theorem dX6_passOn_13 : decode cX6_passOn 13 = .ok (.aload_n 0, 1) := by decide +kernel
theorem dX6_passOn_14 : decode cX6_passOn 14 = .ok (.getfield 18, 3) := by decide +kernel
theorem dX6_passOn_17 : decode cX6_passOn 17 = .ok (.iload_n 2, 1) := by decide +kernel
theorem dX6_passOn_18 : decode cX6_passOn 18 = .ok (.iaload, 1) := by decide +kernel
theorem dX6_passOn_19 : decode cX6_passOn 19 = .ok (.if_icmp .le 37, 3) := by decide +kernel
theorem dX6_passOn_22 : decode cX6_passOn 22 = .ok (.aload_n 0, 1) := by decide +kernel
theorem dX6_passOn_23 : decode cX6_passOn 23 = .ok (.getfield 18, 3) := by decide +kernel
theorem dX6_passOn_26 : decode cX6_passOn 26 = .ok (.iload_n 2, 1) := by decide +kernel
theorem dX6_passOn_27 : decode cX6_passOn 27 = .ok (.iaload, 1) := by decide +kernel
theorem dX6_passOn_28 : decode cX6_passOn 28 = .ok (.aload_n 0, 1) := by decide +kernel
theorem dX6_passOn_29 : decode cX6_passOn 29 = .ok (.iload_n 2, 1) := by decide +kernel
theorem dX6_passOn_30 : decode cX6_passOn 30 = .ok (.invokevirtual 115, 3) := by decide +kernel
theorem dX6_passOn_33 : decode cX6_passOn 33 = .ok (.if_icmp .ge 23, 3) := by decide +kernel
theorem dX6_passOn_36 : decode cX6_passOn 36 = .ok (.aload_n 0, 1) := by decide +kernel
theorem dX6_passOn_37 : decode cX6_passOn 37 = .ok (.getfield 18, 3) := by decide +kernel
theorem dX6_passOn_40 : decode cX6_passOn 40 = .ok (.iload_n 1, 1) := by decide +kernel
theorem dX6_passOn_41 : decode cX6_passOn 41 = .ok (.dup2, 1) := by decide +kernel
theorem dX6_passOn_42 : decode cX6_passOn 42 = .ok (.iaload, 1) := by decide +kernel
theorem dX6_passOn_43 : decode cX6_passOn 43 = .ok (.iconst 1, 1) := by decide +kernel
theorem dX6_passOn_44 : decode cX6_passOn 44 = .ok (.isub, 1) := by decide +kernel
theorem dX6_passOn_45 : decode cX6_passOn 45 = .ok (.iastore, 1) := by decide +kernel
theorem dX6_passOn_46 : decode cX6_passOn 46 = .ok (.aload_n 0, 1) := by decide +kernel
theorem dX6_passOn_47 : decode cX6_passOn 47 = .ok (.getfield 18, 3) := by decide +kernel
theorem dX6_passOn_50 : decode cX6_passOn 50 = .ok (.iload_n 2, 1) := by decide +kernel
theorem dX6_passOn_51 : decode cX6_passOn 51 = .ok (.dup2, 1) := by decide +kernel
theorem dX6_passOn_52 : decode cX6_passOn 52 = .ok (.iaload, 1) := by decide +kernel
theorem dX6_passOn_53 : decode cX6_passOn 53 = .ok (.iconst 1, 1) := by decide +kernel
theorem dX6_passOn_54 : decode cX6_passOn 54 = .ok (.iadd, 1) := by decide +kernel
theorem dX6_passOn_55 : decode cX6_passOn 55 = .ok (.iastore, 1) := by decide +kernel
theorem dX6_passOn_56 : decode cX6_passOn 56 = .ok (.return_, 1) := by decide +kernel
theorem dX6_swing_0 : decode cX6_swing 0 = .ok (.bipush 100, 2) := by decide +kernel
theorem dX6_swing_2 : decode cX6_swing 2 = .ok (.aload_n 0, 1) := by decide +kernel
theorem dX6_swing_3 : decode cX6_swing 3 = .ok (.getfield 9, 3) := by decide +kernel
theorem dX6_swing_6 : decode cX6_swing 6 = .ok (.iconst 3, 1) := by decide +kernel
theorem dX6_swing_7 : decode cX6_swing 7 = .ok (.iaload, 1) := by decide +kernel
theorem dX6_swing_8 : decode cX6_swing 8 = .ok (.imul, 1) := by decide +kernel
theorem dX6_swing_9 : decode cX6_swing 9 = .ok (.istore_n 1, 1) := by decide +kernel
theorem dX6_swing_10 : decode cX6_swing 10 = .ok (.iload_n 1, 1) := by decide +kernel
theorem dX6_swing_11 : decode cX6_swing 11 = .ok (.ifCond .le 18, 3) := by decide +kernel
theorem dX6_swing_14 : decode cX6_swing 14 = .ok (.aload_n 0, 1) := by decide +kernel
theorem dX6_swing_15 : decode cX6_swing 15 = .ok (.dup, 1) := by decide +kernel
theorem dX6_swing_16 : decode cX6_swing 16 = .ok (.getfield 33, 3) := by decide +kernel
theorem dX6_swing_19 : decode cX6_swing 19 = .ok (.aload_n 0, 1) := by decide +kernel
theorem dX6_swing_20 : decode cX6_swing 20 = .ok (.invokevirtual 124, 3) := by decide +kernel
theorem dX6_swing_23 : decode cX6_swing 23 = .ok (.iload_n 1, 1) := by decide +kernel
theorem dX6_swing_24 : decode cX6_swing 24 = .ok (.idiv, 1) := by decide +kernel
theorem dX6_swing_25 : decode cX6_swing 25 = .ok (.iadd, 1) := by decide +kernel
theorem dX6_swing_26 : decode cX6_swing 26 = .ok (.putfield 33, 3) := by decide +kernel
theorem dX6_swing_29 : decode cX6_swing 29 = .ok (.aload_n 0, 1) := by decide +kernel
theorem dX6_swing_30 : decode cX6_swing 30 = .ok (.dup, 1) := by decide +kernel
theorem dX6_swing_31 : decode cX6_swing 31 = .ok (.getfield 33, 3) := by decide +kernel
theorem dX6_swing_34 : decode cX6_swing 34 = .ok (.aload_n 0, 1) := by decide +kernel
theorem dX6_swing_35 : decode cX6_swing 35 = .ok (.getfield 33, 3) := by decide +kernel
theorem dX6_swing_38 : decode cX6_swing 38 = .ok (.aload_n 0, 1) := by decide +kernel
theorem dX6_swing_39 : decode cX6_swing 39 = .ok (.getfield 9, 3) := by decide +kernel
theorem dX6_swing_42 : decode cX6_swing 42 = .ok (.iconst 2, 1) := by decide +kernel
theorem dX6_swing_43 : decode cX6_swing 43 = .ok (.iaload, 1) := by decide +kernel
theorem dX6_swing_44 : decode cX6_swing 44 = .ok (.imul, 1) := by decide +kernel
theorem dX6_swing_45 : decode cX6_swing 45 = .ok (.bipush 100, 2) := by decide +kernel
theorem dX6_swing_47 : decode cX6_swing 47 = .ok (.idiv, 1) := by decide +kernel
theorem dX6_swing_48 : decode cX6_swing 48 = .ok (.isub, 1) := by decide +kernel
theorem dX6_swing_49 : decode cX6_swing 49 = .ok (.putfield 33, 3) := by decide +kernel
theorem dX6_swing_52 : decode cX6_swing 52 = .ok (.aload_n 0, 1) := by decide +kernel
theorem dX6_swing_53 : decode cX6_swing 53 = .ok (.aload_n 0, 1) := by decide +kernel
theorem dX6_swing_54 : decode cX6_swing 54 = .ok (.getfield 33, 3) := by decide +kernel
theorem dX6_swing_57 : decode cX6_swing 57 = .ok (.invokestatic 84, 3) := by decide +kernel
theorem dX6_swing_60 : decode cX6_swing 60 = .ok (.putfield 33, 3) := by decide +kernel
theorem dX6_swing_63 : decode cX6_swing 63 = .ok (.aload_n 0, 1) := by decide +kernel
theorem dX6_swing_64 : decode cX6_swing 64 = .ok (.aload_n 0, 1) := by decide +kernel
theorem dX6_swing_65 : decode cX6_swing 65 = .ok (.getfield 37, 3) := by decide +kernel
theorem dX6_swing_68 : decode cX6_swing 68 = .ok (.aload_n 0, 1) := by decide +kernel
theorem dX6_swing_69 : decode cX6_swing 69 = .ok (.getfield 33, 3) := by decide +kernel
theorem dX6_swing_72 : decode cX6_swing 72 = .ok (.iadd, 1) := by decide +kernel
theorem dX6_swing_73 : decode cX6_swing 73 = .ok (.sipush 1200, 3) := by decide +kernel
theorem dX6_swing_76 : decode cX6_swing 76 = .ok (.invokestatic 127, 3) := by decide +kernel
theorem dX6_swing_79 : decode cX6_swing 79 = .ok (.putfield 37, 3) := by decide +kernel
theorem dX6_swing_82 : decode cX6_swing 82 = .ok (.return_, 1) := by decide +kernel
theorem dX6_watchWay_0 : decode cX6_watchWay 0 = .ok (.aload_n 0, 1) := by decide +kernel
theorem dX6_watchWay_1 : decode cX6_watchWay 1 = .ok (.getfield 33, 3) := by decide +kernel
theorem dX6_watchWay_4 : decode cX6_watchWay 4 = .ok (.iconst 0, 1) := by decide +kernel
theorem dX6_watchWay_5 : decode cX6_watchWay 5 = .ok (.invokestatic 87, 3) := by decide +kernel
theorem dX6_watchWay_8 : decode cX6_watchWay 8 = .ok (.istore_n 1, 1) := by decide +kernel
theorem dX6_watchWay_9 : decode cX6_watchWay 9 = .ok (.iload_n 1, 1) := by decide +kernel
theorem dX6_watchWay_10 : decode cX6_watchWay 10 = .ok (.aload_n 0, 1) := by decide +kernel
theorem dX6_watchWay_11 : decode cX6_watchWay 11 = .ok (.getfield 40, 3) := by decide +kernel
theorem dX6_watchWay_14 : decode cX6_watchWay 14 = .ok (.imul, 1) := by decide +kernel
theorem dX6_watchWay_15 : decode cX6_watchWay 15 = .ok (.ifCond .ge 12, 3) := by decide +kernel
theorem dX6_watchWay_18 : decode cX6_watchWay 18 = .ok (.aload_n 0, 1) := by decide +kernel
theorem dX6_watchWay_19 : decode cX6_watchWay 19 = .ok (.invokevirtual 130, 3) := by decide +kernel
theorem dX6_watchWay_22 : decode cX6_watchWay 22 = .ok (.aload_n 0, 1) := by decide +kernel
theorem dX6_watchWay_23 : decode cX6_watchWay 23 = .ok (.iconst 0, 1) := by decide +kernel
theorem dX6_watchWay_24 : decode cX6_watchWay 24 = .ok (.putfield 55, 3) := by decide +kernel
theorem dX6_watchWay_27 : decode cX6_watchWay 27 = .ok (.aload_n 0, 1) := by decide +kernel
theorem dX6_watchWay_28 : decode cX6_watchWay 28 = .ok (.aload_n 0, 1) := by decide +kernel
theorem dX6_watchWay_29 : decode cX6_watchWay 29 = .ok (.getfield 55, 3) := by decide +kernel
theorem dX6_watchWay_32 : decode cX6_watchWay 32 = .ok (.aload_n 0, 1) := by decide +kernel
theorem dX6_watchWay_33 : decode cX6_watchWay 33 = .ok (.getfield 33, 3) := by decide +kernel
theorem dX6_watchWay_36 : decode cX6_watchWay 36 = .ok (.invokestatic 133, 3) := by decide +kernel
theorem dX6_watchWay_39 : decode cX6_watchWay 39 = .ok (.invokestatic 74, 3) := by decide +kernel
theorem dX6_watchWay_42 : decode cX6_watchWay 42 = .ok (.putfield 55, 3) := by decide +kernel
theorem dX6_watchWay_45 : decode cX6_watchWay 45 = .ok (.iload_n 1, 1) := by decide +kernel
theorem dX6_watchWay_46 : decode cX6_watchWay 46 = .ok (.ifCond .eq 8, 3) := by decide +kernel
theorem dX6_watchWay_49 : decode cX6_watchWay 49 = .ok (.aload_n 0, 1) := by decide +kernel
theorem dX6_watchWay_50 : decode cX6_watchWay 50 = .ok (.iload_n 1, 1) := by decide +kernel
theorem dX6_watchWay_51 : decode cX6_watchWay 51 = .ok (.putfield 40, 3) := by decide +kernel
theorem dX6_watchWay_54 : decode cX6_watchWay 54 = .ok (.return_, 1) := by decide +kernel
theorem dX6_logTurn_0 : decode cX6_logTurn 0 = .ok (.aload_n 0, 1) := by decide +kernel
theorem dX6_logTurn_1 : decode cX6_logTurn 1 = .ok (.getfield 52, 3) := by decide +kernel
theorem dX6_logTurn_4 : decode cX6_logTurn 4 = .ok (.iconst 0, 1) := by decide +kernel
theorem dX6_logTurn_5 : decode cX6_logTurn 5 = .ok (.bipush 39, 2) := by decide +kernel
theorem dX6_logTurn_7 : decode cX6_logTurn 7 = .ok (.invokestatic 67, 3) := by decide +kernel
theorem dX6_logTurn_10 : decode cX6_logTurn 10 = .ok (.ifCond .eq 29, 3) := by decide +kernel
theorem dX6_logTurn_13 : decode cX6_logTurn 13 = .ok (.aload_n 0, 1) := by decide +kernel
theorem dX6_logTurn_14 : decode cX6_logTurn 14 = .ok (.getfield 21, 3) := by decide +kernel
theorem dX6_logTurn_17 : decode cX6_logTurn 17 = .ok (.aload_n 0, 1) := by decide +kernel
theorem dX6_logTurn_18 : decode cX6_logTurn 18 = .ok (.getfield 52, 3) := by decide +kernel
theorem dX6_logTurn_21 : decode cX6_logTurn 21 = .ok (.aload_n 0, 1) := by decide +kernel
theorem dX6_logTurn_22 : decode cX6_logTurn 22 = .ok (.getfield 49, 3) := by decide +kernel
theorem dX6_logTurn_25 : decode cX6_logTurn 25 = .ok (.iastore, 1) := by decide +kernel
theorem dX6_logTurn_26 : decode cX6_logTurn 26 = .ok (.aload_n 0, 1) := by decide +kernel
theorem dX6_logTurn_27 : decode cX6_logTurn 27 = .ok (.getfield 24, 3) := by decide +kernel
theorem dX6_logTurn_30 : decode cX6_logTurn 30 = .ok (.aload_n 0, 1) := by decide +kernel
theorem dX6_logTurn_31 : decode cX6_logTurn 31 = .ok (.getfield 52, 3) := by decide +kernel
theorem dX6_logTurn_34 : decode cX6_logTurn 34 = .ok (.aload_n 0, 1) := by decide +kernel
theorem dX6_logTurn_35 : decode cX6_logTurn 35 = .ok (.getfield 55, 3) := by decide +kernel
theorem dX6_logTurn_38 : decode cX6_logTurn 38 = .ok (.iastore, 1) := by decide +kernel
theorem dX6_logTurn_39 : decode cX6_logTurn 39 = .ok (.aload_n 0, 1) := by decide +kernel
theorem dX6_logTurn_40 : decode cX6_logTurn 40 = .ok (.dup, 1) := by decide +kernel
theorem dX6_logTurn_41 : decode cX6_logTurn 41 = .ok (.getfield 52, 3) := by decide +kernel
theorem dX6_logTurn_44 : decode cX6_logTurn 44 = .ok (.iconst 1, 1) := by decide +kernel
theorem dX6_logTurn_45 : decode cX6_logTurn 45 = .ok (.iadd, 1) := by decide +kernel
theorem dX6_logTurn_46 : decode cX6_logTurn 46 = .ok (.putfield 52, 3) := by decide +kernel
theorem dX6_logTurn_49 : decode cX6_logTurn 49 = .ok (.return_, 1) := by decide +kernel
theorem dX6_held_0 : decode cX6_held 0 = .ok (.sipush (-600), 3) := by decide +kernel
theorem dX6_held_3 : decode cX6_held 3 = .ok (.iload_n 0, 1) := by decide +kernel
theorem dX6_held_4 : decode cX6_held 4 = .ok (.sipush 600, 3) := by decide +kernel
theorem dX6_held_7 : decode cX6_held 7 = .ok (.invokestatic 58, 3) := by decide +kernel
theorem dX6_held_10 : decode cX6_held 10 = .ok (.invokestatic 74, 3) := by decide +kernel
theorem dX6_held_13 : decode cX6_held 13 = .ok (.ireturn, 1) := by decide +kernel
theorem dX7_init_0 : decode cX7_init 0 = .ok (.aload_n 0, 1) := by decide +kernel
theorem dX7_init_1 : decode cX7_init 1 = .ok (.invokespecial 3, 3) := by decide +kernel
theorem dX7_init_4 : decode cX7_init 4 = .ok (.aload_n 0, 1) := by decide +kernel
theorem dX7_init_5 : decode cX7_init 5 = .ok (.new 9, 3) := by decide +kernel
theorem dX7_init_8 : decode cX7_init 8 = .ok (.dup, 1) := by decide +kernel
theorem dX7_init_9 : decode cX7_init 9 = .ok (.invokespecial 11, 3) := by decide +kernel
theorem dX7_init_12 : decode cX7_init 12 = .ok (.putfield 12, 3) := by decide +kernel
theorem dX7_init_15 : decode cX7_init 15 = .ok (.aload_n 0, 1) := by decide +kernel
theorem dX7_init_16 : decode cX7_init 16 = .ok (.new 9, 3) := by decide +kernel
theorem dX7_init_19 : decode cX7_init 19 = .ok (.dup, 1) := by decide +kernel
theorem dX7_init_20 : decode cX7_init 20 = .ok (.invokespecial 11, 3) := by decide +kernel
theorem dX7_init_23 : decode cX7_init 23 = .ok (.putfield 16, 3) := by decide +kernel
theorem dX7_init_26 : decode cX7_init 26 = .ok (.aload_n 0, 1) := by decide +kernel
theorem dX7_init_27 : decode cX7_init 27 = .ok (.new 19, 3) := by decide +kernel
theorem dX7_init_30 : decode cX7_init 30 = .ok (.dup, 1) := by decide +kernel
theorem dX7_init_31 : decode cX7_init 31 = .ok (.invokespecial 21, 3) := by decide +kernel
theorem dX7_init_34 : decode cX7_init 34 = .ok (.putfield 22, 3) := by decide +kernel
theorem dX7_init_37 : decode cX7_init 37 = .ok (.aload_n 0, 1) := by decide +kernel
theorem dX7_init_38 : decode cX7_init 38 = .ok (.new 26, 3) := by decide +kernel
theorem dX7_init_41 : decode cX7_init 41 = .ok (.dup, 1) := by decide +kernel
theorem dX7_init_42 : decode cX7_init 42 = .ok (.aload_n 0, 1) := by decide +kernel
theorem dX7_init_43 : decode cX7_init 43 = .ok (.getfield 22, 3) := by decide +kernel
theorem dX7_init_46 : decode cX7_init 46 = .ok (.invokespecial 28, 3) := by decide +kernel
theorem dX7_init_49 : decode cX7_init 49 = .ok (.putfield 31, 3) := by decide +kernel
theorem dX7_init_52 : decode cX7_init 52 = .ok (.aload_n 0, 1) := by decide +kernel
theorem dX7_init_53 : decode cX7_init 53 = .ok (.iconst 4, 1) := by decide +kernel
theorem dX7_init_54 : decode cX7_init 54 = .ok (.anewarray 35, 3) := by decide +kernel
theorem dX7_init_57 : decode cX7_init 57 = .ok (.putfield 37, 3) := by decide +kernel
theorem dX7_init_60 : decode cX7_init 60 = .ok (.aload_n 0, 1) := by decide +kernel
theorem dX7_init_61 : decode cX7_init 61 = .ok (.new 41, 3) := by decide +kernel
theorem dX7_init_64 : decode cX7_init 64 = .ok (.dup, 1) := by decide +kernel
theorem dX7_init_65 : decode cX7_init 65 = .ok (.invokespecial 43, 3) := by decide +kernel
theorem dX7_init_68 : decode cX7_init 68 = .ok (.putfield 44, 3) := by decide +kernel
theorem dX7_init_71 : decode cX7_init 71 = .ok (.aload_n 0, 1) := by decide +kernel
theorem dX7_init_72 : decode cX7_init 72 = .ok (.new 41, 3) := by decide +kernel
theorem dX7_init_75 : decode cX7_init 75 = .ok (.dup, 1) := by decide +kernel
theorem dX7_init_76 : decode cX7_init 76 = .ok (.invokespecial 43, 3) := by decide +kernel
theorem dX7_init_79 : decode cX7_init 79 = .ok (.putfield 48, 3) := by decide +kernel
theorem dX7_init_82 : decode cX7_init 82 = .ok (.aload_n 0, 1) := by decide +kernel
theorem dX7_init_83 : decode cX7_init 83 = .ok (.new 51, 3) := by decide +kernel
theorem dX7_init_86 : decode cX7_init 86 = .ok (.dup, 1) := by decide +kernel
theorem dX7_init_87 : decode cX7_init 87 = .ok (.invokespecial 53, 3) := by decide +kernel
theorem dX7_init_90 : decode cX7_init 90 = .ok (.putfield 54, 3) := by decide +kernel
theorem dX7_init_93 : decode cX7_init 93 = .ok (.aload_n 0, 1) := by decide +kernel
theorem dX7_init_94 : decode cX7_init 94 = .ok (.bipush 7, 2) := by decide +kernel
theorem dX7_init_96 : decode cX7_init 96 = .ok (.newarray .int, 2) := by decide +kernel
theorem dX7_init_98 : decode cX7_init 98 = .ok (.putfield 58, 3) := by decide +kernel
theorem dX7_init_101 : decode cX7_init 101 = .ok (.iconst 0, 1) := by decide +kernel
theorem dX7_init_102 : decode cX7_init 102 = .ok (.istore_n 1, 1) := by decide +kernel
theorem dX7_init_103 : decode cX7_init 103 = .ok (.iload_n 1, 1) := by decide +kernel
theorem dX7_init_104 : decode cX7_init 104 = .ok (.iconst 4, 1) := by decide +kernel
theorem dX7_init_105 : decode cX7_init 105 = .ok (.if_icmp .ge 22, 3) := by decide +kernel
theorem dX7_init_108 : decode cX7_init 108 = .ok (.aload_n 0, 1) := by decide +kernel
theorem dX7_init_109 : decode cX7_init 109 = .ok (.getfield 37, 3) := by decide +kernel
theorem dX7_init_112 : decode cX7_init 112 = .ok (.iload_n 1, 1) := by decide +kernel
theorem dX7_init_113 : decode cX7_init 113 = .ok (.new 35, 3) := by decide +kernel
theorem dX7_init_116 : decode cX7_init 116 = .ok (.dup, 1) := by decide +kernel
theorem dX7_init_117 : decode cX7_init 117 = .ok (.invokespecial 62, 3) := by decide +kernel
theorem dX7_init_120 : decode cX7_init 120 = .ok (.aastore, 1) := by decide +kernel
theorem dX7_init_121 : decode cX7_init 121 = .ok (.iinc 1 1, 3) := by decide +kernel
theorem dX7_init_124 : decode cX7_init 124 = .ok (.goto (-21), 3) := by decide +kernel
theorem dX7_init_127 : decode cX7_init 127 = .ok (.return_, 1) := by decide +kernel
theorem dX7_set_0 : decode cX7_set 0 = .ok (.iload_n 1, 1) := by decide +kernel
theorem dX7_set_1 : decode cX7_set 1 = .ok (.iconst 0, 1) := by decide +kernel
theorem dX7_set_2 : decode cX7_set 2 = .ok (.iconst 3, 1) := by decide +kernel
theorem dX7_set_3 : decode cX7_set 3 = .ok (.invokestatic 63, 3) := by decide +kernel
theorem dX7_set_6 : decode cX7_set 6 = .ok (.ifCond .ne 10, 3) := by decide +kernel
theorem dX7_set_9 : decode cX7_set 9 = .ok (.aload_n 0, 1) := by decide +kernel
theorem dX7_set_10 : decode cX7_set 10 = .ok (.ldc 67, 2) := by decide +kernel
theorem dX7_set_12 : decode cX7_set 12 = .ok (.invokevirtual 68, 3) := by decide +kernel
theorem dX7_set_15 : decode cX7_set 15 = .ok (.ireturn, 1) := by decide +kernel
theorem dX7_set_16 : decode cX7_set 16 = .ok (.iload_n 1, 1) := by decide +kernel
theorem dX7_set_17 : decode cX7_set 17 = .ok (.iconst 3, 1) := by decide +kernel
theorem dX7_set_18 : decode cX7_set 18 = .ok (.if_icmp .ne 7, 3) := by decide +kernel
theorem dX7_set_21 : decode cX7_set 21 = .ok (.iconst 1, 1) := by decide +kernel
theorem dX7_set_22 : decode cX7_set 22 = .ok (.goto 4, 3) := by decide +kernel
theorem dX7_set_25 : decode cX7_set 25 = .ok (.iconst 0, 1) := by decide +kernel
theorem dX7_set_26 : decode cX7_set 26 = .ok (.istore_n 3, 1) := by decide +kernel
theorem dX7_set_27 : decode cX7_set 27 = .ok (.iload_n 2, 1) := by decide +kernel
theorem dX7_set_28 : decode cX7_set 28 = .ok (.iload_n 3, 1) := by decide +kernel
theorem dX7_set_29 : decode cX7_set 29 = .ok (.bipush 99, 2) := by decide +kernel
theorem dX7_set_31 : decode cX7_set 31 = .ok (.invokestatic 63, 3) := by decide +kernel
theorem dX7_set_34 : decode cX7_set 34 = .ok (.ifCond .ne 10, 3) := by decide +kernel
theorem dX7_set_37 : decode cX7_set 37 = .ok (.aload_n 0, 1) := by decide +kernel
theorem dX7_set_38 : decode cX7_set 38 = .ok (.ldc 67, 2) := by decide +kernel
theorem dX7_set_40 : decode cX7_set 40 = .ok (.invokevirtual 68, 3) := by decide +kernel
theorem dX7_set_43 : decode cX7_set 43 = .ok (.ireturn, 1) := by decide +kernel
theorem dX7_set_44 : decode cX7_set 44 = .ok (.aload_n 0, 1) := by decide +kernel
theorem dX7_set_45 : decode cX7_set 45 = .ok (.getfield 12, 3) := by decide +kernel
theorem dX7_set_48 : decode cX7_set 48 = .ok (.getfield 72, 3) := by decide +kernel
theorem dX7_set_51 : decode cX7_set 51 = .ok (.getfield 75, 3) := by decide +kernel
theorem dX7_set_54 : decode cX7_set 54 = .ok (.iload_n 1, 1) := by decide +kernel
theorem dX7_set_55 : decode cX7_set 55 = .ok (.iaload, 1) := by decide +kernel
theorem dX7_set_56 : decode cX7_set 56 = .ok (.istore 4, 2) := by decide +kernel
theorem dX7_set_58 : decode cX7_set 58 = .ok (.aload_n 0, 1) := by decide +kernel
theorem dX7_set_59 : decode cX7_set 59 = .ok (.getfield 12, 3) := by decide +kernel
theorem dX7_set_62 : decode cX7_set 62 = .ok (.getfield 72, 3) := by decide +kernel
theorem dX7_set_65 : decode cX7_set 65 = .ok (.getfield 75, 3) := by decide +kernel
theorem dX7_set_68 : decode cX7_set 68 = .ok (.iload_n 1, 1) := by decide +kernel
theorem dX7_set_69 : decode cX7_set 69 = .ok (.iload_n 2, 1) := by decide +kernel
theorem dX7_set_70 : decode cX7_set 70 = .ok (.iastore, 1) := by decide +kernel
theorem dX7_set_71 : decode cX7_set 71 = .ok (.iload 4, 2) := by decide +kernel
theorem dX7_set_73 : decode cX7_set 73 = .ok (.ireturn, 1) := by decide +kernel
theorem dX7_kind_0 : decode cX7_kind 0 = .ok (.iload_n 1, 1) := by decide +kernel
theorem dX7_kind_1 : decode cX7_kind 1 = .ok (.invokestatic 78, 3) := by decide +kernel
theorem dX7_kind_4 : decode cX7_kind 4 = .ok (.ifCond .eq 10, 3) := by decide +kernel
theorem dX7_kind_7 : decode cX7_kind 7 = .ok (.iload_n 2, 1) := by decide +kernel
theorem dX7_kind_8 : decode cX7_kind 8 = .ok (.invokestatic 82, 3) := by decide +kernel
theorem dX7_kind_11 : decode cX7_kind 11 = .ok (.ifCond .ne 10, 3) := by decide +kernel
theorem dX7_kind_14 : decode cX7_kind 14 = .ok (.aload_n 0, 1) := by decide +kernel
theorem dX7_kind_15 : decode cX7_kind 15 = .ok (.ldc 67, 2) := by decide +kernel
theorem dX7_kind_17 : decode cX7_kind 17 = .ok (.invokevirtual 68, 3) := by decide +kernel
theorem dX7_kind_20 : decode cX7_kind 20 = .ok (.ireturn, 1) := by decide +kernel
theorem dX7_kind_21 : decode cX7_kind 21 = .ok (.aload_n 0, 1) := by decide +kernel
theorem dX7_kind_22 : decode cX7_kind 22 = .ok (.getfield 12, 3) := by decide +kernel
theorem dX7_kind_25 : decode cX7_kind 25 = .ok (.getfield 72, 3) := by decide +kernel
theorem dX7_kind_28 : decode cX7_kind 28 = .ok (.getfield 85, 3) := by decide +kernel
theorem dX7_kind_31 : decode cX7_kind 31 = .ok (.iload_n 1, 1) := by decide +kernel
theorem dX7_kind_32 : decode cX7_kind 32 = .ok (.iaload, 1) := by decide +kernel
theorem dX7_kind_33 : decode cX7_kind 33 = .ok (.istore_n 3, 1) := by decide +kernel
theorem dX7_kind_34 : decode cX7_kind 34 = .ok (.aload_n 0, 1) := by decide +kernel
theorem dX7_kind_35 : decode cX7_kind 35 = .ok (.getfield 12, 3) := by decide +kernel
theorem dX7_kind_38 : decode cX7_kind 38 = .ok (.getfield 72, 3) := by decide +kernel
theorem dX7_kind_41 : decode cX7_kind 41 = .ok (.getfield 85, 3) := by decide +kernel
theorem dX7_kind_44 : decode cX7_kind 44 = .ok (.iload_n 1, 1) := by decide +kernel
theorem dX7_kind_45 : decode cX7_kind 45 = .ok (.iload_n 2, 1) := by decide +kernel
theorem dX7_kind_46 : decode cX7_kind 46 = .ok (.iastore, 1) := by decide +kernel
theorem dX7_kind_47 : decode cX7_kind 47 = .ok (.iload_n 3, 1) := by decide +kernel
theorem dX7_kind_48 : decode cX7_kind 48 = .ok (.ireturn, 1) := by decide +kernel
theorem dX7_cupOf_0 : decode cX7_cupOf 0 = .ok (.iload_n 1, 1) := by decide +kernel
theorem dX7_cupOf_1 : decode cX7_cupOf 1 = .ok (.invokestatic 78, 3) := by decide +kernel
theorem dX7_cupOf_4 : decode cX7_cupOf 4 = .ok (.ifCond .ne 10, 3) := by decide +kernel
theorem dX7_cupOf_7 : decode cX7_cupOf 7 = .ok (.aload_n 0, 1) := by decide +kernel
theorem dX7_cupOf_8 : decode cX7_cupOf 8 = .ok (.ldc 67, 2) := by decide +kernel
theorem dX7_cupOf_10 : decode cX7_cupOf 10 = .ok (.invokevirtual 68, 3) := by decide +kernel
theorem dX7_cupOf_13 : decode cX7_cupOf 13 = .ok (.ireturn, 1) := by decide +kernel
theorem dX7_cupOf_14 : decode cX7_cupOf 14 = .ok (.iload_n 2, 1) := by decide +kernel
theorem dX7_cupOf_15 : decode cX7_cupOf 15 = .ok (.tableswitch 95 0 4 #[33, 46, 59, 71, 83], 33) := by decide +kernel
theorem dX7_cupOf_48 : decode cX7_cupOf 48 = .ok (.aload_n 0, 1) := by decide +kernel
theorem dX7_cupOf_49 : decode cX7_cupOf 49 = .ok (.getfield 12, 3) := by decide +kernel
theorem dX7_cupOf_52 : decode cX7_cupOf 52 = .ok (.getfield 72, 3) := by decide +kernel
theorem dX7_cupOf_55 : decode cX7_cupOf 55 = .ok (.getfield 85, 3) := by decide +kernel
theorem dX7_cupOf_58 : decode cX7_cupOf 58 = .ok (.iload_n 1, 1) := by decide +kernel
theorem dX7_cupOf_59 : decode cX7_cupOf 59 = .ok (.iaload, 1) := by decide +kernel
theorem dX7_cupOf_60 : decode cX7_cupOf 60 = .ok (.ireturn, 1) := by decide +kernel
theorem dX7_cupOf_61 : decode cX7_cupOf 61 = .ok (.aload_n 0, 1) := by decide +kernel
theorem dX7_cupOf_62 : decode cX7_cupOf 62 = .ok (.getfield 12, 3) := by decide +kernel
theorem dX7_cupOf_65 : decode cX7_cupOf 65 = .ok (.getfield 72, 3) := by decide +kernel
theorem dX7_cupOf_68 : decode cX7_cupOf 68 = .ok (.getfield 88, 3) := by decide +kernel
theorem dX7_cupOf_71 : decode cX7_cupOf 71 = .ok (.iload_n 1, 1) := by decide +kernel
theorem dX7_cupOf_72 : decode cX7_cupOf 72 = .ok (.iaload, 1) := by decide +kernel
theorem dX7_cupOf_73 : decode cX7_cupOf 73 = .ok (.ireturn, 1) := by decide +kernel
theorem dX7_cupOf_74 : decode cX7_cupOf 74 = .ok (.aload_n 0, 1) := by decide +kernel
theorem dX7_cupOf_75 : decode cX7_cupOf 75 = .ok (.getfield 12, 3) := by decide +kernel
theorem dX7_cupOf_78 : decode cX7_cupOf 78 = .ok (.getfield 72, 3) := by decide +kernel
theorem dX7_cupOf_81 : decode cX7_cupOf 81 = .ok (.iload_n 1, 1) := by decide +kernel
theorem dX7_cupOf_82 : decode cX7_cupOf 82 = .ok (.invokevirtual 91, 3) := by decide +kernel
theorem dX7_cupOf_85 : decode cX7_cupOf 85 = .ok (.ireturn, 1) := by decide +kernel
theorem dX7_cupOf_86 : decode cX7_cupOf 86 = .ok (.aload_n 0, 1) := by decide +kernel
theorem dX7_cupOf_87 : decode cX7_cupOf 87 = .ok (.getfield 12, 3) := by decide +kernel
theorem dX7_cupOf_90 : decode cX7_cupOf 90 = .ok (.getfield 72, 3) := by decide +kernel
theorem dX7_cupOf_93 : decode cX7_cupOf 93 = .ok (.iload_n 1, 1) := by decide +kernel
theorem dX7_cupOf_94 : decode cX7_cupOf 94 = .ok (.invokevirtual 94, 3) := by decide +kernel
theorem dX7_cupOf_97 : decode cX7_cupOf 97 = .ok (.ireturn, 1) := by decide +kernel
theorem dX7_cupOf_98 : decode cX7_cupOf 98 = .ok (.aload_n 0, 1) := by decide +kernel
theorem dX7_cupOf_99 : decode cX7_cupOf 99 = .ok (.getfield 12, 3) := by decide +kernel
theorem dX7_cupOf_102 : decode cX7_cupOf 102 = .ok (.getfield 72, 3) := by decide +kernel
theorem dX7_cupOf_105 : decode cX7_cupOf 105 = .ok (.iload_n 1, 1) := by decide +kernel
theorem dX7_cupOf_106 : decode cX7_cupOf 106 = .ok (.invokevirtual 97, 3) := by decide +kernel
theorem dX7_cupOf_109 : decode cX7_cupOf 109 = .ok (.ireturn, 1) := by decide +kernel
theorem dX7_cupOf_110 : decode cX7_cupOf 110 = .ok (.aload_n 0, 1) := by decide +kernel
theorem dX7_cupOf_111 : decode cX7_cupOf 111 = .ok (.ldc 67, 2) := by decide +kernel
theorem dX7_cupOf_113 : decode cX7_cupOf 113 = .ok (.invokevirtual 68, 3) := by decide +kernel
theorem dX7_cupOf_116 : decode cX7_cupOf 116 = .ok (.ireturn, 1) := by decide +kernel
theorem dX7_fill_0 : decode cX7_fill 0 = .ok (.iload_n 1, 1) := by decide +kernel
theorem dX7_fill_1 : decode cX7_fill 1 = .ok (.invokestatic 78, 3) := by decide +kernel
theorem dX7_fill_4 : decode cX7_fill 4 = .ok (.ifCond .eq 14, 3) := by decide +kernel
theorem dX7_fill_7 : decode cX7_fill 7 = .ok (.iload_n 2, 1) := by decide +kernel
theorem dX7_fill_8 : decode cX7_fill 8 = .ok (.iconst 1, 1) := by decide +kernel
theorem dX7_fill_9 : decode cX7_fill 9 = .ok (.sipush 999, 3) := by decide +kernel
theorem dX7_fill_12 : decode cX7_fill 12 = .ok (.invokestatic 63, 3) := by decide +kernel
theorem dX7_fill_15 : decode cX7_fill 15 = .ok (.ifCond .ne 10, 3) := by decide +kernel
theorem dX7_fill_18 : decode cX7_fill 18 = .ok (.aload_n 0, 1) := by decide +kernel
theorem dX7_fill_19 : decode cX7_fill 19 = .ok (.ldc 67, 2) := by decide +kernel
theorem dX7_fill_21 : decode cX7_fill 21 = .ok (.invokevirtual 68, 3) := by decide +kernel
theorem dX7_fill_24 : decode cX7_fill 24 = .ok (.ireturn, 1) := by decide +kernel
theorem dX7_fill_25 : decode cX7_fill 25 = .ok (.aload_n 0, 1) := by decide +kernel
theorem dX7_fill_26 : decode cX7_fill 26 = .ok (.getfield 12, 3) := by decide +kernel
theorem dX7_fill_29 : decode cX7_fill 29 = .ok (.getfield 72, 3) := by decide +kernel
theorem dX7_fill_32 : decode cX7_fill 32 = .ok (.astore_n 3, 1) := by decide +kernel
theorem dX7_fill_33 : decode cX7_fill 33 = .ok (.aload_n 3, 1) := by decide +kernel
theorem dX7_fill_34 : decode cX7_fill 34 = .ok (.iload_n 1, 1) := by decide +kernel
theorem dX7_fill_35 : decode cX7_fill 35 = .ok (.invokevirtual 94, 3) := by decide +kernel
theorem dX7_fill_38 : decode cX7_fill 38 = .ok (.aload_n 3, 1) := by decide +kernel
theorem dX7_fill_39 : decode cX7_fill 39 = .ok (.getfield 88, 3) := by decide +kernel
theorem dX7_fill_42 : decode cX7_fill 42 = .ok (.iload_n 1, 1) := by decide +kernel
theorem dX7_fill_43 : decode cX7_fill 43 = .ok (.iaload, 1) := by decide +kernel
theorem dX7_fill_44 : decode cX7_fill 44 = .ok (.isub, 1) := by decide +kernel
theorem dX7_fill_45 : decode cX7_fill 45 = .ok (.iload_n 2, 1) := by decide +kernel
theorem dX7_fill_46 : decode cX7_fill 46 = .ok (.if_icmp .ge 10, 3) := by decide +kernel
theorem dX7_fill_49 : decode cX7_fill 49 = .ok (.aload_n 0, 1) := by decide +kernel
theorem dX7_fill_50 : decode cX7_fill 50 = .ok (.ldc 100, 2) := by decide +kernel
theorem dX7_fill_52 : decode cX7_fill 52 = .ok (.invokevirtual 68, 3) := by decide +kernel
theorem dX7_fill_55 : decode cX7_fill 55 = .ok (.ireturn, 1) := by decide +kernel
theorem dX7_fill_56 : decode cX7_fill 56 = .ok (.aload_n 3, 1) := by decide +kernel
theorem dX7_fill_57 : decode cX7_fill 57 = .ok (.getfield 88, 3) := by decide +kernel
theorem dX7_fill_60 : decode cX7_fill 60 = .ok (.iload_n 1, 1) := by decide +kernel
theorem dX7_fill_61 : decode cX7_fill 61 = .ok (.dup2, 1) := by decide +kernel
theorem dX7_fill_62 : decode cX7_fill 62 = .ok (.iaload, 1) := by decide +kernel
theorem dX7_fill_63 : decode cX7_fill 63 = .ok (.iload_n 2, 1) := by decide +kernel
theorem dX7_fill_64 : decode cX7_fill 64 = .ok (.iadd, 1) := by decide +kernel
theorem dX7_fill_65 : decode cX7_fill 65 = .ok (.iastore, 1) := by decide +kernel
theorem dX7_fill_66 : decode cX7_fill 66 = .ok (.aload_n 3, 1) := by decide +kernel
theorem dX7_fill_67 : decode cX7_fill 67 = .ok (.getfield 88, 3) := by decide +kernel
theorem dX7_fill_70 : decode cX7_fill 70 = .ok (.iload_n 1, 1) := by decide +kernel
theorem dX7_fill_71 : decode cX7_fill 71 = .ok (.iaload, 1) := by decide +kernel
theorem dX7_fill_72 : decode cX7_fill 72 = .ok (.ireturn, 1) := by decide +kernel
theorem dX7_empty_0 : decode cX7_empty 0 = .ok (.iload_n 1, 1) := by decide +kernel
theorem dX7_empty_1 : decode cX7_empty 1 = .ok (.invokestatic 78, 3) := by decide +kernel
theorem dX7_empty_4 : decode cX7_empty 4 = .ok (.ifCond .ne 10, 3) := by decide +kernel
theorem dX7_empty_7 : decode cX7_empty 7 = .ok (.aload_n 0, 1) := by decide +kernel
theorem dX7_empty_8 : decode cX7_empty 8 = .ok (.ldc 67, 2) := by decide +kernel
theorem dX7_empty_10 : decode cX7_empty 10 = .ok (.invokevirtual 68, 3) := by decide +kernel
theorem dX7_empty_13 : decode cX7_empty 13 = .ok (.ireturn, 1) := by decide +kernel
theorem dX7_empty_14 : decode cX7_empty 14 = .ok (.aload_n 0, 1) := by decide +kernel
theorem dX7_empty_15 : decode cX7_empty 15 = .ok (.getfield 12, 3) := by decide +kernel
theorem dX7_empty_18 : decode cX7_empty 18 = .ok (.getfield 72, 3) := by decide +kernel
theorem dX7_empty_21 : decode cX7_empty 21 = .ok (.getfield 88, 3) := by decide +kernel
theorem dX7_empty_24 : decode cX7_empty 24 = .ok (.iload_n 1, 1) := by decide +kernel
theorem dX7_empty_25 : decode cX7_empty 25 = .ok (.iaload, 1) := by decide +kernel
theorem dX7_empty_26 : decode cX7_empty 26 = .ok (.istore_n 2, 1) := by decide +kernel
theorem dX7_empty_27 : decode cX7_empty 27 = .ok (.aload_n 0, 1) := by decide +kernel
theorem dX7_empty_28 : decode cX7_empty 28 = .ok (.getfield 12, 3) := by decide +kernel
theorem dX7_empty_31 : decode cX7_empty 31 = .ok (.getfield 72, 3) := by decide +kernel
theorem dX7_empty_34 : decode cX7_empty 34 = .ok (.getfield 88, 3) := by decide +kernel
theorem dX7_empty_37 : decode cX7_empty 37 = .ok (.iload_n 1, 1) := by decide +kernel
theorem dX7_empty_38 : decode cX7_empty 38 = .ok (.iconst 0, 1) := by decide +kernel
theorem dX7_empty_39 : decode cX7_empty 39 = .ok (.iastore, 1) := by decide +kernel
theorem dX7_empty_40 : decode cX7_empty 40 = .ok (.iload_n 2, 1) := by decide +kernel
theorem dX7_empty_41 : decode cX7_empty 41 = .ok (.ireturn, 1) := by decide +kernel
theorem dX7_touch_0 : decode cX7_touch 0 = .ok (.iload_n 1, 1) := by decide +kernel
theorem dX7_touch_1 : decode cX7_touch 1 = .ok (.invokestatic 101, 3) := by decide +kernel
theorem dX7_touch_4 : decode cX7_touch 4 = .ok (.ifCond .ne 10, 3) := by decide +kernel
theorem dX7_touch_7 : decode cX7_touch 7 = .ok (.aload_n 0, 1) := by decide +kernel
theorem dX7_touch_8 : decode cX7_touch 8 = .ok (.ldc 67, 2) := by decide +kernel
theorem dX7_touch_10 : decode cX7_touch 10 = .ok (.invokevirtual 68, 3) := by decide +kernel
theorem dX7_touch_13 : decode cX7_touch 13 = .ok (.ireturn, 1) := by decide +kernel
theorem dX7_touch_14 : decode cX7_touch 14 = .ok (.aload_n 0, 1) := by decide +kernel
theorem dX7_touch_15 : decode cX7_touch 15 = .ok (.getfield 12, 3) := by decide +kernel
theorem dX7_touch_18 : decode cX7_touch 18 = .ok (.getfield 72, 3) := by decide +kernel
theorem dX7_touch_21 : decode cX7_touch 21 = .ok (.iload_n 1, 1) := by decide +kernel
theorem dX7_touch_22 : decode cX7_touch 22 = .ok (.invokevirtual 104, 3) := by decide +kernel
theorem dX7_touch_25 : decode cX7_touch 25 = .ok (.aload_n 0, 1) := by decide +kernel
theorem dX7_touch_26 : decode cX7_touch 26 = .ok (.getfield 12, 3) := by decide +kernel
theorem dX7_touch_29 : decode cX7_touch 29 = .ok (.getfield 72, 3) := by decide +kernel
theorem dX7_touch_32 : decode cX7_touch 32 = .ok (.getfield 108, 3) := by decide +kernel
theorem dX7_touch_35 : decode cX7_touch 35 = .ok (.ireturn, 1) := by decide +kernel
theorem dX7_stop_0 : decode cX7_stop 0 = .ok (.iload_n 1, 1) := by decide +kernel
theorem dX7_stop_1 : decode cX7_stop 1 = .ok (.iconst 0, 1) := by decide +kernel
theorem dX7_stop_2 : decode cX7_stop 2 = .ok (.sipush 1199, 3) := by decide +kernel
theorem dX7_stop_5 : decode cX7_stop 5 = .ok (.invokestatic 63, 3) := by decide +kernel
theorem dX7_stop_8 : decode cX7_stop 8 = .ok (.ifCond .ne 10, 3) := by decide +kernel
theorem dX7_stop_11 : decode cX7_stop 11 = .ok (.aload_n 0, 1) := by decide +kernel
theorem dX7_stop_12 : decode cX7_stop 12 = .ok (.ldc 67, 2) := by decide +kernel
theorem dX7_stop_14 : decode cX7_stop 14 = .ok (.invokevirtual 68, 3) := by decide +kernel
theorem dX7_stop_17 : decode cX7_stop 17 = .ok (.ireturn, 1) := by decide +kernel
theorem dX7_stop_18 : decode cX7_stop 18 = .ok (.aload_n 0, 1) := by decide +kernel
theorem dX7_stop_19 : decode cX7_stop 19 = .ok (.getfield 12, 3) := by decide +kernel
theorem dX7_stop_22 : decode cX7_stop 22 = .ok (.getfield 72, 3) := by decide +kernel
theorem dX7_stop_25 : decode cX7_stop 25 = .ok (.getfield 108, 3) := by decide +kernel
theorem dX7_stop_28 : decode cX7_stop 28 = .ok (.istore_n 2, 1) := by decide +kernel
theorem dX7_stop_29 : decode cX7_stop 29 = .ok (.aload_n 0, 1) := by decide +kernel
theorem dX7_stop_30 : decode cX7_stop 30 = .ok (.getfield 12, 3) := by decide +kernel
theorem dX7_stop_33 : decode cX7_stop 33 = .ok (.getfield 72, 3) := by decide +kernel
theorem dX7_stop_36 : decode cX7_stop 36 = .ok (.iconst 0, 1) := by decide +kernel
theorem dX7_stop_37 : decode cX7_stop 37 = .ok (.putfield 108, 3) := by decide +kernel
theorem dX7_stop_40 : decode cX7_stop 40 = .ok (.aload_n 0, 1) := by decide +kernel
theorem dX7_stop_41 : decode cX7_stop 41 = .ok (.getfield 12, 3) := by decide +kernel
theorem dX7_stop_44 : decode cX7_stop 44 = .ok (.getfield 72, 3) := by decide +kernel
theorem dX7_stop_47 : decode cX7_stop 47 = .ok (.iload_n 1, 1) := by decide +kernel
theorem dX7_stop_48 : decode cX7_stop 48 = .ok (.putfield 112, 3) := by decide +kernel
theorem dX7_stop_51 : decode cX7_stop 51 = .ok (.iload_n 2, 1) := by decide +kernel
theorem dX7_stop_52 : decode cX7_stop 52 = .ok (.ireturn, 1) := by decide +kernel
theorem dX7_tick_0 : decode cX7_tick 0 = .ok (.iload_n 1, 1) := by decide +kernel
theorem dX7_tick_1 : decode cX7_tick 1 = .ok (.iconst 1, 1) := by decide +kernel
theorem dX7_tick_2 : decode cX7_tick 2 = .ok (.bipush 100, 2) := by decide +kernel
theorem dX7_tick_4 : decode cX7_tick 4 = .ok (.invokestatic 63, 3) := by decide +kernel
theorem dX7_tick_7 : decode cX7_tick 7 = .ok (.ifCond .ne 10, 3) := by decide +kernel
theorem dX7_tick_10 : decode cX7_tick 10 = .ok (.aload_n 0, 1) := by decide +kernel
theorem dX7_tick_11 : decode cX7_tick 11 = .ok (.ldc 67, 2) := by decide +kernel
theorem dX7_tick_13 : decode cX7_tick 13 = .ok (.invokevirtual 68, 3) := by decide +kernel
theorem dX7_tick_16 : decode cX7_tick 16 = .ok (.ireturn, 1) := by decide +kernel
theorem dX7_tick_17 : decode cX7_tick 17 = .ok (.aload_n 0, 1) := by decide +kernel
theorem dX7_tick_18 : decode cX7_tick 18 = .ok (.getfield 12, 3) := by decide +kernel
theorem dX7_tick_21 : decode cX7_tick 21 = .ok (.getfield 72, 3) := by decide +kernel
theorem dX7_tick_24 : decode cX7_tick 24 = .ok (.iload_n 1, 1) := by decide +kernel
theorem dX7_tick_25 : decode cX7_tick 25 = .ok (.invokevirtual 115, 3) := by decide +kernel
theorem dX7_tick_28 : decode cX7_tick 28 = .ok (.aload_n 0, 1) := by decide +kernel
theorem dX7_tick_29 : decode cX7_tick 29 = .ok (.getfield 12, 3) := by decide +kernel
theorem dX7_tick_32 : decode cX7_tick 32 = .ok (.getfield 72, 3) := by decide +kernel
theorem dX7_tick_35 : decode cX7_tick 35 = .ok (.getfield 108, 3) := by decide +kernel
theorem dX7_tick_38 : decode cX7_tick 38 = .ok (.ireturn, 1) := by decide +kernel
theorem dX7_now_0 : decode cX7_now 0 = .ok (.aload_n 0, 1) := by decide +kernel
theorem dX7_now_1 : decode cX7_now 1 = .ok (.getfield 12, 3) := by decide +kernel
theorem dX7_now_4 : decode cX7_now 4 = .ok (.getfield 72, 3) := by decide +kernel
theorem dX7_now_7 : decode cX7_now 7 = .ok (.astore_n 2, 1) := by decide +kernel
theorem dX7_now_8 : decode cX7_now 8 = .ok (.iload_n 1, 1) := by decide +kernel
theorem dX7_now_9 : decode cX7_now 9 = .ok (.tableswitch 87 0 7 #[47, 52, 57, 62, 67, 72, 77, 82], 47) := by decide +kernel
theorem dX7_now_56 : decode cX7_now 56 = .ok (.aload_n 2, 1) := by decide +kernel
theorem dX7_now_57 : decode cX7_now 57 = .ok (.getfield 108, 3) := by decide +kernel
theorem dX7_now_60 : decode cX7_now 60 = .ok (.ireturn, 1) := by decide +kernel
theorem dX7_now_61 : decode cX7_now 61 = .ok (.aload_n 2, 1) := by decide +kernel
theorem dX7_now_62 : decode cX7_now 62 = .ok (.getfield 112, 3) := by decide +kernel
theorem dX7_now_65 : decode cX7_now 65 = .ok (.ireturn, 1) := by decide +kernel
theorem dX7_now_66 : decode cX7_now 66 = .ok (.aload_n 2, 1) := by decide +kernel
theorem dX7_now_67 : decode cX7_now 67 = .ok (.getfield 118, 3) := by decide +kernel
theorem dX7_now_70 : decode cX7_now 70 = .ok (.ireturn, 1) := by decide +kernel
theorem dX7_now_71 : decode cX7_now 71 = .ok (.aload_n 2, 1) := by decide +kernel
theorem dX7_now_72 : decode cX7_now 72 = .ok (.invokevirtual 121, 3) := by decide +kernel
theorem dX7_now_75 : decode cX7_now 75 = .ok (.ireturn, 1) := by decide +kernel
theorem dX7_now_76 : decode cX7_now 76 = .ok (.aload_n 2, 1) := by decide +kernel
theorem dX7_now_77 : decode cX7_now 77 = .ok (.getfield 125, 3) := by decide +kernel
theorem dX7_now_80 : decode cX7_now 80 = .ok (.ireturn, 1) := by decide +kernel
theorem dX7_now_81 : decode cX7_now 81 = .ok (.aload_n 2, 1) := by decide +kernel
theorem dX7_now_82 : decode cX7_now 82 = .ok (.getfield 128, 3) := by decide +kernel
theorem dX7_now_85 : decode cX7_now 85 = .ok (.ireturn, 1) := by decide +kernel
theorem dX7_now_86 : decode cX7_now 86 = .ok (.aload_n 2, 1) := by decide +kernel
theorem dX7_now_87 : decode cX7_now 87 = .ok (.getfield 131, 3) := by decide +kernel
theorem dX7_now_90 : decode cX7_now 90 = .ok (.ireturn, 1) := by decide +kernel
theorem dX7_now_91 : decode cX7_now 91 = .ok (.aload_n 2, 1) := by decide +kernel
theorem dX7_now_92 : decode cX7_now 92 = .ok (.invokevirtual 134, 3) := by decide +kernel
theorem dX7_now_95 : decode cX7_now 95 = .ok (.ireturn, 1) := by decide +kernel
theorem dX7_now_96 : decode cX7_now 96 = .ok (.aload_n 0, 1) := by decide +kernel
theorem dX7_now_97 : decode cX7_now 97 = .ok (.ldc 67, 2) := by decide +kernel
theorem dX7_now_99 : decode cX7_now 99 = .ok (.invokevirtual 68, 3) := by decide +kernel
theorem dX7_now_102 : decode cX7_now 102 = .ok (.ireturn, 1) := by decide +kernel
theorem dX7_torque_0 : decode cX7_torque 0 = .ok (.aload_n 0, 1) := by decide +kernel
theorem dX7_torque_1 : decode cX7_torque 1 = .ok (.getfield 12, 3) := by decide +kernel
theorem dX7_torque_4 : decode cX7_torque 4 = .ok (.getfield 72, 3) := by decide +kernel
theorem dX7_torque_7 : decode cX7_torque 7 = .ok (.invokevirtual 137, 3) := by decide +kernel
theorem dX7_torque_10 : decode cX7_torque 10 = .ok (.ireturn, 1) := by decide +kernel
theorem dX7_turn_0 : decode cX7_turn 0 = .ok (.iload_n 1, 1) := by decide +kernel
theorem dX7_turn_1 : decode cX7_turn 1 = .ok (.iconst 0, 1) := by decide +kernel
theorem dX7_turn_2 : decode cX7_turn 2 = .ok (.aload_n 0, 1) := by decide +kernel
theorem dX7_turn_3 : decode cX7_turn 3 = .ok (.getfield 12, 3) := by decide +kernel
theorem dX7_turn_6 : decode cX7_turn 6 = .ok (.getfield 72, 3) := by decide +kernel
theorem dX7_turn_9 : decode cX7_turn 9 = .ok (.invokevirtual 140, 3) := by decide +kernel
theorem dX7_turn_12 : decode cX7_turn 12 = .ok (.iconst 1, 1) := by decide +kernel
theorem dX7_turn_13 : decode cX7_turn 13 = .ok (.isub, 1) := by decide +kernel
theorem dX7_turn_14 : decode cX7_turn 14 = .ok (.invokestatic 63, 3) := by decide +kernel
theorem dX7_turn_17 : decode cX7_turn 17 = .ok (.ifCond .ne 10, 3) := by decide +kernel
theorem dX7_turn_20 : decode cX7_turn 20 = .ok (.aload_n 0, 1) := by decide +kernel
theorem dX7_turn_21 : decode cX7_turn 21 = .ok (.ldc 67, 2) := by decide +kernel
theorem dX7_turn_23 : decode cX7_turn 23 = .ok (.invokevirtual 68, 3) := by decide +kernel
theorem dX7_turn_26 : decode cX7_turn 26 = .ok (.ireturn, 1) := by decide +kernel
theorem dX7_turn_27 : decode cX7_turn 27 = .ok (.iload_n 2, 1) := by decide +kernel
theorem dX7_turn_28 : decode cX7_turn 28 = .ok (.lookupswitch 54 #[(0, 28), (1, 41)], 28) := by decide +kernel
theorem dX7_turn_56 : decode cX7_turn 56 = .ok (.aload_n 0, 1) := by decide +kernel
theorem dX7_turn_57 : decode cX7_turn 57 = .ok (.getfield 12, 3) := by decide +kernel
theorem dX7_turn_60 : decode cX7_turn 60 = .ok (.getfield 72, 3) := by decide +kernel
theorem dX7_turn_63 : decode cX7_turn 63 = .ok (.getfield 143, 3) := by decide +kernel
theorem dX7_turn_66 : decode cX7_turn 66 = .ok (.iload_n 1, 1) := by decide +kernel
theorem dX7_turn_67 : decode cX7_turn 67 = .ok (.iaload, 1) := by decide +kernel
theorem dX7_turn_68 : decode cX7_turn 68 = .ok (.ireturn, 1) := by decide +kernel
theorem dX7_turn_69 : decode cX7_turn 69 = .ok (.aload_n 0, 1) := by decide +kernel
theorem dX7_turn_70 : decode cX7_turn 70 = .ok (.getfield 12, 3) := by decide +kernel
theorem dX7_turn_73 : decode cX7_turn 73 = .ok (.getfield 72, 3) := by decide +kernel
theorem dX7_turn_76 : decode cX7_turn 76 = .ok (.getfield 146, 3) := by decide +kernel
theorem dX7_turn_79 : decode cX7_turn 79 = .ok (.iload_n 1, 1) := by decide +kernel
theorem dX7_turn_80 : decode cX7_turn 80 = .ok (.iaload, 1) := by decide +kernel
theorem dX7_turn_81 : decode cX7_turn 81 = .ok (.ireturn, 1) := by decide +kernel
theorem dX7_turn_82 : decode cX7_turn 82 = .ok (.aload_n 0, 1) := by decide +kernel
theorem dX7_turn_83 : decode cX7_turn 83 = .ok (.ldc 67, 2) := by decide +kernel
theorem dX7_turn_85 : decode cX7_turn 85 = .ok (.invokevirtual 68, 3) := by decide +kernel
theorem dX7_turn_88 : decode cX7_turn 88 = .ok (.ireturn, 1) := by decide +kernel
theorem dX7_nextPeak_0 : decode cX7_nextPeak 0 = .ok (.iload_n 1, 1) := by decide +kernel
theorem dX7_nextPeak_1 : decode cX7_nextPeak 1 = .ok (.iconst 0, 1) := by decide +kernel
theorem dX7_nextPeak_2 : decode cX7_nextPeak 2 = .ok (.sipush 600, 3) := by decide +kernel
theorem dX7_nextPeak_5 : decode cX7_nextPeak 5 = .ok (.invokestatic 63, 3) := by decide +kernel
theorem dX7_nextPeak_8 : decode cX7_nextPeak 8 = .ok (.ifCond .ne 10, 3) := by decide +kernel
theorem dX7_nextPeak_11 : decode cX7_nextPeak 11 = .ok (.aload_n 0, 1) := by decide +kernel
theorem dX7_nextPeak_12 : decode cX7_nextPeak 12 = .ok (.ldc 67, 2) := by decide +kernel
theorem dX7_nextPeak_14 : decode cX7_nextPeak 14 = .ok (.invokevirtual 68, 3) := by decide +kernel
theorem dX7_nextPeak_17 : decode cX7_nextPeak 17 = .ok (.ireturn, 1) := by decide +kernel
theorem dX7_nextPeak_18 : decode cX7_nextPeak 18 = .ok (.aload_n 0, 1) := by decide +kernel
theorem dX7_nextPeak_19 : decode cX7_nextPeak 19 = .ok (.getfield 12, 3) := by decide +kernel
theorem dX7_nextPeak_22 : decode cX7_nextPeak 22 = .ok (.getfield 72, 3) := by decide +kernel
theorem dX7_nextPeak_25 : decode cX7_nextPeak 25 = .ok (.invokevirtual 140, 3) := by decide +kernel
theorem dX7_nextPeak_28 : decode cX7_nextPeak 28 = .ok (.istore_n 2, 1) := by decide +kernel
theorem dX7_nextPeak_29 : decode cX7_nextPeak 29 = .ok (.iload_n 2, 1) := by decide +kernel
theorem dX7_nextPeak_30 : decode cX7_nextPeak 30 = .ok (.iconst 2, 1) := by decide +kernel
theorem dX7_nextPeak_31 : decode cX7_nextPeak 31 = .ok (.if_icmp .ge 10, 3) := by decide +kernel
theorem dX7_nextPeak_34 : decode cX7_nextPeak 34 = .ok (.aload_n 0, 1) := by decide +kernel
theorem dX7_nextPeak_35 : decode cX7_nextPeak 35 = .ok (.ldc 149, 2) := by decide +kernel
theorem dX7_nextPeak_37 : decode cX7_nextPeak 37 = .ok (.invokevirtual 68, 3) := by decide +kernel
theorem dX7_nextPeak_40 : decode cX7_nextPeak 40 = .ok (.ireturn, 1) := by decide +kernel
theorem dX7_nextPeak_41 : decode cX7_nextPeak 41 = .ok (.aload_n 0, 1) := by decide +kernel
theorem dX7_nextPeak_42 : decode cX7_nextPeak 42 = .ok (.getfield 12, 3) := by decide +kernel
theorem dX7_nextPeak_45 : decode cX7_nextPeak 45 = .ok (.getfield 72, 3) := by decide +kernel
theorem dX7_nextPeak_48 : decode cX7_nextPeak 48 = .ok (.getfield 146, 3) := by decide +kernel
theorem dX7_nextPeak_51 : decode cX7_nextPeak 51 = .ok (.astore_n 3, 1) := by decide +kernel
theorem dX7_nextPeak_52 : decode cX7_nextPeak 52 = .ok (.iconst 0, 1) := by decide +kernel
theorem dX7_nextPeak_53 : decode cX7_nextPeak 53 = .ok (.istore 4, 2) := by decide +kernel
theorem dX7_nextPeak_55 : decode cX7_nextPeak 55 = .ok (.iconst 1, 1) := by decide +kernel
theorem dX7_nextPeak_56 : decode cX7_nextPeak 56 = .ok (.istore 5, 2) := by decide +kernel
theorem dX7_nextPeak_58 : decode cX7_nextPeak 58 = .ok (.iload 5, 2) := by decide +kernel
theorem dX7_nextPeak_60 : decode cX7_nextPeak 60 = .ok (.iconst 1, 1) := by decide +kernel
theorem dX7_nextPeak_61 : decode cX7_nextPeak 61 = .ok (.iadd, 1) := by decide +kernel
theorem dX7_nextPeak_62 : decode cX7_nextPeak 62 = .ok (.iload_n 2, 1) := by decide +kernel
theorem dX7_nextPeak_63 : decode cX7_nextPeak 63 = .ok (.if_icmp .ge 34, 3) := by decide +kernel
theorem dX7_nextPeak_66 : decode cX7_nextPeak 66 = .ok (.aload_n 3, 1) := by decide +kernel
theorem dX7_nextPeak_67 : decode cX7_nextPeak 67 = .ok (.iload 5, 2) := by decide +kernel
theorem dX7_nextPeak_69 : decode cX7_nextPeak 69 = .ok (.iaload, 1) := by decide +kernel
theorem dX7_nextPeak_70 : decode cX7_nextPeak 70 = .ok (.iload_n 1, 1) := by decide +kernel
theorem dX7_nextPeak_71 : decode cX7_nextPeak 71 = .ok (.isub, 1) := by decide +kernel
theorem dX7_nextPeak_72 : decode cX7_nextPeak 72 = .ok (.invokestatic 150, 3) := by decide +kernel
theorem dX7_nextPeak_75 : decode cX7_nextPeak 75 = .ok (.aload_n 3, 1) := by decide +kernel
theorem dX7_nextPeak_76 : decode cX7_nextPeak 76 = .ok (.iload 4, 2) := by decide +kernel
theorem dX7_nextPeak_78 : decode cX7_nextPeak 78 = .ok (.iaload, 1) := by decide +kernel
theorem dX7_nextPeak_79 : decode cX7_nextPeak 79 = .ok (.iload_n 1, 1) := by decide +kernel
theorem dX7_nextPeak_80 : decode cX7_nextPeak 80 = .ok (.isub, 1) := by decide +kernel
theorem dX7_nextPeak_81 : decode cX7_nextPeak 81 = .ok (.invokestatic 150, 3) := by decide +kernel
theorem dX7_nextPeak_84 : decode cX7_nextPeak 84 = .ok (.if_icmp .ge 7, 3) := by decide +kernel
theorem dX7_nextPeak_87 : decode cX7_nextPeak 87 = .ok (.iload 5, 2) := by decide +kernel
theorem dX7_nextPeak_89 : decode cX7_nextPeak 89 = .ok (.istore 4, 2) := by decide +kernel
theorem dX7_nextPeak_91 : decode cX7_nextPeak 91 = .ok (.iinc 5 1, 3) := by decide +kernel
theorem dX7_nextPeak_94 : decode cX7_nextPeak 94 = .ok (.goto (-36), 3) := by decide +kernel
theorem dX7_nextPeak_97 : decode cX7_nextPeak 97 = .ok (.aload_n 3, 1) := by decide +kernel
theorem dX7_nextPeak_98 : decode cX7_nextPeak 98 = .ok (.iload 4, 2) := by decide +kernel
theorem dX7_nextPeak_100 : decode cX7_nextPeak 100 = .ok (.iconst 1, 1) := by decide +kernel
theorem dX7_nextPeak_101 : decode cX7_nextPeak 101 = .ok (.iadd, 1) := by decide +kernel
theorem dX7_nextPeak_102 : decode cX7_nextPeak 102 = .ok (.iaload, 1) := by decide +kernel
theorem dX7_nextPeak_103 : decode cX7_nextPeak 103 = .ok (.ireturn, 1) := by decide +kernel
theorem dX7_rising_0 : decode cX7_rising 0 = .ok (.aload_n 0, 1) := by decide +kernel
theorem dX7_rising_1 : decode cX7_rising 1 = .ok (.getfield 12, 3) := by decide +kernel
theorem dX7_rising_4 : decode cX7_rising 4 = .ok (.getfield 72, 3) := by decide +kernel
theorem dX7_rising_7 : decode cX7_rising 7 = .ok (.getfield 146, 3) := by decide +kernel
theorem dX7_rising_10 : decode cX7_rising 10 = .ok (.astore_n 1, 1) := by decide +kernel
theorem dX7_rising_11 : decode cX7_rising 11 = .ok (.iconst 0, 1) := by decide +kernel
theorem dX7_rising_12 : decode cX7_rising 12 = .ok (.istore_n 2, 1) := by decide +kernel
theorem dX7_rising_13 : decode cX7_rising 13 = .ok (.iconst 1, 1) := by decide +kernel
theorem dX7_rising_14 : decode cX7_rising 14 = .ok (.istore_n 3, 1) := by decide +kernel
theorem dX7_rising_15 : decode cX7_rising 15 = .ok (.iload_n 3, 1) := by decide +kernel
theorem dX7_rising_16 : decode cX7_rising 16 = .ok (.aload_n 0, 1) := by decide +kernel
theorem dX7_rising_17 : decode cX7_rising 17 = .ok (.getfield 12, 3) := by decide +kernel
theorem dX7_rising_20 : decode cX7_rising 20 = .ok (.getfield 72, 3) := by decide +kernel
theorem dX7_rising_23 : decode cX7_rising 23 = .ok (.invokevirtual 140, 3) := by decide +kernel
theorem dX7_rising_26 : decode cX7_rising 26 = .ok (.if_icmp .ge 23, 3) := by decide +kernel
theorem dX7_rising_29 : decode cX7_rising 29 = .ok (.aload_n 1, 1) := by decide +kernel
theorem dX7_rising_30 : decode cX7_rising 30 = .ok (.iload_n 3, 1) := by decide +kernel
theorem dX7_rising_31 : decode cX7_rising 31 = .ok (.iaload, 1) := by decide +kernel
theorem dX7_rising_32 : decode cX7_rising 32 = .ok (.aload_n 1, 1) := by decide +kernel
theorem dX7_rising_33 : decode cX7_rising 33 = .ok (.iload_n 3, 1) := by decide +kernel
theorem dX7_rising_34 : decode cX7_rising 34 = .ok (.iconst 1, 1) := by decide +kernel
theorem dX7_rising_35 : decode cX7_rising 35 = .ok (.isub, 1) := by decide +kernel
theorem dX7_rising_36 : decode cX7_rising 36 = .ok (.iaload, 1) := by decide +kernel
theorem dX7_rising_37 : decode cX7_rising 37 = .ok (.if_icmp .le 6, 3) := by decide +kernel
theorem dX7_rising_40 : decode cX7_rising 40 = .ok (.iinc 2 1, 3) := by decide +kernel
theorem dX7_rising_43 : decode cX7_rising 43 = .ok (.iinc 3 1, 3) := by decide +kernel
theorem dX7_rising_46 : decode cX7_rising 46 = .ok (.goto (-31), 3) := by decide +kernel
theorem dX7_rising_49 : decode cX7_rising 49 = .ok (.iload_n 2, 1) := by decide +kernel
theorem dX7_rising_50 : decode cX7_rising 50 = .ok (.ireturn, 1) := by decide +kernel
theorem dX7_quickest_0 : decode cX7_quickest 0 = .ok (.aload_n 0, 1) := by decide +kernel
theorem dX7_quickest_1 : decode cX7_quickest 1 = .ok (.getfield 12, 3) := by decide +kernel
theorem dX7_quickest_4 : decode cX7_quickest 4 = .ok (.getfield 72, 3) := by decide +kernel
theorem dX7_quickest_7 : decode cX7_quickest 7 = .ok (.invokevirtual 140, 3) := by decide +kernel
theorem dX7_quickest_10 : decode cX7_quickest 10 = .ok (.istore_n 1, 1) := by decide +kernel
theorem dX7_quickest_11 : decode cX7_quickest 11 = .ok (.iload_n 1, 1) := by decide +kernel
theorem dX7_quickest_12 : decode cX7_quickest 12 = .ok (.iconst 2, 1) := by decide +kernel
theorem dX7_quickest_13 : decode cX7_quickest 13 = .ok (.if_icmp .ge 10, 3) := by decide +kernel
theorem dX7_quickest_16 : decode cX7_quickest 16 = .ok (.aload_n 0, 1) := by decide +kernel
theorem dX7_quickest_17 : decode cX7_quickest 17 = .ok (.ldc 149, 2) := by decide +kernel
theorem dX7_quickest_19 : decode cX7_quickest 19 = .ok (.invokevirtual 68, 3) := by decide +kernel
theorem dX7_quickest_22 : decode cX7_quickest 22 = .ok (.ireturn, 1) := by decide +kernel
theorem dX7_quickest_23 : decode cX7_quickest 23 = .ok (.aload_n 0, 1) := by decide +kernel
theorem dX7_quickest_24 : decode cX7_quickest 24 = .ok (.getfield 12, 3) := by decide +kernel
theorem dX7_quickest_27 : decode cX7_quickest 27 = .ok (.getfield 72, 3) := by decide +kernel
theorem dX7_quickest_30 : decode cX7_quickest 30 = .ok (.getfield 143, 3) := by decide +kernel
theorem dX7_quickest_33 : decode cX7_quickest 33 = .ok (.astore_n 2, 1) := by decide +kernel
theorem dX7_quickest_34 : decode cX7_quickest 34 = .ok (.aload_n 2, 1) := by decide +kernel
theorem dX7_quickest_35 : decode cX7_quickest 35 = .ok (.iconst 1, 1) := by decide +kernel
theorem dX7_quickest_36 : decode cX7_quickest 36 = .ok (.iaload, 1) := by decide +kernel
theorem dX7_quickest_37 : decode cX7_quickest 37 = .ok (.aload_n 2, 1) := by decide +kernel
theorem dX7_quickest_38 : decode cX7_quickest 38 = .ok (.iconst 0, 1) := by decide +kernel
theorem dX7_quickest_39 : decode cX7_quickest 39 = .ok (.iaload, 1) := by decide +kernel
theorem dX7_quickest_40 : decode cX7_quickest 40 = .ok (.isub, 1) := by decide +kernel
theorem dX7_quickest_41 : decode cX7_quickest 41 = .ok (.istore_n 3, 1) := by decide +kernel
theorem dX7_quickest_42 : decode cX7_quickest 42 = .ok (.iconst 2, 1) := by decide +kernel
theorem dX7_quickest_43 : decode cX7_quickest 43 = .ok (.istore 4, 2) := by decide +kernel
theorem dX7_quickest_45 : decode cX7_quickest 45 = .ok (.iload 4, 2) := by decide +kernel
theorem dX7_quickest_47 : decode cX7_quickest 47 = .ok (.iload_n 1, 1) := by decide +kernel
theorem dX7_quickest_48 : decode cX7_quickest 48 = .ok (.if_icmp .ge 25, 3) := by decide +kernel
theorem dX7_quickest_51 : decode cX7_quickest 51 = .ok (.iload_n 3, 1) := by decide +kernel
theorem dX7_quickest_52 : decode cX7_quickest 52 = .ok (.aload_n 2, 1) := by decide +kernel
theorem dX7_quickest_53 : decode cX7_quickest 53 = .ok (.iload 4, 2) := by decide +kernel
theorem dX7_quickest_55 : decode cX7_quickest 55 = .ok (.iaload, 1) := by decide +kernel
theorem dX7_quickest_56 : decode cX7_quickest 56 = .ok (.aload_n 2, 1) := by decide +kernel
theorem dX7_quickest_57 : decode cX7_quickest 57 = .ok (.iload 4, 2) := by decide +kernel
theorem dX7_quickest_59 : decode cX7_quickest 59 = .ok (.iconst 1, 1) := by decide +kernel
theorem dX7_quickest_60 : decode cX7_quickest 60 = .ok (.isub, 1) := by decide +kernel
theorem dX7_quickest_61 : decode cX7_quickest 61 = .ok (.iaload, 1) := by decide +kernel
theorem dX7_quickest_62 : decode cX7_quickest 62 = .ok (.isub, 1) := by decide +kernel
theorem dX7_quickest_63 : decode cX7_quickest 63 = .ok (.invokestatic 155, 3) := by decide +kernel
theorem dX7_quickest_66 : decode cX7_quickest 66 = .ok (.istore_n 3, 1) := by decide +kernel
theorem dX7_quickest_67 : decode cX7_quickest 67 = .ok (.iinc 4 1, 3) := by decide +kernel
theorem dX7_quickest_70 : decode cX7_quickest 70 = .ok (.goto (-25), 3) := by decide +kernel
theorem dX7_quickest_73 : decode cX7_quickest 73 = .ok (.iload_n 3, 1) := by decide +kernel
theorem dX7_quickest_74 : decode cX7_quickest 74 = .ok (.ireturn, 1) := by decide +kernel
theorem dX7_feed_0 : decode cX7_feed 0 = .ok (.iload_n 2, 1) := by decide +kernel
theorem dX7_feed_1 : decode cX7_feed 1 = .ok (.iconst 1, 1) := by decide +kernel
theorem dX7_feed_2 : decode cX7_feed 2 = .ok (.iconst 4, 1) := by decide +kernel
theorem dX7_feed_3 : decode cX7_feed 3 = .ok (.invokestatic 63, 3) := by decide +kernel
theorem dX7_feed_6 : decode cX7_feed 6 = .ok (.ifCond .ne 10, 3) := by decide +kernel
theorem dX7_feed_9 : decode cX7_feed 9 = .ok (.aload_n 0, 1) := by decide +kernel
theorem dX7_feed_10 : decode cX7_feed 10 = .ok (.ldc 67, 2) := by decide +kernel
theorem dX7_feed_12 : decode cX7_feed 12 = .ok (.invokevirtual 68, 3) := by decide +kernel
theorem dX7_feed_15 : decode cX7_feed 15 = .ok (.ireturn, 1) := by decide +kernel
theorem dX7_feed_16 : decode cX7_feed 16 = .ok (.aload_n 0, 1) := by decide +kernel
theorem dX7_feed_17 : decode cX7_feed 17 = .ok (.getfield 22, 3) := by decide +kernel
theorem dX7_feed_20 : decode cX7_feed 20 = .ok (.getfield 159, 3) := by decide +kernel
theorem dX7_feed_23 : decode cX7_feed 23 = .ok (.iload_n 2, 1) := by decide +kernel
theorem dX7_feed_24 : decode cX7_feed 24 = .ok (.iadd, 1) := by decide +kernel
theorem dX7_feed_25 : decode cX7_feed 25 = .ok (.bipush 100, 2) := by decide +kernel
theorem dX7_feed_27 : decode cX7_feed 27 = .ok (.if_icmp .le 10, 3) := by decide +kernel
theorem dX7_feed_30 : decode cX7_feed 30 = .ok (.aload_n 0, 1) := by decide +kernel
theorem dX7_feed_31 : decode cX7_feed 31 = .ok (.ldc 100, 2) := by decide +kernel
theorem dX7_feed_33 : decode cX7_feed 33 = .ok (.invokevirtual 68, 3) := by decide +kernel
theorem dX7_feed_36 : decode cX7_feed 36 = .ok (.ireturn, 1) := by decide +kernel
theorem dX7_feed_37 : decode cX7_feed 37 = .ok (.iload_n 2, 1) := by decide +kernel
theorem dX7_feed_38 : decode cX7_feed 38 = .ok (.iconst 1, 1) := by decide +kernel
theorem dX7_feed_39 : decode cX7_feed 39 = .ok (.isub, 1) := by decide +kernel
theorem dX7_feed_40 : decode cX7_feed 40 = .ok (.istore_n 3, 1) := by decide +kernel
theorem dX7_feed_41 : decode cX7_feed 41 = .ok (.iload_n 3, 1) := by decide +kernel
theorem dX7_feed_42 : decode cX7_feed 42 = .ok (.ifCond .lt 22, 3) := by decide +kernel
theorem dX7_feed_45 : decode cX7_feed 45 = .ok (.aload_n 0, 1) := by decide +kernel
theorem dX7_feed_46 : decode cX7_feed 46 = .ok (.getfield 22, 3) := by decide +kernel
theorem dX7_feed_49 : decode cX7_feed 49 = .ok (.iload_n 1, 1) := by decide +kernel
theorem dX7_feed_50 : decode cX7_feed 50 = .ok (.bipush 8, 2) := by decide +kernel
theorem dX7_feed_52 : decode cX7_feed 52 = .ok (.iload_n 3, 1) := by decide +kernel
theorem dX7_feed_53 : decode cX7_feed 53 = .ok (.imul, 1) := by decide +kernel
theorem dX7_feed_54 : decode cX7_feed 54 = .ok (.ishr, 1) := by decide +kernel
theorem dX7_feed_55 : decode cX7_feed 55 = .ok (.invokevirtual 162, 3) := by decide +kernel
theorem dX7_feed_58 : decode cX7_feed 58 = .ok (.iinc 3 (-1), 3) := by decide +kernel
theorem dX7_feed_61 : decode cX7_feed 61 = .ok (.goto (-20), 3) := by decide +kernel
theorem dX7_feed_64 : decode cX7_feed 64 = .ok (.aload_n 0, 1) := by decide +kernel
theorem dX7_feed_65 : decode cX7_feed 65 = .ok (.getfield 22, 3) := by decide +kernel
theorem dX7_feed_68 : decode cX7_feed 68 = .ok (.getfield 159, 3) := by decide +kernel
theorem dX7_feed_71 : decode cX7_feed 71 = .ok (.ireturn, 1) := by decide +kernel
theorem dX7_wipe_0 : decode cX7_wipe 0 = .ok (.aload_n 0, 1) := by decide +kernel
theorem dX7_wipe_1 : decode cX7_wipe 1 = .ok (.getfield 22, 3) := by decide +kernel
theorem dX7_wipe_4 : decode cX7_wipe 4 = .ok (.getfield 159, 3) := by decide +kernel
theorem dX7_wipe_7 : decode cX7_wipe 7 = .ok (.istore_n 1, 1) := by decide +kernel
theorem dX7_wipe_8 : decode cX7_wipe 8 = .ok (.aload_n 0, 1) := by decide +kernel
theorem dX7_wipe_9 : decode cX7_wipe 9 = .ok (.getfield 22, 3) := by decide +kernel
theorem dX7_wipe_12 : decode cX7_wipe 12 = .ok (.iconst 0, 1) := by decide +kernel
theorem dX7_wipe_13 : decode cX7_wipe 13 = .ok (.putfield 159, 3) := by decide +kernel
theorem dX7_wipe_16 : decode cX7_wipe 16 = .ok (.iload_n 1, 1) := by decide +kernel
theorem dX7_wipe_17 : decode cX7_wipe 17 = .ok (.ireturn, 1) := by decide +kernel
theorem dX7_program_0 : decode cX7_program 0 = .ok (.aload_n 0, 1) := by decide +kernel
theorem dX7_program_1 : decode cX7_program 1 = .ok (.getfield 12, 3) := by decide +kernel
theorem dX7_program_4 : decode cX7_program 4 = .ok (.getfield 165, 3) := by decide +kernel
theorem dX7_program_7 : decode cX7_program 7 = .ok (.iconst 0, 1) := by decide +kernel
theorem dX7_program_8 : decode cX7_program 8 = .ok (.iconst 5, 1) := by decide +kernel
theorem dX7_program_9 : decode cX7_program 9 = .ok (.invokestatic 63, 3) := by decide +kernel
theorem dX7_program_12 : decode cX7_program 12 = .ok (.ifCond .ne 10, 3) := by decide +kernel
theorem dX7_program_15 : decode cX7_program 15 = .ok (.aload_n 0, 1) := by decide +kernel
theorem dX7_program_16 : decode cX7_program 16 = .ok (.ldc 100, 2) := by decide +kernel
theorem dX7_program_18 : decode cX7_program 18 = .ok (.invokevirtual 68, 3) := by decide +kernel
theorem dX7_program_21 : decode cX7_program 21 = .ok (.ireturn, 1) := by decide +kernel
theorem dX7_program_22 : decode cX7_program 22 = .ok (.aload_n 0, 1) := by decide +kernel
theorem dX7_program_23 : decode cX7_program 23 = .ok (.getfield 31, 3) := by decide +kernel
theorem dX7_program_26 : decode cX7_program 26 = .ok (.aload_n 0, 1) := by decide +kernel
theorem dX7_program_27 : decode cX7_program 27 = .ok (.getfield 12, 3) := by decide +kernel
theorem dX7_program_30 : decode cX7_program 30 = .ok (.getfield 168, 3) := by decide +kernel
theorem dX7_program_33 : decode cX7_program 33 = .ok (.aload_n 0, 1) := by decide +kernel
theorem dX7_program_34 : decode cX7_program 34 = .ok (.getfield 12, 3) := by decide +kernel
theorem dX7_program_37 : decode cX7_program 37 = .ok (.getfield 165, 3) := by decide +kernel
theorem dX7_program_40 : decode cX7_program 40 = .ok (.aaload, 1) := by decide +kernel
theorem dX7_program_41 : decode cX7_program 41 = .ok (.invokevirtual 172, 3) := by decide +kernel
theorem dX7_program_44 : decode cX7_program 44 = .ok (.istore_n 1, 1) := by decide +kernel
theorem dX7_program_45 : decode cX7_program 45 = .ok (.aload_n 0, 1) := by decide +kernel
theorem dX7_program_46 : decode cX7_program 46 = .ok (.getfield 22, 3) := by decide +kernel
theorem dX7_program_49 : decode cX7_program 49 = .ok (.iconst 0, 1) := by decide +kernel
theorem dX7_program_50 : decode cX7_program 50 = .ok (.putfield 159, 3) := by decide +kernel
theorem dX7_program_53 : decode cX7_program 53 = .ok (.iload_n 1, 1) := by decide +kernel
theorem dX7_program_54 : decode cX7_program 54 = .ok (.iconst (-1), 1) := by decide +kernel
theorem dX7_program_55 : decode cX7_program 55 = .ok (.if_icmp .eq 7, 3) := by decide +kernel
theorem dX7_program_58 : decode cX7_program 58 = .ok (.iconst (-1), 1) := by decide +kernel
theorem dX7_program_59 : decode cX7_program 59 = .ok (.iload_n 1, 1) := by decide +kernel
theorem dX7_program_60 : decode cX7_program 60 = .ok (.isub, 1) := by decide +kernel
theorem dX7_program_61 : decode cX7_program 61 = .ok (.ireturn, 1) := by decide +kernel
theorem dX7_program_62 : decode cX7_program 62 = .ok (.aload_n 0, 1) := by decide +kernel
theorem dX7_program_63 : decode cX7_program 63 = .ok (.getfield 12, 3) := by decide +kernel
theorem dX7_program_66 : decode cX7_program 66 = .ok (.dup, 1) := by decide +kernel
theorem dX7_program_67 : decode cX7_program 67 = .ok (.getfield 165, 3) := by decide +kernel
theorem dX7_program_70 : decode cX7_program 70 = .ok (.iconst 1, 1) := by decide +kernel
theorem dX7_program_71 : decode cX7_program 71 = .ok (.iadd, 1) := by decide +kernel
theorem dX7_program_72 : decode cX7_program 72 = .ok (.putfield 165, 3) := by decide +kernel
theorem dX7_program_75 : decode cX7_program 75 = .ok (.aload_n 0, 1) := by decide +kernel
theorem dX7_program_76 : decode cX7_program 76 = .ok (.getfield 12, 3) := by decide +kernel
theorem dX7_program_79 : decode cX7_program 79 = .ok (.getfield 165, 3) := by decide +kernel
theorem dX7_program_82 : decode cX7_program 82 = .ok (.iconst 1, 1) := by decide +kernel
theorem dX7_program_83 : decode cX7_program 83 = .ok (.isub, 1) := by decide +kernel
theorem dX7_program_84 : decode cX7_program 84 = .ok (.ireturn, 1) := by decide +kernel
theorem dX7_programOf_0 : decode cX7_programOf 0 = .ok (.aload_n 0, 1) := by decide +kernel
theorem dX7_programOf_1 : decode cX7_programOf 1 = .ok (.iload_n 1, 1) := by decide +kernel
theorem dX7_programOf_2 : decode cX7_programOf 2 = .ok (.invokevirtual 176, 3) := by decide +kernel
theorem dX7_programOf_5 : decode cX7_programOf 5 = .ok (.ifCond .ne 10, 3) := by decide +kernel
theorem dX7_programOf_8 : decode cX7_programOf 8 = .ok (.aload_n 0, 1) := by decide +kernel
theorem dX7_programOf_9 : decode cX7_programOf 9 = .ok (.ldc 67, 2) := by decide +kernel
theorem dX7_programOf_11 : decode cX7_programOf 11 = .ok (.invokevirtual 68, 3) := by decide +kernel
theorem dX7_programOf_14 : decode cX7_programOf 14 = .ok (.ireturn, 1) := by decide +kernel
theorem dX7_programOf_15 : decode cX7_programOf 15 = .ok (.iload_n 2, 1) := by decide +kernel
theorem dX7_programOf_16 : decode cX7_programOf 16 = .ok (.lookupswitch 54 #[(0, 28), (1, 41)], 28) := by decide +kernel
theorem dX7_programOf_44 : decode cX7_programOf 44 = .ok (.aload_n 0, 1) := by decide +kernel
theorem dX7_programOf_45 : decode cX7_programOf 45 = .ok (.getfield 12, 3) := by decide +kernel
theorem dX7_programOf_48 : decode cX7_programOf 48 = .ok (.getfield 168, 3) := by decide +kernel
theorem dX7_programOf_51 : decode cX7_programOf 51 = .ok (.iload_n 1, 1) := by decide +kernel
theorem dX7_programOf_52 : decode cX7_programOf 52 = .ok (.aaload, 1) := by decide +kernel
theorem dX7_programOf_53 : decode cX7_programOf 53 = .ok (.getfield 179, 3) := by decide +kernel
theorem dX7_programOf_56 : decode cX7_programOf 56 = .ok (.ireturn, 1) := by decide +kernel
theorem dX7_programOf_57 : decode cX7_programOf 57 = .ok (.aload_n 0, 1) := by decide +kernel
theorem dX7_programOf_58 : decode cX7_programOf 58 = .ok (.getfield 12, 3) := by decide +kernel
theorem dX7_programOf_61 : decode cX7_programOf 61 = .ok (.getfield 168, 3) := by decide +kernel
theorem dX7_programOf_64 : decode cX7_programOf 64 = .ok (.iload_n 1, 1) := by decide +kernel
theorem dX7_programOf_65 : decode cX7_programOf 65 = .ok (.aaload, 1) := by decide +kernel
theorem dX7_programOf_66 : decode cX7_programOf 66 = .ok (.invokevirtual 182, 3) := by decide +kernel
theorem dX7_programOf_69 : decode cX7_programOf 69 = .ok (.ireturn, 1) := by decide +kernel
theorem dX7_programOf_70 : decode cX7_programOf 70 = .ok (.aload_n 0, 1) := by decide +kernel
theorem dX7_programOf_71 : decode cX7_programOf 71 = .ok (.ldc 67, 2) := by decide +kernel
theorem dX7_programOf_73 : decode cX7_programOf 73 = .ok (.invokevirtual 68, 3) := by decide +kernel
theorem dX7_programOf_76 : decode cX7_programOf 76 = .ok (.ireturn, 1) := by decide +kernel
theorem dX7_play_0 : decode cX7_play 0 = .ok (.aload_n 0, 1) := by decide +kernel
theorem dX7_play_1 : decode cX7_play 1 = .ok (.iload_n 1, 1) := by decide +kernel
theorem dX7_play_2 : decode cX7_play 2 = .ok (.invokevirtual 176, 3) := by decide +kernel
theorem dX7_play_5 : decode cX7_play 5 = .ok (.ifCond .ne 10, 3) := by decide +kernel
theorem dX7_play_8 : decode cX7_play 8 = .ok (.aload_n 0, 1) := by decide +kernel
theorem dX7_play_9 : decode cX7_play 9 = .ok (.ldc 67, 2) := by decide +kernel
theorem dX7_play_11 : decode cX7_play 11 = .ok (.invokevirtual 68, 3) := by decide +kernel
theorem dX7_play_14 : decode cX7_play 14 = .ok (.ireturn, 1) := by decide +kernel
theorem dX7_play_15 : decode cX7_play 15 = .ok (.aload_n 0, 1) := by decide +kernel
theorem dX7_play_16 : decode cX7_play 16 = .ok (.getfield 12, 3) := by decide +kernel
theorem dX7_play_19 : decode cX7_play 19 = .ok (.getfield 168, 3) := by decide +kernel
theorem dX7_play_22 : decode cX7_play 22 = .ok (.iload_n 1, 1) := by decide +kernel
theorem dX7_play_23 : decode cX7_play 23 = .ok (.aaload, 1) := by decide +kernel
theorem dX7_play_24 : decode cX7_play 24 = .ok (.astore_n 2, 1) := by decide +kernel
theorem dX7_play_25 : decode cX7_play 25 = .ok (.iconst 0, 1) := by decide +kernel
theorem dX7_play_26 : decode cX7_play 26 = .ok (.istore_n 3, 1) := by decide +kernel
theorem dX7_play_27 : decode cX7_play 27 = .ok (.iload_n 3, 1) := by decide +kernel
theorem dX7_play_28 : decode cX7_play 28 = .ok (.aload_n 2, 1) := by decide +kernel
theorem dX7_play_29 : decode cX7_play 29 = .ok (.getfield 179, 3) := by decide +kernel
theorem dX7_play_32 : decode cX7_play 32 = .ok (.if_icmp .ge 21, 3) := by decide +kernel
theorem dX7_play_35 : decode cX7_play 35 = .ok (.aload_n 2, 1) := by decide +kernel
theorem dX7_play_36 : decode cX7_play 36 = .ok (.iload_n 3, 1) := by decide +kernel
theorem dX7_play_37 : decode cX7_play 37 = .ok (.aload_n 0, 1) := by decide +kernel
theorem dX7_play_38 : decode cX7_play 38 = .ok (.getfield 12, 3) := by decide +kernel
theorem dX7_play_41 : decode cX7_play 41 = .ok (.getfield 72, 3) := by decide +kernel
theorem dX7_play_44 : decode cX7_play 44 = .ok (.invokevirtual 185, 3) := by decide +kernel
theorem dX7_play_47 : decode cX7_play 47 = .ok (.iinc 3 1, 3) := by decide +kernel
theorem dX7_play_50 : decode cX7_play 50 = .ok (.goto (-23), 3) := by decide +kernel
theorem dX7_play_53 : decode cX7_play 53 = .ok (.aload_n 0, 1) := by decide +kernel
theorem dX7_play_54 : decode cX7_play 54 = .ok (.getfield 12, 3) := by decide +kernel
theorem dX7_play_57 : decode cX7_play 57 = .ok (.getfield 72, 3) := by decide +kernel
theorem dX7_play_60 : decode cX7_play 60 = .ok (.getfield 108, 3) := by decide +kernel
theorem dX7_play_63 : decode cX7_play 63 = .ok (.ireturn, 1) := by decide +kernel
theorem dX7_ahead_0 : decode cX7_ahead 0 = .ok (.iload_n 1, 1) := by decide +kernel
theorem dX7_ahead_1 : decode cX7_ahead 1 = .ok (.invokestatic 189, 3) := by decide +kernel
theorem dX7_ahead_4 : decode cX7_ahead 4 = .ok (.ifCond .eq 12, 3) := by decide +kernel
theorem dX7_ahead_7 : decode cX7_ahead 7 = .ok (.iload_n 2, 1) := by decide +kernel
theorem dX7_ahead_8 : decode cX7_ahead 8 = .ok (.iconst 0, 1) := by decide +kernel
theorem dX7_ahead_9 : decode cX7_ahead 9 = .ok (.iconst 3, 1) := by decide +kernel
theorem dX7_ahead_10 : decode cX7_ahead 10 = .ok (.invokestatic 63, 3) := by decide +kernel
theorem dX7_ahead_13 : decode cX7_ahead 13 = .ok (.ifCond .ne 10, 3) := by decide +kernel
theorem dX7_ahead_16 : decode cX7_ahead 16 = .ok (.aload_n 0, 1) := by decide +kernel
theorem dX7_ahead_17 : decode cX7_ahead 17 = .ok (.ldc 67, 2) := by decide +kernel
theorem dX7_ahead_19 : decode cX7_ahead 19 = .ok (.invokevirtual 68, 3) := by decide +kernel
theorem dX7_ahead_22 : decode cX7_ahead 22 = .ok (.ireturn, 1) := by decide +kernel
theorem dX7_ahead_23 : decode cX7_ahead 23 = .ok (.aload_n 0, 1) := by decide +kernel
theorem dX7_ahead_24 : decode cX7_ahead 24 = .ok (.getfield 44, 3) := by decide +kernel
theorem dX7_ahead_27 : decode cX7_ahead 27 = .ok (.aload_n 0, 1) := by decide +kernel
theorem dX7_ahead_28 : decode cX7_ahead 28 = .ok (.getfield 12, 3) := by decide +kernel
theorem dX7_ahead_31 : decode cX7_ahead 31 = .ok (.getfield 72, 3) := by decide +kernel
theorem dX7_ahead_34 : decode cX7_ahead 34 = .ok (.invokevirtual 192, 3) := by decide +kernel
theorem dX7_ahead_37 : decode cX7_ahead 37 = .ok (.aload_n 0, 1) := by decide +kernel
theorem dX7_ahead_38 : decode cX7_ahead 38 = .ok (.getfield 44, 3) := by decide +kernel
theorem dX7_ahead_41 : decode cX7_ahead 41 = .ok (.iload_n 1, 1) := by decide +kernel
theorem dX7_ahead_42 : decode cX7_ahead 42 = .ok (.invokevirtual 115, 3) := by decide +kernel
theorem dX7_ahead_45 : decode cX7_ahead 45 = .ok (.iload_n 2, 1) := by decide +kernel
theorem dX7_ahead_46 : decode cX7_ahead 46 = .ok (.tableswitch 50 0 2 #[26, 34, 42], 26) := by decide +kernel
theorem dX7_ahead_72 : decode cX7_ahead 72 = .ok (.aload_n 0, 1) := by decide +kernel
theorem dX7_ahead_73 : decode cX7_ahead 73 = .ok (.getfield 44, 3) := by decide +kernel
theorem dX7_ahead_76 : decode cX7_ahead 76 = .ok (.getfield 108, 3) := by decide +kernel
theorem dX7_ahead_79 : decode cX7_ahead 79 = .ok (.ireturn, 1) := by decide +kernel
theorem dX7_ahead_80 : decode cX7_ahead 80 = .ok (.aload_n 0, 1) := by decide +kernel
theorem dX7_ahead_81 : decode cX7_ahead 81 = .ok (.getfield 44, 3) := by decide +kernel
theorem dX7_ahead_84 : decode cX7_ahead 84 = .ok (.getfield 112, 3) := by decide +kernel
theorem dX7_ahead_87 : decode cX7_ahead 87 = .ok (.ireturn, 1) := by decide +kernel
theorem dX7_ahead_88 : decode cX7_ahead 88 = .ok (.aload_n 0, 1) := by decide +kernel
theorem dX7_ahead_89 : decode cX7_ahead 89 = .ok (.getfield 44, 3) := by decide +kernel
theorem dX7_ahead_92 : decode cX7_ahead 92 = .ok (.invokevirtual 121, 3) := by decide +kernel
theorem dX7_ahead_95 : decode cX7_ahead 95 = .ok (.ireturn, 1) := by decide +kernel
theorem dX7_ahead_96 : decode cX7_ahead 96 = .ok (.aload_n 0, 1) := by decide +kernel
theorem dX7_ahead_97 : decode cX7_ahead 97 = .ok (.getfield 44, 3) := by decide +kernel
theorem dX7_ahead_100 : decode cX7_ahead 100 = .ok (.getfield 196, 3) := by decide +kernel
theorem dX7_ahead_103 : decode cX7_ahead 103 = .ok (.aload_n 0, 1) := by decide +kernel
theorem dX7_ahead_104 : decode cX7_ahead 104 = .ok (.getfield 12, 3) := by decide +kernel
theorem dX7_ahead_107 : decode cX7_ahead 107 = .ok (.getfield 72, 3) := by decide +kernel
theorem dX7_ahead_110 : decode cX7_ahead 110 = .ok (.getfield 196, 3) := by decide +kernel
theorem dX7_ahead_113 : decode cX7_ahead 113 = .ok (.isub, 1) := by decide +kernel
theorem dX7_ahead_114 : decode cX7_ahead 114 = .ok (.ireturn, 1) := by decide +kernel
theorem dX7_apart_0 : decode cX7_apart 0 = .ok (.iload_n 1, 1) := by decide +kernel
theorem dX7_apart_1 : decode cX7_apart 1 = .ok (.invokestatic 101, 3) := by decide +kernel
theorem dX7_apart_4 : decode cX7_apart 4 = .ok (.ifCond .eq 10, 3) := by decide +kernel
theorem dX7_apart_7 : decode cX7_apart 7 = .ok (.iload_n 2, 1) := by decide +kernel
theorem dX7_apart_8 : decode cX7_apart 8 = .ok (.invokestatic 189, 3) := by decide +kernel
theorem dX7_apart_11 : decode cX7_apart 11 = .ok (.ifCond .ne 10, 3) := by decide +kernel
theorem dX7_apart_14 : decode cX7_apart 14 = .ok (.aload_n 0, 1) := by decide +kernel
theorem dX7_apart_15 : decode cX7_apart 15 = .ok (.ldc 67, 2) := by decide +kernel
theorem dX7_apart_17 : decode cX7_apart 17 = .ok (.invokevirtual 68, 3) := by decide +kernel
theorem dX7_apart_20 : decode cX7_apart 20 = .ok (.ireturn, 1) := by decide +kernel
theorem dX7_apart_21 : decode cX7_apart 21 = .ok (.aload_n 0, 1) := by decide +kernel
theorem dX7_apart_22 : decode cX7_apart 22 = .ok (.iload_n 1, 1) := by decide +kernel
theorem dX7_apart_23 : decode cX7_apart 23 = .ok (.invokevirtual 199, 3) := by decide +kernel
theorem dX7_apart_26 : decode cX7_apart 26 = .ok (.aload_n 0, 1) := by decide +kernel
theorem dX7_apart_27 : decode cX7_apart 27 = .ok (.getfield 44, 3) := by decide +kernel
theorem dX7_apart_30 : decode cX7_apart 30 = .ok (.iload_n 2, 1) := by decide +kernel
theorem dX7_apart_31 : decode cX7_apart 31 = .ok (.invokevirtual 115, 3) := by decide +kernel
theorem dX7_apart_34 : decode cX7_apart 34 = .ok (.aload_n 0, 1) := by decide +kernel
theorem dX7_apart_35 : decode cX7_apart 35 = .ok (.getfield 48, 3) := by decide +kernel
theorem dX7_apart_38 : decode cX7_apart 38 = .ok (.iload_n 2, 1) := by decide +kernel
theorem dX7_apart_39 : decode cX7_apart 39 = .ok (.invokevirtual 115, 3) := by decide +kernel
theorem dX7_apart_42 : decode cX7_apart 42 = .ok (.aload_n 0, 1) := by decide +kernel
theorem dX7_apart_43 : decode cX7_apart 43 = .ok (.invokevirtual 202, 3) := by decide +kernel
theorem dX7_apart_46 : decode cX7_apart 46 = .ok (.ireturn, 1) := by decide +kernel
theorem dX7_parts_0 : decode cX7_parts 0 = .ok (.iload_n 1, 1) := by decide +kernel
theorem dX7_parts_1 : decode cX7_parts 1 = .ok (.invokestatic 101, 3) := by decide +kernel
theorem dX7_parts_4 : decode cX7_parts 4 = .ok (.ifCond .eq 14, 3) := by decide +kernel
theorem dX7_parts_7 : decode cX7_parts 7 = .ok (.iload_n 2, 1) := by decide +kernel
theorem dX7_parts_8 : decode cX7_parts 8 = .ok (.iconst 1, 1) := by decide +kernel
theorem dX7_parts_9 : decode cX7_parts 9 = .ok (.sipush 1200, 3) := by decide +kernel
theorem dX7_parts_12 : decode cX7_parts 12 = .ok (.invokestatic 63, 3) := by decide +kernel
theorem dX7_parts_15 : decode cX7_parts 15 = .ok (.ifCond .ne 10, 3) := by decide +kernel
theorem dX7_parts_18 : decode cX7_parts 18 = .ok (.aload_n 0, 1) := by decide +kernel
theorem dX7_parts_19 : decode cX7_parts 19 = .ok (.ldc 67, 2) := by decide +kernel
theorem dX7_parts_21 : decode cX7_parts 21 = .ok (.invokevirtual 68, 3) := by decide +kernel
theorem dX7_parts_24 : decode cX7_parts 24 = .ok (.ireturn, 1) := by decide +kernel
theorem dX7_parts_25 : decode cX7_parts 25 = .ok (.aload_n 0, 1) := by decide +kernel
theorem dX7_parts_26 : decode cX7_parts 26 = .ok (.iload_n 1, 1) := by decide +kernel
theorem dX7_parts_27 : decode cX7_parts 27 = .ok (.invokevirtual 199, 3) := by decide +kernel
theorem dX7_parts_30 : decode cX7_parts 30 = .ok (.iconst 0, 1) := by decide +kernel
theorem dX7_parts_31 : decode cX7_parts 31 = .ok (.istore_n 3, 1) := by decide +kernel
theorem dX7_parts_32 : decode cX7_parts 32 = .ok (.iload_n 3, 1) := by decide +kernel
theorem dX7_parts_33 : decode cX7_parts 33 = .ok (.sipush 400, 3) := by decide +kernel
theorem dX7_parts_36 : decode cX7_parts 36 = .ok (.if_icmp .gt 33, 3) := by decide +kernel
theorem dX7_parts_39 : decode cX7_parts 39 = .ok (.aload_n 0, 1) := by decide +kernel
theorem dX7_parts_40 : decode cX7_parts 40 = .ok (.invokevirtual 202, 3) := by decide +kernel
theorem dX7_parts_43 : decode cX7_parts 43 = .ok (.iload_n 2, 1) := by decide +kernel
theorem dX7_parts_44 : decode cX7_parts 44 = .ok (.if_icmp .lt 5, 3) := by decide +kernel
theorem dX7_parts_47 : decode cX7_parts 47 = .ok (.iload_n 3, 1) := by decide +kernel
theorem dX7_parts_48 : decode cX7_parts 48 = .ok (.ireturn, 1) := by decide +kernel
theorem dX7_parts_49 : decode cX7_parts 49 = .ok (.aload_n 0, 1) := by decide +kernel
theorem dX7_parts_50 : decode cX7_parts 50 = .ok (.getfield 44, 3) := by decide +kernel
theorem dX7_parts_53 : decode cX7_parts 53 = .ok (.invokevirtual 205, 3) := by decide +kernel
theorem dX7_parts_56 : decode cX7_parts 56 = .ok (.aload_n 0, 1) := by decide +kernel
theorem dX7_parts_57 : decode cX7_parts 57 = .ok (.getfield 48, 3) := by decide +kernel
theorem dX7_parts_60 : decode cX7_parts 60 = .ok (.invokevirtual 205, 3) := by decide +kernel
theorem dX7_parts_63 : decode cX7_parts 63 = .ok (.iinc 3 1, 3) := by decide +kernel
theorem dX7_parts_66 : decode cX7_parts 66 = .ok (.goto (-34), 3) := by decide +kernel
theorem dX7_parts_69 : decode cX7_parts 69 = .ok (.aload_n 0, 1) := by decide +kernel
theorem dX7_parts_70 : decode cX7_parts 70 = .ok (.ldc 149, 2) := by decide +kernel
theorem dX7_parts_72 : decode cX7_parts 72 = .ok (.invokevirtual 68, 3) := by decide +kernel
theorem dX7_parts_75 : decode cX7_parts 75 = .ok (.ireturn, 1) := by decide +kernel
theorem dX7_going_0 : decode cX7_going 0 = .ok (.iload_n 1, 1) := by decide +kernel
theorem dX7_going_1 : decode cX7_going 1 = .ok (.invokestatic 208, 3) := by decide +kernel
theorem dX7_going_4 : decode cX7_going 4 = .ok (.ifCond .ne 10, 3) := by decide +kernel
theorem dX7_going_7 : decode cX7_going 7 = .ok (.aload_n 0, 1) := by decide +kernel
theorem dX7_going_8 : decode cX7_going 8 = .ok (.ldc 67, 2) := by decide +kernel
theorem dX7_going_10 : decode cX7_going 10 = .ok (.invokevirtual 68, 3) := by decide +kernel
theorem dX7_going_13 : decode cX7_going 13 = .ok (.ireturn, 1) := by decide +kernel
theorem dX7_going_14 : decode cX7_going 14 = .ok (.aload_n 0, 1) := by decide +kernel
theorem dX7_going_15 : decode cX7_going 15 = .ok (.getfield 44, 3) := by decide +kernel
theorem dX7_going_18 : decode cX7_going 18 = .ok (.aload_n 0, 1) := by decide +kernel
theorem dX7_going_19 : decode cX7_going 19 = .ok (.getfield 12, 3) := by decide +kernel
theorem dX7_going_22 : decode cX7_going 22 = .ok (.getfield 72, 3) := by decide +kernel
theorem dX7_going_25 : decode cX7_going 25 = .ok (.invokevirtual 192, 3) := by decide +kernel
theorem dX7_going_28 : decode cX7_going 28 = .ok (.aload_n 0, 1) := by decide +kernel
theorem dX7_going_29 : decode cX7_going 29 = .ok (.getfield 44, 3) := by decide +kernel
theorem dX7_going_32 : decode cX7_going 32 = .ok (.iload_n 1, 1) := by decide +kernel
theorem dX7_going_33 : decode cX7_going 33 = .ok (.invokevirtual 211, 3) := by decide +kernel
theorem dX7_going_36 : decode cX7_going 36 = .ok (.ireturn, 1) := by decide +kernel
theorem dX7_tapFor_0 : decode cX7_tapFor 0 = .ok (.iload_n 1, 1) := by decide +kernel
theorem dX7_tapFor_1 : decode cX7_tapFor 1 = .ok (.iconst 0, 1) := by decide +kernel
theorem dX7_tapFor_2 : decode cX7_tapFor 2 = .ok (.iconst 3, 1) := by decide +kernel
theorem dX7_tapFor_3 : decode cX7_tapFor 3 = .ok (.invokestatic 63, 3) := by decide +kernel
theorem dX7_tapFor_6 : decode cX7_tapFor 6 = .ok (.ifCond .eq 10, 3) := by decide +kernel
theorem dX7_tapFor_9 : decode cX7_tapFor 9 = .ok (.iload_n 2, 1) := by decide +kernel
theorem dX7_tapFor_10 : decode cX7_tapFor 10 = .ok (.invokestatic 208, 3) := by decide +kernel
theorem dX7_tapFor_13 : decode cX7_tapFor 13 = .ok (.ifCond .ne 10, 3) := by decide +kernel
theorem dX7_tapFor_16 : decode cX7_tapFor 16 = .ok (.aload_n 0, 1) := by decide +kernel
theorem dX7_tapFor_17 : decode cX7_tapFor 17 = .ok (.ldc 67, 2) := by decide +kernel
theorem dX7_tapFor_19 : decode cX7_tapFor 19 = .ok (.invokevirtual 68, 3) := by decide +kernel
theorem dX7_tapFor_22 : decode cX7_tapFor 22 = .ok (.ireturn, 1) := by decide +kernel
theorem dX7_tapFor_23 : decode cX7_tapFor 23 = .ok (.iconst 0, 1) := by decide +kernel
theorem dX7_tapFor_24 : decode cX7_tapFor 24 = .ok (.istore_n 3, 1) := by decide +kernel
theorem dX7_tapFor_25 : decode cX7_tapFor 25 = .ok (.iload_n 3, 1) := by decide +kernel
theorem dX7_tapFor_26 : decode cX7_tapFor 26 = .ok (.bipush 99, 2) := by decide +kernel
theorem dX7_tapFor_28 : decode cX7_tapFor 28 = .ok (.if_icmp .gt 47, 3) := by decide +kernel
theorem dX7_tapFor_31 : decode cX7_tapFor 31 = .ok (.aload_n 0, 1) := by decide +kernel
theorem dX7_tapFor_32 : decode cX7_tapFor 32 = .ok (.getfield 44, 3) := by decide +kernel
theorem dX7_tapFor_35 : decode cX7_tapFor 35 = .ok (.aload_n 0, 1) := by decide +kernel
theorem dX7_tapFor_36 : decode cX7_tapFor 36 = .ok (.getfield 12, 3) := by decide +kernel
theorem dX7_tapFor_39 : decode cX7_tapFor 39 = .ok (.getfield 72, 3) := by decide +kernel
theorem dX7_tapFor_42 : decode cX7_tapFor 42 = .ok (.invokevirtual 192, 3) := by decide +kernel
theorem dX7_tapFor_45 : decode cX7_tapFor 45 = .ok (.aload_n 0, 1) := by decide +kernel
theorem dX7_tapFor_46 : decode cX7_tapFor 46 = .ok (.getfield 44, 3) := by decide +kernel
theorem dX7_tapFor_49 : decode cX7_tapFor 49 = .ok (.getfield 75, 3) := by decide +kernel
theorem dX7_tapFor_52 : decode cX7_tapFor 52 = .ok (.iconst 0, 1) := by decide +kernel
theorem dX7_tapFor_53 : decode cX7_tapFor 53 = .ok (.iload_n 3, 1) := by decide +kernel
theorem dX7_tapFor_54 : decode cX7_tapFor 54 = .ok (.iastore, 1) := by decide +kernel
theorem dX7_tapFor_55 : decode cX7_tapFor 55 = .ok (.aload_n 0, 1) := by decide +kernel
theorem dX7_tapFor_56 : decode cX7_tapFor 56 = .ok (.getfield 44, 3) := by decide +kernel
theorem dX7_tapFor_59 : decode cX7_tapFor 59 = .ok (.iload_n 2, 1) := by decide +kernel
theorem dX7_tapFor_60 : decode cX7_tapFor 60 = .ok (.invokevirtual 211, 3) := by decide +kernel
theorem dX7_tapFor_63 : decode cX7_tapFor 63 = .ok (.iload_n 1, 1) := by decide +kernel
theorem dX7_tapFor_64 : decode cX7_tapFor 64 = .ok (.if_icmp .ne 5, 3) := by decide +kernel
theorem dX7_tapFor_67 : decode cX7_tapFor 67 = .ok (.iload_n 3, 1) := by decide +kernel
theorem dX7_tapFor_68 : decode cX7_tapFor 68 = .ok (.ireturn, 1) := by decide +kernel
theorem dX7_tapFor_69 : decode cX7_tapFor 69 = .ok (.iinc 3 1, 3) := by decide +kernel
theorem dX7_tapFor_72 : decode cX7_tapFor 72 = .ok (.goto (-47), 3) := by decide +kernel
theorem dX7_tapFor_75 : decode cX7_tapFor 75 = .ok (.aload_n 0, 1) := by decide +kernel
theorem dX7_tapFor_76 : decode cX7_tapFor 76 = .ok (.ldc 149, 2) := by decide +kernel
theorem dX7_tapFor_78 : decode cX7_tapFor 78 = .ok (.invokevirtual 68, 3) := by decide +kernel
theorem dX7_tapFor_81 : decode cX7_tapFor 81 = .ok (.ireturn, 1) := by decide +kernel
theorem dX7_bounds_0 : decode cX7_bounds 0 = .ok (.iload_n 1, 1) := by decide +kernel
theorem dX7_bounds_1 : decode cX7_bounds 1 = .ok (.invokestatic 189, 3) := by decide +kernel
theorem dX7_bounds_4 : decode cX7_bounds 4 = .ok (.ifCond .eq 12, 3) := by decide +kernel
theorem dX7_bounds_7 : decode cX7_bounds 7 = .ok (.iload_n 2, 1) := by decide +kernel
theorem dX7_bounds_8 : decode cX7_bounds 8 = .ok (.iconst 0, 1) := by decide +kernel
theorem dX7_bounds_9 : decode cX7_bounds 9 = .ok (.iconst 1, 1) := by decide +kernel
theorem dX7_bounds_10 : decode cX7_bounds 10 = .ok (.invokestatic 63, 3) := by decide +kernel
theorem dX7_bounds_13 : decode cX7_bounds 13 = .ok (.ifCond .ne 10, 3) := by decide +kernel
theorem dX7_bounds_16 : decode cX7_bounds 16 = .ok (.aload_n 0, 1) := by decide +kernel
theorem dX7_bounds_17 : decode cX7_bounds 17 = .ok (.ldc 67, 2) := by decide +kernel
theorem dX7_bounds_19 : decode cX7_bounds 19 = .ok (.invokevirtual 68, 3) := by decide +kernel
theorem dX7_bounds_22 : decode cX7_bounds 22 = .ok (.ireturn, 1) := by decide +kernel
theorem dX7_bounds_23 : decode cX7_bounds 23 = .ok (.aload_n 0, 1) := by decide +kernel
theorem dX7_bounds_24 : decode cX7_bounds 24 = .ok (.getfield 44, 3) := by decide +kernel
theorem dX7_bounds_27 : decode cX7_bounds 27 = .ok (.aload_n 0, 1) := by decide +kernel
theorem dX7_bounds_28 : decode cX7_bounds 28 = .ok (.getfield 12, 3) := by decide +kernel
theorem dX7_bounds_31 : decode cX7_bounds 31 = .ok (.getfield 72, 3) := by decide +kernel
theorem dX7_bounds_34 : decode cX7_bounds 34 = .ok (.invokevirtual 192, 3) := by decide +kernel
theorem dX7_bounds_37 : decode cX7_bounds 37 = .ok (.aload_n 0, 1) := by decide +kernel
theorem dX7_bounds_38 : decode cX7_bounds 38 = .ok (.getfield 44, 3) := by decide +kernel
theorem dX7_bounds_41 : decode cX7_bounds 41 = .ok (.getfield 108, 3) := by decide +kernel
theorem dX7_bounds_44 : decode cX7_bounds 44 = .ok (.istore_n 3, 1) := by decide +kernel
theorem dX7_bounds_45 : decode cX7_bounds 45 = .ok (.aload_n 0, 1) := by decide +kernel
theorem dX7_bounds_46 : decode cX7_bounds 46 = .ok (.getfield 44, 3) := by decide +kernel
theorem dX7_bounds_49 : decode cX7_bounds 49 = .ok (.getfield 108, 3) := by decide +kernel
theorem dX7_bounds_52 : decode cX7_bounds 52 = .ok (.istore 4, 2) := by decide +kernel
theorem dX7_bounds_54 : decode cX7_bounds 54 = .ok (.iconst 1, 1) := by decide +kernel
theorem dX7_bounds_55 : decode cX7_bounds 55 = .ok (.istore 5, 2) := by decide +kernel
theorem dX7_bounds_57 : decode cX7_bounds 57 = .ok (.iload 5, 2) := by decide +kernel
theorem dX7_bounds_59 : decode cX7_bounds 59 = .ok (.iload_n 1, 1) := by decide +kernel
theorem dX7_bounds_60 : decode cX7_bounds 60 = .ok (.if_icmp .gt 42, 3) := by decide +kernel
theorem dX7_bounds_63 : decode cX7_bounds 63 = .ok (.aload_n 0, 1) := by decide +kernel
theorem dX7_bounds_64 : decode cX7_bounds 64 = .ok (.getfield 44, 3) := by decide +kernel
theorem dX7_bounds_67 : decode cX7_bounds 67 = .ok (.invokevirtual 205, 3) := by decide +kernel
theorem dX7_bounds_70 : decode cX7_bounds 70 = .ok (.iload_n 3, 1) := by decide +kernel
theorem dX7_bounds_71 : decode cX7_bounds 71 = .ok (.aload_n 0, 1) := by decide +kernel
theorem dX7_bounds_72 : decode cX7_bounds 72 = .ok (.getfield 44, 3) := by decide +kernel
theorem dX7_bounds_75 : decode cX7_bounds 75 = .ok (.getfield 108, 3) := by decide +kernel
theorem dX7_bounds_78 : decode cX7_bounds 78 = .ok (.invokestatic 155, 3) := by decide +kernel
theorem dX7_bounds_81 : decode cX7_bounds 81 = .ok (.istore_n 3, 1) := by decide +kernel
theorem dX7_bounds_82 : decode cX7_bounds 82 = .ok (.iload 4, 2) := by decide +kernel
theorem dX7_bounds_84 : decode cX7_bounds 84 = .ok (.aload_n 0, 1) := by decide +kernel
theorem dX7_bounds_85 : decode cX7_bounds 85 = .ok (.getfield 44, 3) := by decide +kernel
theorem dX7_bounds_88 : decode cX7_bounds 88 = .ok (.getfield 108, 3) := by decide +kernel
theorem dX7_bounds_91 : decode cX7_bounds 91 = .ok (.invokestatic 214, 3) := by decide +kernel
theorem dX7_bounds_94 : decode cX7_bounds 94 = .ok (.istore 4, 2) := by decide +kernel
theorem dX7_bounds_96 : decode cX7_bounds 96 = .ok (.iinc 5 1, 3) := by decide +kernel
theorem dX7_bounds_99 : decode cX7_bounds 99 = .ok (.goto (-42), 3) := by decide +kernel
theorem dX7_bounds_102 : decode cX7_bounds 102 = .ok (.iload_n 2, 1) := by decide +kernel
theorem dX7_bounds_103 : decode cX7_bounds 103 = .ok (.ifCond .ne 7, 3) := by decide +kernel
theorem dX7_bounds_106 : decode cX7_bounds 106 = .ok (.iload_n 3, 1) := by decide +kernel
theorem dX7_bounds_107 : decode cX7_bounds 107 = .ok (.goto 5, 3) := by decide +kernel
theorem dX7_bounds_110 : decode cX7_bounds 110 = .ok (.iload 4, 2) := by decide +kernel
theorem dX7_bounds_112 : decode cX7_bounds 112 = .ok (.ireturn, 1) := by decide +kernel
theorem dX7_often_0 : decode cX7_often 0 = .ok (.iload_n 1, 1) := by decide +kernel
theorem dX7_often_1 : decode cX7_often 1 = .ok (.iconst 1, 1) := by decide +kernel
theorem dX7_often_2 : decode cX7_often 2 = .ok (.sipush 400, 3) := by decide +kernel
theorem dX7_often_5 : decode cX7_often 5 = .ok (.invokestatic 63, 3) := by decide +kernel
theorem dX7_often_8 : decode cX7_often 8 = .ok (.ifCond .ne 10, 3) := by decide +kernel
theorem dX7_often_11 : decode cX7_often 11 = .ok (.aload_n 0, 1) := by decide +kernel
theorem dX7_often_12 : decode cX7_often 12 = .ok (.ldc 67, 2) := by decide +kernel
theorem dX7_often_14 : decode cX7_often 14 = .ok (.invokevirtual 68, 3) := by decide +kernel
theorem dX7_often_17 : decode cX7_often 17 = .ok (.ireturn, 1) := by decide +kernel
theorem dX7_often_18 : decode cX7_often 18 = .ok (.aload_n 0, 1) := by decide +kernel
theorem dX7_often_19 : decode cX7_often 19 = .ok (.getfield 44, 3) := by decide +kernel
theorem dX7_often_22 : decode cX7_often 22 = .ok (.aload_n 0, 1) := by decide +kernel
theorem dX7_often_23 : decode cX7_often 23 = .ok (.getfield 12, 3) := by decide +kernel
theorem dX7_often_26 : decode cX7_often 26 = .ok (.getfield 72, 3) := by decide +kernel
theorem dX7_often_29 : decode cX7_often 29 = .ok (.invokevirtual 192, 3) := by decide +kernel
theorem dX7_often_32 : decode cX7_often 32 = .ok (.iconst 0, 1) := by decide +kernel
theorem dX7_often_33 : decode cX7_often 33 = .ok (.istore_n 2, 1) := by decide +kernel
theorem dX7_often_34 : decode cX7_often 34 = .ok (.iconst 1, 1) := by decide +kernel
theorem dX7_often_35 : decode cX7_often 35 = .ok (.istore_n 3, 1) := by decide +kernel
theorem dX7_often_36 : decode cX7_often 36 = .ok (.iload_n 3, 1) := by decide +kernel
theorem dX7_often_37 : decode cX7_often 37 = .ok (.iload_n 1, 1) := by decide +kernel
theorem dX7_often_38 : decode cX7_often 38 = .ok (.if_icmp .gt 29, 3) := by decide +kernel
theorem dX7_often_41 : decode cX7_often 41 = .ok (.aload_n 0, 1) := by decide +kernel
theorem dX7_often_42 : decode cX7_often 42 = .ok (.getfield 44, 3) := by decide +kernel
theorem dX7_often_45 : decode cX7_often 45 = .ok (.invokevirtual 205, 3) := by decide +kernel
theorem dX7_often_48 : decode cX7_often 48 = .ok (.aload_n 0, 1) := by decide +kernel
theorem dX7_often_49 : decode cX7_often 49 = .ok (.getfield 44, 3) := by decide +kernel
theorem dX7_often_52 : decode cX7_often 52 = .ok (.getfield 108, 3) := by decide +kernel
theorem dX7_often_55 : decode cX7_often 55 = .ok (.ifCond .le 6, 3) := by decide +kernel
theorem dX7_often_58 : decode cX7_often 58 = .ok (.iinc 2 1, 3) := by decide +kernel
theorem dX7_often_61 : decode cX7_often 61 = .ok (.iinc 3 1, 3) := by decide +kernel
theorem dX7_often_64 : decode cX7_often 64 = .ok (.goto (-28), 3) := by decide +kernel
theorem dX7_often_67 : decode cX7_often 67 = .ok (.iload_n 2, 1) := by decide +kernel
theorem dX7_often_68 : decode cX7_often 68 = .ok (.ireturn, 1) := by decide +kernel
theorem dX7_holds_0 : decode cX7_holds 0 = .ok (.iload_n 1, 1) := by decide +kernel
theorem dX7_holds_1 : decode cX7_holds 1 = .ok (.iconst 1, 1) := by decide +kernel
theorem dX7_holds_2 : decode cX7_holds 2 = .ok (.sipush 400, 3) := by decide +kernel
theorem dX7_holds_5 : decode cX7_holds 5 = .ok (.invokestatic 63, 3) := by decide +kernel
theorem dX7_holds_8 : decode cX7_holds 8 = .ok (.ifCond .ne 10, 3) := by decide +kernel
theorem dX7_holds_11 : decode cX7_holds 11 = .ok (.aload_n 0, 1) := by decide +kernel
theorem dX7_holds_12 : decode cX7_holds 12 = .ok (.ldc 67, 2) := by decide +kernel
theorem dX7_holds_14 : decode cX7_holds 14 = .ok (.invokevirtual 68, 3) := by decide +kernel
theorem dX7_holds_17 : decode cX7_holds 17 = .ok (.ireturn, 1) := by decide +kernel
theorem dX7_holds_18 : decode cX7_holds 18 = .ok (.iconst 0, 1) := by decide +kernel
theorem dX7_holds_19 : decode cX7_holds 19 = .ok (.istore_n 2, 1) := by decide +kernel
theorem dX7_holds_20 : decode cX7_holds 20 = .ok (.iload_n 2, 1) := by decide +kernel
theorem dX7_holds_21 : decode cX7_holds 21 = .ok (.bipush 50, 2) := by decide +kernel
theorem dX7_holds_23 : decode cX7_holds 23 = .ok (.if_icmp .gt 37, 3) := by decide +kernel
theorem dX7_holds_26 : decode cX7_holds 26 = .ok (.aload_n 0, 1) := by decide +kernel
theorem dX7_holds_27 : decode cX7_holds 27 = .ok (.iload_n 2, 1) := by decide +kernel
theorem dX7_holds_28 : decode cX7_holds 28 = .ok (.iload_n 1, 1) := by decide +kernel
theorem dX7_holds_29 : decode cX7_holds 29 = .ok (.invokevirtual 217, 3) := by decide +kernel
theorem dX7_holds_32 : decode cX7_holds 32 = .ok (.ifCond .eq 5, 3) := by decide +kernel
theorem dX7_holds_35 : decode cX7_holds 35 = .ok (.iload_n 2, 1) := by decide +kernel
theorem dX7_holds_36 : decode cX7_holds 36 = .ok (.ireturn, 1) := by decide +kernel
theorem dX7_holds_37 : decode cX7_holds 37 = .ok (.iload_n 2, 1) := by decide +kernel
theorem dX7_holds_38 : decode cX7_holds 38 = .ok (.ifCond .eq 16, 3) := by decide +kernel
theorem dX7_holds_41 : decode cX7_holds 41 = .ok (.aload_n 0, 1) := by decide +kernel
theorem dX7_holds_42 : decode cX7_holds 42 = .ok (.iload_n 2, 1) := by decide +kernel
theorem dX7_holds_43 : decode cX7_holds 43 = .ok (.ineg, 1) := by decide +kernel
theorem dX7_holds_44 : decode cX7_holds 44 = .ok (.iload_n 1, 1) := by decide +kernel
theorem dX7_holds_45 : decode cX7_holds 45 = .ok (.invokevirtual 217, 3) := by decide +kernel
theorem dX7_holds_48 : decode cX7_holds 48 = .ok (.ifCond .eq 6, 3) := by decide +kernel
theorem dX7_holds_51 : decode cX7_holds 51 = .ok (.iload_n 2, 1) := by decide +kernel
theorem dX7_holds_52 : decode cX7_holds 52 = .ok (.ineg, 1) := by decide +kernel
theorem dX7_holds_53 : decode cX7_holds 53 = .ok (.ireturn, 1) := by decide +kernel
theorem dX7_holds_54 : decode cX7_holds 54 = .ok (.iinc 2 1, 3) := by decide +kernel
theorem dX7_holds_57 : decode cX7_holds 57 = .ok (.goto (-37), 3) := by decide +kernel
theorem dX7_holds_60 : decode cX7_holds 60 = .ok (.aload_n 0, 1) := by decide +kernel
theorem dX7_holds_61 : decode cX7_holds 61 = .ok (.ldc 149, 2) := by decide +kernel
theorem dX7_holds_63 : decode cX7_holds 63 = .ok (.invokevirtual 68, 3) := by decide +kernel
theorem dX7_holds_66 : decode cX7_holds 66 = .ok (.ireturn, 1) := by decide +kernel
theorem dX7_chance_0 : decode cX7_chance 0 = .ok (.iload_n 1, 1) := by decide +kernel
theorem dX7_chance_1 : decode cX7_chance 1 = .ok (.iconst 1, 1) := by decide +kernel
theorem dX7_chance_2 : decode cX7_chance 2 = .ok (.bipush 20, 2) := by decide +kernel
theorem dX7_chance_4 : decode cX7_chance 4 = .ok (.invokestatic 63, 3) := by decide +kernel
theorem dX7_chance_7 : decode cX7_chance 7 = .ok (.ifCond .eq 14, 3) := by decide +kernel
theorem dX7_chance_10 : decode cX7_chance 10 = .ok (.iload_n 2, 1) := by decide +kernel
theorem dX7_chance_11 : decode cX7_chance 11 = .ok (.iconst 1, 1) := by decide +kernel
theorem dX7_chance_12 : decode cX7_chance 12 = .ok (.sipush 200, 3) := by decide +kernel
theorem dX7_chance_15 : decode cX7_chance 15 = .ok (.invokestatic 63, 3) := by decide +kernel
theorem dX7_chance_18 : decode cX7_chance 18 = .ok (.ifCond .ne 10, 3) := by decide +kernel
theorem dX7_chance_21 : decode cX7_chance 21 = .ok (.aload_n 0, 1) := by decide +kernel
theorem dX7_chance_22 : decode cX7_chance 22 = .ok (.ldc 67, 2) := by decide +kernel
theorem dX7_chance_24 : decode cX7_chance 24 = .ok (.invokevirtual 68, 3) := by decide +kernel
theorem dX7_chance_27 : decode cX7_chance 27 = .ok (.ireturn, 1) := by decide +kernel
theorem dX7_chance_28 : decode cX7_chance 28 = .ok (.iconst 0, 1) := by decide +kernel
theorem dX7_chance_29 : decode cX7_chance 29 = .ok (.istore_n 3, 1) := by decide +kernel
theorem dX7_chance_30 : decode cX7_chance 30 = .ok (.iconst 0, 1) := by decide +kernel
theorem dX7_chance_31 : decode cX7_chance 31 = .ok (.istore 4, 2) := by decide +kernel
theorem dX7_chance_33 : decode cX7_chance 33 = .ok (.iload 4, 2) := by decide +kernel
theorem dX7_chance_35 : decode cX7_chance 35 = .ok (.iload_n 1, 1) := by decide +kernel
theorem dX7_chance_36 : decode cX7_chance 36 = .ok (.if_icmp .ge 64, 3) := by decide +kernel
theorem dX7_chance_39 : decode cX7_chance 39 = .ok (.aload_n 0, 1) := by decide +kernel
theorem dX7_chance_40 : decode cX7_chance 40 = .ok (.getfield 44, 3) := by decide +kernel
theorem dX7_chance_43 : decode cX7_chance 43 = .ok (.aload_n 0, 1) := by decide +kernel
theorem dX7_chance_44 : decode cX7_chance 44 = .ok (.getfield 12, 3) := by decide +kernel
theorem dX7_chance_47 : decode cX7_chance 47 = .ok (.getfield 72, 3) := by decide +kernel
theorem dX7_chance_50 : decode cX7_chance 50 = .ok (.invokevirtual 192, 3) := by decide +kernel
theorem dX7_chance_53 : decode cX7_chance 53 = .ok (.aload_n 0, 1) := by decide +kernel
theorem dX7_chance_54 : decode cX7_chance 54 = .ok (.getfield 44, 3) := by decide +kernel
theorem dX7_chance_57 : decode cX7_chance 57 = .ok (.aload_n 0, 1) := by decide +kernel
theorem dX7_chance_58 : decode cX7_chance 58 = .ok (.getfield 12, 3) := by decide +kernel
theorem dX7_chance_61 : decode cX7_chance 61 = .ok (.invokevirtual 221, 3) := by decide +kernel
theorem dX7_chance_64 : decode cX7_chance 64 = .ok (.bipush 21, 2) := by decide +kernel
theorem dX7_chance_66 : decode cX7_chance 66 = .ok (.irem, 1) := by decide +kernel
theorem dX7_chance_67 : decode cX7_chance 67 = .ok (.bipush 10, 2) := by decide +kernel
theorem dX7_chance_69 : decode cX7_chance 69 = .ok (.isub, 1) := by decide +kernel
theorem dX7_chance_70 : decode cX7_chance 70 = .ok (.invokevirtual 104, 3) := by decide +kernel
theorem dX7_chance_73 : decode cX7_chance 73 = .ok (.aload_n 0, 1) := by decide +kernel
theorem dX7_chance_74 : decode cX7_chance 74 = .ok (.getfield 44, 3) := by decide +kernel
theorem dX7_chance_77 : decode cX7_chance 77 = .ok (.iload_n 2, 1) := by decide +kernel
theorem dX7_chance_78 : decode cX7_chance 78 = .ok (.invokevirtual 115, 3) := by decide +kernel
theorem dX7_chance_81 : decode cX7_chance 81 = .ok (.aload_n 0, 1) := by decide +kernel
theorem dX7_chance_82 : decode cX7_chance 82 = .ok (.getfield 44, 3) := by decide +kernel
theorem dX7_chance_85 : decode cX7_chance 85 = .ok (.getfield 108, 3) := by decide +kernel
theorem dX7_chance_88 : decode cX7_chance 88 = .ok (.ifCond .le 6, 3) := by decide +kernel
theorem dX7_chance_91 : decode cX7_chance 91 = .ok (.iinc 3 1, 3) := by decide +kernel
theorem dX7_chance_94 : decode cX7_chance 94 = .ok (.iinc 4 1, 3) := by decide +kernel
theorem dX7_chance_97 : decode cX7_chance 97 = .ok (.goto (-64), 3) := by decide +kernel
theorem dX7_chance_100 : decode cX7_chance 100 = .ok (.iload_n 3, 1) := by decide +kernel
theorem dX7_chance_101 : decode cX7_chance 101 = .ok (.ireturn, 1) := by decide +kernel
theorem dX7_brief_0 : decode cX7_brief 0 = .ok (.iload_n 1, 1) := by decide +kernel
theorem dX7_brief_1 : decode cX7_brief 1 = .ok (.iload_n 2, 1) := by decide +kernel
theorem dX7_brief_2 : decode cX7_brief 2 = .ok (.iload_n 3, 1) := by decide +kernel
theorem dX7_brief_3 : decode cX7_brief 3 = .ok (.invokestatic 224, 3) := by decide +kernel
theorem dX7_brief_6 : decode cX7_brief 6 = .ok (.ifCond .eq 13, 3) := by decide +kernel
theorem dX7_brief_9 : decode cX7_brief 9 = .ok (.iload 4, 2) := by decide +kernel
theorem dX7_brief_11 : decode cX7_brief 11 = .ok (.iconst 0, 1) := by decide +kernel
theorem dX7_brief_12 : decode cX7_brief 12 = .ok (.iconst 2, 1) := by decide +kernel
theorem dX7_brief_13 : decode cX7_brief 13 = .ok (.invokestatic 63, 3) := by decide +kernel
theorem dX7_brief_16 : decode cX7_brief 16 = .ok (.ifCond .ne 10, 3) := by decide +kernel
theorem dX7_brief_19 : decode cX7_brief 19 = .ok (.aload_n 0, 1) := by decide +kernel
end
section
/-! decode rows 1 -/
theorem dX7_brief_20 : decode cX7_brief 20 = .ok (.ldc 67, 2) := by decide +kernel
theorem dX7_brief_22 : decode cX7_brief 22 = .ok (.invokevirtual 68, 3) := by decide +kernel
theorem dX7_brief_25 : decode cX7_brief 25 = .ok (.ireturn, 1) := by decide +kernel
theorem dX7_brief_26 : decode cX7_brief 26 = .ok (.aload_n 0, 1) := by decide +kernel
theorem dX7_brief_27 : decode cX7_brief 27 = .ok (.getfield 54, 3) := by decide +kernel
theorem dX7_brief_30 : decode cX7_brief 30 = .ok (.iload_n 1, 1) := by decide +kernel
theorem dX7_brief_31 : decode cX7_brief 31 = .ok (.iload_n 2, 1) := by decide +kernel
theorem dX7_brief_32 : decode cX7_brief 32 = .ok (.invokevirtual 227, 3) := by decide +kernel
theorem dX7_brief_35 : decode cX7_brief 35 = .ok (.iconst 0, 1) := by decide +kernel
theorem dX7_brief_36 : decode cX7_brief 36 = .ok (.istore 5, 2) := by decide +kernel
theorem dX7_brief_38 : decode cX7_brief 38 = .ok (.iload 5, 2) := by decide +kernel
theorem dX7_brief_40 : decode cX7_brief 40 = .ok (.iload_n 3, 1) := by decide +kernel
theorem dX7_brief_41 : decode cX7_brief 41 = .ok (.if_icmp .ge 16, 3) := by decide +kernel
theorem dX7_brief_44 : decode cX7_brief 44 = .ok (.aload_n 0, 1) := by decide +kernel
theorem dX7_brief_45 : decode cX7_brief 45 = .ok (.getfield 54, 3) := by decide +kernel
theorem dX7_brief_48 : decode cX7_brief 48 = .ok (.invokevirtual 231, 3) := by decide +kernel
theorem dX7_brief_51 : decode cX7_brief 51 = .ok (.iinc 5 1, 3) := by decide +kernel
theorem dX7_brief_54 : decode cX7_brief 54 = .ok (.goto (-16), 3) := by decide +kernel
theorem dX7_brief_57 : decode cX7_brief 57 = .ok (.iload 4, 2) := by decide +kernel
theorem dX7_brief_59 : decode cX7_brief 59 = .ok (.lookupswitch 43 #[(0, 25), (1, 34)], 25) := by decide +kernel
theorem dX7_brief_84 : decode cX7_brief 84 = .ok (.aload_n 0, 1) := by decide +kernel
theorem dX7_brief_85 : decode cX7_brief 85 = .ok (.getfield 54, 3) := by decide +kernel
theorem dX7_brief_88 : decode cX7_brief 88 = .ok (.getfield 234, 3) := by decide +kernel
theorem dX7_brief_91 : decode cX7_brief 91 = .ok (.l2i, 1) := by decide +kernel
theorem dX7_brief_92 : decode cX7_brief 92 = .ok (.ireturn, 1) := by decide +kernel
theorem dX7_brief_93 : decode cX7_brief 93 = .ok (.aload_n 0, 1) := by decide +kernel
theorem dX7_brief_94 : decode cX7_brief 94 = .ok (.getfield 54, 3) := by decide +kernel
theorem dX7_brief_97 : decode cX7_brief 97 = .ok (.getfield 238, 3) := by decide +kernel
theorem dX7_brief_100 : decode cX7_brief 100 = .ok (.l2i, 1) := by decide +kernel
theorem dX7_brief_101 : decode cX7_brief 101 = .ok (.ireturn, 1) := by decide +kernel
theorem dX7_brief_102 : decode cX7_brief 102 = .ok (.aload_n 0, 1) := by decide +kernel
theorem dX7_brief_103 : decode cX7_brief 103 = .ok (.getfield 54, 3) := by decide +kernel
theorem dX7_brief_106 : decode cX7_brief 106 = .ok (.getfield 241, 3) := by decide +kernel
theorem dX7_brief_109 : decode cX7_brief 109 = .ok (.l2i, 1) := by decide +kernel
theorem dX7_brief_110 : decode cX7_brief 110 = .ok (.ireturn, 1) := by decide +kernel
theorem dX7_flips_0 : decode cX7_flips 0 = .ok (.iload_n 1, 1) := by decide +kernel
theorem dX7_flips_1 : decode cX7_flips 1 = .ok (.iload_n 2, 1) := by decide +kernel
theorem dX7_flips_2 : decode cX7_flips 2 = .ok (.iload_n 3, 1) := by decide +kernel
theorem dX7_flips_3 : decode cX7_flips 3 = .ok (.invokestatic 224, 3) := by decide +kernel
theorem dX7_flips_6 : decode cX7_flips 6 = .ok (.ifCond .ne 10, 3) := by decide +kernel
theorem dX7_flips_9 : decode cX7_flips 9 = .ok (.aload_n 0, 1) := by decide +kernel
theorem dX7_flips_10 : decode cX7_flips 10 = .ok (.ldc 67, 2) := by decide +kernel
theorem dX7_flips_12 : decode cX7_flips 12 = .ok (.invokevirtual 68, 3) := by decide +kernel
theorem dX7_flips_15 : decode cX7_flips 15 = .ok (.ireturn, 1) := by decide +kernel
theorem dX7_flips_16 : decode cX7_flips 16 = .ok (.aload_n 0, 1) := by decide +kernel
theorem dX7_flips_17 : decode cX7_flips 17 = .ok (.getfield 54, 3) := by decide +kernel
theorem dX7_flips_20 : decode cX7_flips 20 = .ok (.iload_n 1, 1) := by decide +kernel
theorem dX7_flips_21 : decode cX7_flips 21 = .ok (.iload_n 2, 1) := by decide +kernel
theorem dX7_flips_22 : decode cX7_flips 22 = .ok (.invokevirtual 227, 3) := by decide +kernel
theorem dX7_flips_25 : decode cX7_flips 25 = .ok (.aload_n 0, 1) := by decide +kernel
theorem dX7_flips_26 : decode cX7_flips 26 = .ok (.getfield 54, 3) := by decide +kernel
theorem dX7_flips_29 : decode cX7_flips 29 = .ok (.getfield 234, 3) := by decide +kernel
theorem dX7_flips_32 : decode cX7_flips 32 = .ok (.lconst 0, 1) := by decide +kernel
theorem dX7_flips_33 : decode cX7_flips 33 = .ok (.invokestatic 244, 3) := by decide +kernel
theorem dX7_flips_36 : decode cX7_flips 36 = .ok (.istore 4, 2) := by decide +kernel
theorem dX7_flips_38 : decode cX7_flips 38 = .ok (.iconst 0, 1) := by decide +kernel
theorem dX7_flips_39 : decode cX7_flips 39 = .ok (.istore 5, 2) := by decide +kernel
theorem dX7_flips_41 : decode cX7_flips 41 = .ok (.iconst 0, 1) := by decide +kernel
theorem dX7_flips_42 : decode cX7_flips 42 = .ok (.istore 6, 2) := by decide +kernel
theorem dX7_flips_44 : decode cX7_flips 44 = .ok (.iload 6, 2) := by decide +kernel
theorem dX7_flips_46 : decode cX7_flips 46 = .ok (.iload_n 3, 1) := by decide +kernel
theorem dX7_flips_47 : decode cX7_flips 47 = .ok (.if_icmp .ge 49, 3) := by decide +kernel
theorem dX7_flips_50 : decode cX7_flips 50 = .ok (.aload_n 0, 1) := by decide +kernel
theorem dX7_flips_51 : decode cX7_flips 51 = .ok (.getfield 54, 3) := by decide +kernel
theorem dX7_flips_54 : decode cX7_flips 54 = .ok (.invokevirtual 231, 3) := by decide +kernel
theorem dX7_flips_57 : decode cX7_flips 57 = .ok (.aload_n 0, 1) := by decide +kernel
theorem dX7_flips_58 : decode cX7_flips 58 = .ok (.getfield 54, 3) := by decide +kernel
theorem dX7_flips_61 : decode cX7_flips 61 = .ok (.getfield 234, 3) := by decide +kernel
theorem dX7_flips_64 : decode cX7_flips 64 = .ok (.lconst 0, 1) := by decide +kernel
theorem dX7_flips_65 : decode cX7_flips 65 = .ok (.invokestatic 244, 3) := by decide +kernel
theorem dX7_flips_68 : decode cX7_flips 68 = .ok (.istore 7, 2) := by decide +kernel
theorem dX7_flips_70 : decode cX7_flips 70 = .ok (.iload 7, 2) := by decide +kernel
theorem dX7_flips_72 : decode cX7_flips 72 = .ok (.iload 4, 2) := by decide +kernel
theorem dX7_flips_74 : decode cX7_flips 74 = .ok (.imul, 1) := by decide +kernel
theorem dX7_flips_75 : decode cX7_flips 75 = .ok (.ifCond .ge 6, 3) := by decide +kernel
theorem dX7_flips_78 : decode cX7_flips 78 = .ok (.iinc 5 1, 3) := by decide +kernel
theorem dX7_flips_81 : decode cX7_flips 81 = .ok (.iload 7, 2) := by decide +kernel
theorem dX7_flips_83 : decode cX7_flips 83 = .ok (.ifCond .eq 7, 3) := by decide +kernel
theorem dX7_flips_86 : decode cX7_flips 86 = .ok (.iload 7, 2) := by decide +kernel
theorem dX7_flips_88 : decode cX7_flips 88 = .ok (.istore 4, 2) := by decide +kernel
theorem dX7_flips_90 : decode cX7_flips 90 = .ok (.iinc 6 1, 3) := by decide +kernel
theorem dX7_flips_93 : decode cX7_flips 93 = .ok (.goto (-49), 3) := by decide +kernel
theorem dX7_flips_96 : decode cX7_flips 96 = .ok (.iload 5, 2) := by decide +kernel
theorem dX7_flips_98 : decode cX7_flips 98 = .ok (.ireturn, 1) := by decide +kernel
theorem dX7_seed_0 : decode cX7_seed 0 = .ok (.aload_n 0, 1) := by decide +kernel
theorem dX7_seed_1 : decode cX7_seed 1 = .ok (.getfield 12, 3) := by decide +kernel
theorem dX7_seed_4 : decode cX7_seed 4 = .ok (.getfield 250, 3) := by decide +kernel
theorem dX7_seed_7 : decode cX7_seed 7 = .ok (.istore_n 2, 1) := by decide +kernel
theorem dX7_seed_8 : decode cX7_seed 8 = .ok (.aload_n 0, 1) := by decide +kernel
theorem dX7_seed_9 : decode cX7_seed 9 = .ok (.getfield 12, 3) := by decide +kernel
theorem dX7_seed_12 : decode cX7_seed 12 = .ok (.iload_n 1, 1) := by decide +kernel
theorem dX7_seed_13 : decode cX7_seed 13 = .ok (.putfield 250, 3) := by decide +kernel
theorem dX7_seed_16 : decode cX7_seed 16 = .ok (.iload_n 2, 1) := by decide +kernel
theorem dX7_seed_17 : decode cX7_seed 17 = .ok (.ireturn, 1) := by decide +kernel
theorem dX7_hold_0 : decode cX7_hold 0 = .ok (.iload_n 1, 1) := by decide +kernel
theorem dX7_hold_1 : decode cX7_hold 1 = .ok (.invokestatic 252, 3) := by decide +kernel
theorem dX7_hold_4 : decode cX7_hold 4 = .ok (.ifCond .eq 15, 3) := by decide +kernel
theorem dX7_hold_7 : decode cX7_hold 7 = .ok (.iload_n 2, 1) := by decide +kernel
theorem dX7_hold_8 : decode cX7_hold 8 = .ok (.iconst (-1), 1) := by decide +kernel
theorem dX7_hold_9 : decode cX7_hold 9 = .ok (.if_icmp .eq 17, 3) := by decide +kernel
theorem dX7_hold_12 : decode cX7_hold 12 = .ok (.iload_n 2, 1) := by decide +kernel
theorem dX7_hold_13 : decode cX7_hold 13 = .ok (.invokestatic 78, 3) := by decide +kernel
theorem dX7_hold_16 : decode cX7_hold 16 = .ok (.ifCond .ne 10, 3) := by decide +kernel
theorem dX7_hold_19 : decode cX7_hold 19 = .ok (.aload_n 0, 1) := by decide +kernel
theorem dX7_hold_20 : decode cX7_hold 20 = .ok (.ldc 67, 2) := by decide +kernel
theorem dX7_hold_22 : decode cX7_hold 22 = .ok (.invokevirtual 68, 3) := by decide +kernel
theorem dX7_hold_25 : decode cX7_hold 25 = .ok (.ireturn, 1) := by decide +kernel
theorem dX7_hold_26 : decode cX7_hold 26 = .ok (.aload_n 0, 1) := by decide +kernel
theorem dX7_hold_27 : decode cX7_hold 27 = .ok (.getfield 12, 3) := by decide +kernel
theorem dX7_hold_30 : decode cX7_hold 30 = .ok (.getfield 255, 3) := by decide +kernel
theorem dX7_hold_33 : decode cX7_hold 33 = .ok (.iload_n 1, 1) := by decide +kernel
theorem dX7_hold_34 : decode cX7_hold 34 = .ok (.iload_n 2, 1) := by decide +kernel
theorem dX7_hold_35 : decode cX7_hold 35 = .ok (.iastore, 1) := by decide +kernel
theorem dX7_hold_36 : decode cX7_hold 36 = .ok (.iconst 1, 1) := by decide +kernel
theorem dX7_hold_37 : decode cX7_hold 37 = .ok (.ireturn, 1) := by decide +kernel
theorem dX7_as_0 : decode cX7_as 0 = .ok (.iload_n 1, 1) := by decide +kernel
theorem dX7_as_1 : decode cX7_as 1 = .ok (.invokestatic 252, 3) := by decide +kernel
theorem dX7_as_4 : decode cX7_as 4 = .ok (.ifCond .eq 10, 3) := by decide +kernel
theorem dX7_as_7 : decode cX7_as 7 = .ok (.iload_n 2, 1) := by decide +kernel
theorem dX7_as_8 : decode cX7_as 8 = .ok (.invokestatic 82, 3) := by decide +kernel
theorem dX7_as_11 : decode cX7_as 11 = .ok (.ifCond .ne 10, 3) := by decide +kernel
theorem dX7_as_14 : decode cX7_as 14 = .ok (.aload_n 0, 1) := by decide +kernel
theorem dX7_as_15 : decode cX7_as 15 = .ok (.ldc 67, 2) := by decide +kernel
theorem dX7_as_17 : decode cX7_as 17 = .ok (.invokevirtual 68, 3) := by decide +kernel
theorem dX7_as_20 : decode cX7_as 20 = .ok (.ireturn, 1) := by decide +kernel
theorem dX7_as_21 : decode cX7_as 21 = .ok (.aload_n 0, 1) := by decide +kernel
theorem dX7_as_22 : decode cX7_as 22 = .ok (.getfield 12, 3) := by decide +kernel
theorem dX7_as_25 : decode cX7_as 25 = .ok (.getfield 255, 3) := by decide +kernel
theorem dX7_as_28 : decode cX7_as 28 = .ok (.iload_n 1, 1) := by decide +kernel
theorem dX7_as_29 : decode cX7_as 29 = .ok (.iaload, 1) := by decide +kernel
theorem dX7_as_30 : decode cX7_as 30 = .ok (.istore_n 3, 1) := by decide +kernel
theorem dX7_as_31 : decode cX7_as 31 = .ok (.iload_n 3, 1) := by decide +kernel
theorem dX7_as_32 : decode cX7_as 32 = .ok (.invokestatic 78, 3) := by decide +kernel
theorem dX7_as_35 : decode cX7_as 35 = .ok (.ifCond .ne 11, 3) := by decide +kernel
theorem dX7_as_38 : decode cX7_as 38 = .ok (.aload_n 0, 1) := by decide +kernel
theorem dX7_as_39 : decode cX7_as 39 = .ok (.ldc_w 258, 3) := by decide +kernel
theorem dX7_as_42 : decode cX7_as 42 = .ok (.invokevirtual 68, 3) := by decide +kernel
theorem dX7_as_45 : decode cX7_as 45 = .ok (.ireturn, 1) := by decide +kernel
theorem dX7_as_46 : decode cX7_as 46 = .ok (.aload_n 0, 1) := by decide +kernel
theorem dX7_as_47 : decode cX7_as 47 = .ok (.getfield 12, 3) := by decide +kernel
theorem dX7_as_50 : decode cX7_as 50 = .ok (.getfield 72, 3) := by decide +kernel
theorem dX7_as_53 : decode cX7_as 53 = .ok (.iload_n 3, 1) := by decide +kernel
theorem dX7_as_54 : decode cX7_as 54 = .ok (.iload_n 2, 1) := by decide +kernel
theorem dX7_as_55 : decode cX7_as 55 = .ok (.invokevirtual 259, 3) := by decide +kernel
theorem dX7_as_58 : decode cX7_as 58 = .ok (.ifCond .ne 11, 3) := by decide +kernel
theorem dX7_as_61 : decode cX7_as 61 = .ok (.aload_n 0, 1) := by decide +kernel
theorem dX7_as_62 : decode cX7_as 62 = .ok (.ldc_w 262, 3) := by decide +kernel
theorem dX7_as_65 : decode cX7_as 65 = .ok (.invokevirtual 68, 3) := by decide +kernel
theorem dX7_as_68 : decode cX7_as 68 = .ok (.ireturn, 1) := by decide +kernel
theorem dX7_as_69 : decode cX7_as 69 = .ok (.iload_n 3, 1) := by decide +kernel
theorem dX7_as_70 : decode cX7_as 70 = .ok (.ireturn, 1) := by decide +kernel
theorem dX7_sheet_0 : decode cX7_sheet 0 = .ok (.iload_n 2, 1) := by decide +kernel
theorem dX7_sheet_1 : decode cX7_sheet 1 = .ok (.ifCond .eq 21, 3) := by decide +kernel
theorem dX7_sheet_4 : decode cX7_sheet 4 = .ok (.iload_n 2, 1) := by decide +kernel
theorem dX7_sheet_5 : decode cX7_sheet 5 = .ok (.bipush 8, 2) := by decide +kernel
theorem dX7_sheet_7 : decode cX7_sheet 7 = .ok (.if_icmp .eq 15, 3) := by decide +kernel
theorem dX7_sheet_10 : decode cX7_sheet 10 = .ok (.iload_n 2, 1) := by decide +kernel
theorem dX7_sheet_11 : decode cX7_sheet 11 = .ok (.bipush 16, 2) := by decide +kernel
theorem dX7_sheet_13 : decode cX7_sheet 13 = .ok (.if_icmp .eq 9, 3) := by decide +kernel
theorem dX7_sheet_16 : decode cX7_sheet 16 = .ok (.iload_n 2, 1) := by decide +kernel
theorem dX7_sheet_17 : decode cX7_sheet 17 = .ok (.bipush 32, 2) := by decide +kernel
theorem dX7_sheet_19 : decode cX7_sheet 19 = .ok (.if_icmp .ne 7, 3) := by decide +kernel
theorem dX7_sheet_22 : decode cX7_sheet 22 = .ok (.iconst 1, 1) := by decide +kernel
theorem dX7_sheet_23 : decode cX7_sheet 23 = .ok (.goto 4, 3) := by decide +kernel
theorem dX7_sheet_26 : decode cX7_sheet 26 = .ok (.iconst 0, 1) := by decide +kernel
theorem dX7_sheet_27 : decode cX7_sheet 27 = .ok (.istore 4, 2) := by decide +kernel
theorem dX7_sheet_29 : decode cX7_sheet 29 = .ok (.iload_n 1, 1) := by decide +kernel
theorem dX7_sheet_30 : decode cX7_sheet 30 = .ok (.invokestatic 263, 3) := by decide +kernel
theorem dX7_sheet_33 : decode cX7_sheet 33 = .ok (.ifCond .eq 8, 3) := by decide +kernel
theorem dX7_sheet_36 : decode cX7_sheet 36 = .ok (.iload 4, 2) := by decide +kernel
theorem dX7_sheet_38 : decode cX7_sheet 38 = .ok (.ifCond .ne 10, 3) := by decide +kernel
theorem dX7_sheet_41 : decode cX7_sheet 41 = .ok (.aload_n 0, 1) := by decide +kernel
theorem dX7_sheet_42 : decode cX7_sheet 42 = .ok (.ldc 67, 2) := by decide +kernel
theorem dX7_sheet_44 : decode cX7_sheet 44 = .ok (.invokevirtual 68, 3) := by decide +kernel
theorem dX7_sheet_47 : decode cX7_sheet 47 = .ok (.ireturn, 1) := by decide +kernel
theorem dX7_sheet_48 : decode cX7_sheet 48 = .ok (.iload_n 3, 1) := by decide +kernel
theorem dX7_sheet_49 : decode cX7_sheet 49 = .ok (.ifCond .ge 11, 3) := by decide +kernel
theorem dX7_sheet_52 : decode cX7_sheet 52 = .ok (.aload_n 0, 1) := by decide +kernel
theorem dX7_sheet_53 : decode cX7_sheet 53 = .ok (.ldc_w 266, 3) := by decide +kernel
theorem dX7_sheet_56 : decode cX7_sheet 56 = .ok (.invokevirtual 68, 3) := by decide +kernel
theorem dX7_sheet_59 : decode cX7_sheet 59 = .ok (.ireturn, 1) := by decide +kernel
theorem dX7_sheet_60 : decode cX7_sheet 60 = .ok (.iload_n 3, 1) := by decide +kernel
theorem dX7_sheet_61 : decode cX7_sheet 61 = .ok (.bipush 40, 2) := by decide +kernel
theorem dX7_sheet_63 : decode cX7_sheet 63 = .ok (.if_icmp .le 10, 3) := by decide +kernel
theorem dX7_sheet_66 : decode cX7_sheet 66 = .ok (.aload_n 0, 1) := by decide +kernel
theorem dX7_sheet_67 : decode cX7_sheet 67 = .ok (.ldc 67, 2) := by decide +kernel
theorem dX7_sheet_69 : decode cX7_sheet 69 = .ok (.invokevirtual 68, 3) := by decide +kernel
theorem dX7_sheet_72 : decode cX7_sheet 72 = .ok (.ireturn, 1) := by decide +kernel
theorem dX7_sheet_73 : decode cX7_sheet 73 = .ok (.aload_n 0, 1) := by decide +kernel
theorem dX7_sheet_74 : decode cX7_sheet 74 = .ok (.getfield 37, 3) := by decide +kernel
theorem dX7_sheet_77 : decode cX7_sheet 77 = .ok (.iload_n 1, 1) := by decide +kernel
theorem dX7_sheet_78 : decode cX7_sheet 78 = .ok (.aaload, 1) := by decide +kernel
theorem dX7_sheet_79 : decode cX7_sheet 79 = .ok (.iload_n 2, 1) := by decide +kernel
theorem dX7_sheet_80 : decode cX7_sheet 80 = .ok (.iload_n 3, 1) := by decide +kernel
theorem dX7_sheet_81 : decode cX7_sheet 81 = .ok (.invokevirtual 267, 3) := by decide +kernel
theorem dX7_sheet_84 : decode cX7_sheet 84 = .ok (.iload_n 2, 1) := by decide +kernel
theorem dX7_sheet_85 : decode cX7_sheet 85 = .ok (.ifCond .ne 7, 3) := by decide +kernel
theorem dX7_sheet_88 : decode cX7_sheet 88 = .ok (.iconst 0, 1) := by decide +kernel
theorem dX7_sheet_89 : decode cX7_sheet 89 = .ok (.goto 4, 3) := by decide +kernel
theorem dX7_sheet_92 : decode cX7_sheet 92 = .ok (.iload_n 3, 1) := by decide +kernel
theorem dX7_sheet_93 : decode cX7_sheet 93 = .ok (.ireturn, 1) := by decide +kernel
theorem dX7_write_0 : decode cX7_write 0 = .ok (.iload_n 1, 1) := by decide +kernel
theorem dX7_write_1 : decode cX7_write 1 = .ok (.invokestatic 263, 3) := by decide +kernel
theorem dX7_write_4 : decode cX7_write 4 = .ok (.ifCond .ne 10, 3) := by decide +kernel
theorem dX7_write_7 : decode cX7_write 7 = .ok (.aload_n 0, 1) := by decide +kernel
theorem dX7_write_8 : decode cX7_write 8 = .ok (.ldc 67, 2) := by decide +kernel
theorem dX7_write_10 : decode cX7_write 10 = .ok (.invokevirtual 68, 3) := by decide +kernel
theorem dX7_write_13 : decode cX7_write 13 = .ok (.ireturn, 1) := by decide +kernel
theorem dX7_write_14 : decode cX7_write 14 = .ok (.aload_n 0, 1) := by decide +kernel
theorem dX7_write_15 : decode cX7_write 15 = .ok (.getfield 37, 3) := by decide +kernel
theorem dX7_write_18 : decode cX7_write 18 = .ok (.iload_n 1, 1) := by decide +kernel
theorem dX7_write_19 : decode cX7_write 19 = .ok (.aaload, 1) := by decide +kernel
theorem dX7_write_20 : decode cX7_write 20 = .ok (.invokevirtual 268, 3) := by decide +kernel
theorem dX7_write_23 : decode cX7_write 23 = .ok (.ifCond .eq 11, 3) := by decide +kernel
theorem dX7_write_26 : decode cX7_write 26 = .ok (.aload_n 0, 1) := by decide +kernel
theorem dX7_write_27 : decode cX7_write 27 = .ok (.ldc_w 258, 3) := by decide +kernel
theorem dX7_write_30 : decode cX7_write 30 = .ok (.invokevirtual 68, 3) := by decide +kernel
theorem dX7_write_33 : decode cX7_write 33 = .ok (.ireturn, 1) := by decide +kernel
theorem dX7_write_34 : decode cX7_write 34 = .ok (.iload_n 2, 1) := by decide +kernel
theorem dX7_write_35 : decode cX7_write 35 = .ok (.iconst 0, 1) := by decide +kernel
theorem dX7_write_36 : decode cX7_write 36 = .ok (.aload_n 0, 1) := by decide +kernel
theorem dX7_write_37 : decode cX7_write 37 = .ok (.getfield 37, 3) := by decide +kernel
theorem dX7_write_40 : decode cX7_write 40 = .ok (.iload_n 1, 1) := by decide +kernel
theorem dX7_write_41 : decode cX7_write 41 = .ok (.aaload, 1) := by decide +kernel
theorem dX7_write_42 : decode cX7_write 42 = .ok (.getfield 272, 3) := by decide +kernel
theorem dX7_write_45 : decode cX7_write 45 = .ok (.iconst 1, 1) := by decide +kernel
theorem dX7_write_46 : decode cX7_write 46 = .ok (.isub, 1) := by decide +kernel
theorem dX7_write_47 : decode cX7_write 47 = .ok (.invokestatic 63, 3) := by decide +kernel
theorem dX7_write_50 : decode cX7_write 50 = .ok (.ifCond .ne 10, 3) := by decide +kernel
theorem dX7_write_53 : decode cX7_write 53 = .ok (.aload_n 0, 1) := by decide +kernel
theorem dX7_write_54 : decode cX7_write 54 = .ok (.ldc 67, 2) := by decide +kernel
theorem dX7_write_56 : decode cX7_write 56 = .ok (.invokevirtual 68, 3) := by decide +kernel
theorem dX7_write_59 : decode cX7_write 59 = .ok (.ireturn, 1) := by decide +kernel
theorem dX7_write_60 : decode cX7_write 60 = .ok (.aload_n 0, 1) := by decide +kernel
theorem dX7_write_61 : decode cX7_write 61 = .ok (.getfield 37, 3) := by decide +kernel
theorem dX7_write_64 : decode cX7_write 64 = .ok (.iload_n 1, 1) := by decide +kernel
theorem dX7_write_65 : decode cX7_write 65 = .ok (.aaload, 1) := by decide +kernel
theorem dX7_write_66 : decode cX7_write 66 = .ok (.iload_n 2, 1) := by decide +kernel
theorem dX7_write_67 : decode cX7_write 67 = .ok (.iload_n 3, 1) := by decide +kernel
theorem dX7_write_68 : decode cX7_write 68 = .ok (.invokevirtual 273, 3) := by decide +kernel
theorem dX7_write_71 : decode cX7_write 71 = .ok (.iconst 1, 1) := by decide +kernel
theorem dX7_write_72 : decode cX7_write 72 = .ok (.ireturn, 1) := by decide +kernel
theorem dX7_copy_0 : decode cX7_copy 0 = .ok (.iload_n 1, 1) := by decide +kernel
theorem dX7_copy_1 : decode cX7_copy 1 = .ok (.invokestatic 263, 3) := by decide +kernel
theorem dX7_copy_4 : decode cX7_copy 4 = .ok (.ifCond .eq 10, 3) := by decide +kernel
theorem dX7_copy_7 : decode cX7_copy 7 = .ok (.iload_n 3, 1) := by decide +kernel
theorem dX7_copy_8 : decode cX7_copy 8 = .ok (.invokestatic 263, 3) := by decide +kernel
theorem dX7_copy_11 : decode cX7_copy 11 = .ok (.ifCond .ne 10, 3) := by decide +kernel
theorem dX7_copy_14 : decode cX7_copy 14 = .ok (.aload_n 0, 1) := by decide +kernel
theorem dX7_copy_15 : decode cX7_copy 15 = .ok (.ldc 67, 2) := by decide +kernel
theorem dX7_copy_17 : decode cX7_copy 17 = .ok (.invokevirtual 68, 3) := by decide +kernel
theorem dX7_copy_20 : decode cX7_copy 20 = .ok (.ireturn, 1) := by decide +kernel
theorem dX7_copy_21 : decode cX7_copy 21 = .ok (.aload_n 0, 1) := by decide +kernel
theorem dX7_copy_22 : decode cX7_copy 22 = .ok (.getfield 37, 3) := by decide +kernel
theorem dX7_copy_25 : decode cX7_copy 25 = .ok (.iload_n 1, 1) := by decide +kernel
theorem dX7_copy_26 : decode cX7_copy 26 = .ok (.aaload, 1) := by decide +kernel
theorem dX7_copy_27 : decode cX7_copy 27 = .ok (.astore 6, 2) := by decide +kernel
theorem dX7_copy_29 : decode cX7_copy 29 = .ok (.aload_n 0, 1) := by decide +kernel
theorem dX7_copy_30 : decode cX7_copy 30 = .ok (.getfield 37, 3) := by decide +kernel
theorem dX7_copy_33 : decode cX7_copy 33 = .ok (.iload_n 3, 1) := by decide +kernel
theorem dX7_copy_34 : decode cX7_copy 34 = .ok (.aaload, 1) := by decide +kernel
theorem dX7_copy_35 : decode cX7_copy 35 = .ok (.astore 7, 2) := by decide +kernel
theorem dX7_copy_37 : decode cX7_copy 37 = .ok (.aload 6, 2) := by decide +kernel
theorem dX7_copy_39 : decode cX7_copy 39 = .ok (.invokevirtual 268, 3) := by decide +kernel
theorem dX7_copy_42 : decode cX7_copy 42 = .ok (.ifCond .ne 11, 3) := by decide +kernel
theorem dX7_copy_45 : decode cX7_copy 45 = .ok (.aload 7, 2) := by decide +kernel
theorem dX7_copy_47 : decode cX7_copy 47 = .ok (.invokevirtual 268, 3) := by decide +kernel
theorem dX7_copy_50 : decode cX7_copy 50 = .ok (.ifCond .eq 11, 3) := by decide +kernel
theorem dX7_copy_53 : decode cX7_copy 53 = .ok (.aload_n 0, 1) := by decide +kernel
theorem dX7_copy_54 : decode cX7_copy 54 = .ok (.ldc_w 258, 3) := by decide +kernel
theorem dX7_copy_57 : decode cX7_copy 57 = .ok (.invokevirtual 68, 3) := by decide +kernel
theorem dX7_copy_60 : decode cX7_copy 60 = .ok (.ireturn, 1) := by decide +kernel
theorem dX7_copy_61 : decode cX7_copy 61 = .ok (.aload 6, 2) := by decide +kernel
theorem dX7_copy_63 : decode cX7_copy 63 = .ok (.getfield 276, 3) := by decide +kernel
theorem dX7_copy_66 : decode cX7_copy 66 = .ok (.aload 7, 2) := by decide +kernel
theorem dX7_copy_68 : decode cX7_copy 68 = .ok (.getfield 276, 3) := by decide +kernel
theorem dX7_copy_71 : decode cX7_copy 71 = .ok (.if_icmp .eq 11, 3) := by decide +kernel
theorem dX7_copy_74 : decode cX7_copy 74 = .ok (.aload_n 0, 1) := by decide +kernel
theorem dX7_copy_75 : decode cX7_copy 75 = .ok (.ldc_w 262, 3) := by decide +kernel
theorem dX7_copy_78 : decode cX7_copy 78 = .ok (.invokevirtual 68, 3) := by decide +kernel
theorem dX7_copy_81 : decode cX7_copy 81 = .ok (.ireturn, 1) := by decide +kernel
theorem dX7_copy_82 : decode cX7_copy 82 = .ok (.aload 6, 2) := by decide +kernel
theorem dX7_copy_84 : decode cX7_copy 84 = .ok (.iload_n 2, 1) := by decide +kernel
theorem dX7_copy_85 : decode cX7_copy 85 = .ok (.iload 5, 2) := by decide +kernel
theorem dX7_copy_87 : decode cX7_copy 87 = .ok (.invokevirtual 279, 3) := by decide +kernel
theorem dX7_copy_90 : decode cX7_copy 90 = .ok (.ifCond .eq 15, 3) := by decide +kernel
theorem dX7_copy_93 : decode cX7_copy 93 = .ok (.aload 7, 2) := by decide +kernel
theorem dX7_copy_95 : decode cX7_copy 95 = .ok (.iload 4, 2) := by decide +kernel
theorem dX7_copy_97 : decode cX7_copy 97 = .ok (.iload 5, 2) := by decide +kernel
theorem dX7_copy_99 : decode cX7_copy 99 = .ok (.invokevirtual 279, 3) := by decide +kernel
theorem dX7_copy_102 : decode cX7_copy 102 = .ok (.ifCond .ne 10, 3) := by decide +kernel
theorem dX7_copy_105 : decode cX7_copy 105 = .ok (.aload_n 0, 1) := by decide +kernel
theorem dX7_copy_106 : decode cX7_copy 106 = .ok (.ldc 67, 2) := by decide +kernel
theorem dX7_copy_108 : decode cX7_copy 108 = .ok (.invokevirtual 68, 3) := by decide +kernel
theorem dX7_copy_111 : decode cX7_copy 111 = .ok (.ireturn, 1) := by decide +kernel
theorem dX7_copy_112 : decode cX7_copy 112 = .ok (.aload 6, 2) := by decide +kernel
theorem dX7_copy_114 : decode cX7_copy 114 = .ok (.getfield 282, 3) := by decide +kernel
theorem dX7_copy_117 : decode cX7_copy 117 = .ok (.iload_n 2, 1) := by decide +kernel
theorem dX7_copy_118 : decode cX7_copy 118 = .ok (.aload 7, 2) := by decide +kernel
theorem dX7_copy_120 : decode cX7_copy 120 = .ok (.getfield 282, 3) := by decide +kernel
theorem dX7_copy_123 : decode cX7_copy 123 = .ok (.iload 4, 2) := by decide +kernel
theorem dX7_copy_125 : decode cX7_copy 125 = .ok (.iload 5, 2) := by decide +kernel
theorem dX7_copy_127 : decode cX7_copy 127 = .ok (.invokestatic 285, 3) := by decide +kernel
theorem dX7_copy_130 : decode cX7_copy 130 = .ok (.iload 5, 2) := by decide +kernel
theorem dX7_copy_132 : decode cX7_copy 132 = .ok (.ireturn, 1) := by decide +kernel
theorem dX7_load_0 : decode cX7_load 0 = .ok (.iload_n 1, 1) := by decide +kernel
theorem dX7_load_1 : decode cX7_load 1 = .ok (.invokestatic 263, 3) := by decide +kernel
theorem dX7_load_4 : decode cX7_load 4 = .ok (.ifCond .ne 10, 3) := by decide +kernel
theorem dX7_load_7 : decode cX7_load 7 = .ok (.aload_n 0, 1) := by decide +kernel
theorem dX7_load_8 : decode cX7_load 8 = .ok (.ldc 67, 2) := by decide +kernel
theorem dX7_load_10 : decode cX7_load 10 = .ok (.invokevirtual 68, 3) := by decide +kernel
theorem dX7_load_13 : decode cX7_load 13 = .ok (.ireturn, 1) := by decide +kernel
theorem dX7_load_14 : decode cX7_load 14 = .ok (.aload_n 0, 1) := by decide +kernel
theorem dX7_load_15 : decode cX7_load 15 = .ok (.getfield 37, 3) := by decide +kernel
theorem dX7_load_18 : decode cX7_load 18 = .ok (.iload_n 1, 1) := by decide +kernel
theorem dX7_load_19 : decode cX7_load 19 = .ok (.aaload, 1) := by decide +kernel
theorem dX7_load_20 : decode cX7_load 20 = .ok (.astore_n 2, 1) := by decide +kernel
theorem dX7_load_21 : decode cX7_load 21 = .ok (.aload_n 2, 1) := by decide +kernel
theorem dX7_load_22 : decode cX7_load 22 = .ok (.invokevirtual 268, 3) := by decide +kernel
theorem dX7_load_25 : decode cX7_load 25 = .ok (.ifCond .eq 11, 3) := by decide +kernel
theorem dX7_load_28 : decode cX7_load 28 = .ok (.aload_n 0, 1) := by decide +kernel
theorem dX7_load_29 : decode cX7_load 29 = .ok (.ldc_w 258, 3) := by decide +kernel
theorem dX7_load_32 : decode cX7_load 32 = .ok (.invokevirtual 68, 3) := by decide +kernel
theorem dX7_load_35 : decode cX7_load 35 = .ok (.ireturn, 1) := by decide +kernel
theorem dX7_load_36 : decode cX7_load 36 = .ok (.iconst 0, 1) := by decide +kernel
theorem dX7_load_37 : decode cX7_load 37 = .ok (.istore_n 3, 1) := by decide +kernel
theorem dX7_load_38 : decode cX7_load 38 = .ok (.iload_n 3, 1) := by decide +kernel
theorem dX7_load_39 : decode cX7_load 39 = .ok (.aload_n 2, 1) := by decide +kernel
theorem dX7_load_40 : decode cX7_load 40 = .ok (.getfield 272, 3) := by decide +kernel
theorem dX7_load_43 : decode cX7_load 43 = .ok (.if_icmp .ge 57, 3) := by decide +kernel
theorem dX7_load_46 : decode cX7_load 46 = .ok (.iload_n 3, 1) := by decide +kernel
theorem dX7_load_47 : decode cX7_load 47 = .ok (.bipush 12, 2) := by decide +kernel
theorem dX7_load_49 : decode cX7_load 49 = .ok (.if_icmp .ge 51, 3) := by decide +kernel
theorem dX7_load_52 : decode cX7_load 52 = .ok (.aload_n 2, 1) := by decide +kernel
theorem dX7_load_53 : decode cX7_load 53 = .ok (.getfield 282, 3) := by decide +kernel
theorem dX7_load_56 : decode cX7_load 56 = .ok (.iload_n 3, 1) := by decide +kernel
theorem dX7_load_57 : decode cX7_load 57 = .ok (.iaload, 1) := by decide +kernel
theorem dX7_load_58 : decode cX7_load 58 = .ok (.iconst 0, 1) := by decide +kernel
theorem dX7_load_59 : decode cX7_load 59 = .ok (.aload_n 0, 1) := by decide +kernel
theorem dX7_load_60 : decode cX7_load 60 = .ok (.getfield 12, 3) := by decide +kernel
theorem dX7_load_63 : decode cX7_load 63 = .ok (.getfield 72, 3) := by decide +kernel
theorem dX7_load_66 : decode cX7_load 66 = .ok (.iload_n 3, 1) := by decide +kernel
theorem dX7_load_67 : decode cX7_load 67 = .ok (.invokevirtual 94, 3) := by decide +kernel
theorem dX7_load_70 : decode cX7_load 70 = .ok (.invokestatic 63, 3) := by decide +kernel
theorem dX7_load_73 : decode cX7_load 73 = .ok (.ifCond .eq 27, 3) := by decide +kernel
theorem dX7_load_76 : decode cX7_load 76 = .ok (.aload_n 0, 1) := by decide +kernel
theorem dX7_load_77 : decode cX7_load 77 = .ok (.getfield 12, 3) := by decide +kernel
theorem dX7_load_80 : decode cX7_load 80 = .ok (.getfield 72, 3) := by decide +kernel
theorem dX7_load_83 : decode cX7_load 83 = .ok (.getfield 88, 3) := by decide +kernel
theorem dX7_load_86 : decode cX7_load 86 = .ok (.iload_n 3, 1) := by decide +kernel
theorem dX7_load_87 : decode cX7_load 87 = .ok (.aload_n 2, 1) := by decide +kernel
theorem dX7_load_88 : decode cX7_load 88 = .ok (.getfield 282, 3) := by decide +kernel
theorem dX7_load_91 : decode cX7_load 91 = .ok (.iload_n 3, 1) := by decide +kernel
theorem dX7_load_92 : decode cX7_load 92 = .ok (.iaload, 1) := by decide +kernel
theorem dX7_load_93 : decode cX7_load 93 = .ok (.iastore, 1) := by decide +kernel
theorem dX7_load_94 : decode cX7_load 94 = .ok (.iinc 3 1, 3) := by decide +kernel
theorem dX7_load_97 : decode cX7_load 97 = .ok (.goto (-59), 3) := by decide +kernel
theorem dX7_load_100 : decode cX7_load 100 = .ok (.iload_n 3, 1) := by decide +kernel
theorem dX7_load_101 : decode cX7_load 101 = .ok (.ireturn, 1) := by decide +kernel
theorem dX7_judge_0 : decode cX7_judge 0 = .ok (.iload_n 1, 1) := by decide +kernel
theorem dX7_judge_1 : decode cX7_judge 1 = .ok (.invokestatic 263, 3) := by decide +kernel
theorem dX7_judge_4 : decode cX7_judge 4 = .ok (.ifCond .ne 10, 3) := by decide +kernel
theorem dX7_judge_7 : decode cX7_judge 7 = .ok (.aload_n 0, 1) := by decide +kernel
theorem dX7_judge_8 : decode cX7_judge 8 = .ok (.ldc 67, 2) := by decide +kernel
theorem dX7_judge_10 : decode cX7_judge 10 = .ok (.invokevirtual 68, 3) := by decide +kernel
theorem dX7_judge_13 : decode cX7_judge 13 = .ok (.ireturn, 1) := by decide +kernel
theorem dX7_judge_14 : decode cX7_judge 14 = .ok (.aload_n 0, 1) := by decide +kernel
theorem dX7_judge_15 : decode cX7_judge 15 = .ok (.getfield 37, 3) := by decide +kernel
theorem dX7_judge_18 : decode cX7_judge 18 = .ok (.iload_n 1, 1) := by decide +kernel
theorem dX7_judge_19 : decode cX7_judge 19 = .ok (.aaload, 1) := by decide +kernel
theorem dX7_judge_20 : decode cX7_judge 20 = .ok (.astore_n 2, 1) := by decide +kernel
theorem dX7_judge_21 : decode cX7_judge 21 = .ok (.aload_n 2, 1) := by decide +kernel
theorem dX7_judge_22 : decode cX7_judge 22 = .ok (.invokevirtual 268, 3) := by decide +kernel
theorem dX7_judge_25 : decode cX7_judge 25 = .ok (.ifCond .eq 11, 3) := by decide +kernel
theorem dX7_judge_28 : decode cX7_judge 28 = .ok (.aload_n 0, 1) := by decide +kernel
theorem dX7_judge_29 : decode cX7_judge 29 = .ok (.ldc_w 258, 3) := by decide +kernel
theorem dX7_judge_32 : decode cX7_judge 32 = .ok (.invokevirtual 68, 3) := by decide +kernel
theorem dX7_judge_35 : decode cX7_judge 35 = .ok (.ireturn, 1) := by decide +kernel
theorem dX7_judge_36 : decode cX7_judge 36 = .ok (.aload_n 0, 1) := by decide +kernel
theorem dX7_judge_37 : decode cX7_judge 37 = .ok (.getfield 44, 3) := by decide +kernel
theorem dX7_judge_40 : decode cX7_judge 40 = .ok (.aload_n 0, 1) := by decide +kernel
theorem dX7_judge_41 : decode cX7_judge 41 = .ok (.getfield 12, 3) := by decide +kernel
theorem dX7_judge_44 : decode cX7_judge 44 = .ok (.getfield 72, 3) := by decide +kernel
theorem dX7_judge_47 : decode cX7_judge 47 = .ok (.invokevirtual 192, 3) := by decide +kernel
theorem dX7_judge_50 : decode cX7_judge 50 = .ok (.iconst 0, 1) := by decide +kernel
theorem dX7_judge_51 : decode cX7_judge 51 = .ok (.istore_n 3, 1) := by decide +kernel
theorem dX7_judge_52 : decode cX7_judge 52 = .ok (.iload_n 3, 1) := by decide +kernel
theorem dX7_judge_53 : decode cX7_judge 53 = .ok (.aload_n 2, 1) := by decide +kernel
theorem dX7_judge_54 : decode cX7_judge 54 = .ok (.getfield 272, 3) := by decide +kernel
theorem dX7_judge_57 : decode cX7_judge 57 = .ok (.if_icmp .ge 36, 3) := by decide +kernel
theorem dX7_judge_60 : decode cX7_judge 60 = .ok (.aload_n 0, 1) := by decide +kernel
theorem dX7_judge_61 : decode cX7_judge 61 = .ok (.getfield 44, 3) := by decide +kernel
theorem dX7_judge_64 : decode cX7_judge 64 = .ok (.invokevirtual 205, 3) := by decide +kernel
theorem dX7_judge_67 : decode cX7_judge 67 = .ok (.aload_n 0, 1) := by decide +kernel
theorem dX7_judge_68 : decode cX7_judge 68 = .ok (.getfield 44, 3) := by decide +kernel
theorem dX7_judge_71 : decode cX7_judge 71 = .ok (.getfield 108, 3) := by decide +kernel
theorem dX7_judge_74 : decode cX7_judge 74 = .ok (.aload_n 2, 1) := by decide +kernel
theorem dX7_judge_75 : decode cX7_judge 75 = .ok (.getfield 282, 3) := by decide +kernel
theorem dX7_judge_78 : decode cX7_judge 78 = .ok (.iload_n 3, 1) := by decide +kernel
theorem dX7_judge_79 : decode cX7_judge 79 = .ok (.iaload, 1) := by decide +kernel
theorem dX7_judge_80 : decode cX7_judge 80 = .ok (.if_icmp .eq 7, 3) := by decide +kernel
theorem dX7_judge_83 : decode cX7_judge 83 = .ok (.iconst 1, 1) := by decide +kernel
theorem dX7_judge_84 : decode cX7_judge 84 = .ok (.iload_n 3, 1) := by decide +kernel
theorem dX7_judge_85 : decode cX7_judge 85 = .ok (.iadd, 1) := by decide +kernel
theorem dX7_judge_86 : decode cX7_judge 86 = .ok (.ireturn, 1) := by decide +kernel
theorem dX7_judge_87 : decode cX7_judge 87 = .ok (.iinc 3 1, 3) := by decide +kernel
theorem dX7_judge_90 : decode cX7_judge 90 = .ok (.goto (-38), 3) := by decide +kernel
theorem dX7_judge_93 : decode cX7_judge 93 = .ok (.iconst 0, 1) := by decide +kernel
theorem dX7_judge_94 : decode cX7_judge 94 = .ok (.ireturn, 1) := by decide +kernel
theorem dX7_image_0 : decode cX7_image 0 = .ok (.aload_n 0, 1) := by decide +kernel
theorem dX7_image_1 : decode cX7_image 1 = .ok (.getfield 16, 3) := by decide +kernel
theorem dX7_image_4 : decode cX7_image 4 = .ok (.aload_n 0, 1) := by decide +kernel
theorem dX7_image_5 : decode cX7_image 5 = .ok (.getfield 12, 3) := by decide +kernel
theorem dX7_image_8 : decode cX7_image 8 = .ok (.invokevirtual 291, 3) := by decide +kernel
theorem dX7_image_11 : decode cX7_image 11 = .ok (.aload_n 0, 1) := by decide +kernel
theorem dX7_image_12 : decode cX7_image 12 = .ok (.iconst 1, 1) := by decide +kernel
theorem dX7_image_13 : decode cX7_image 13 = .ok (.putfield 294, 3) := by decide +kernel
theorem dX7_image_16 : decode cX7_image 16 = .ok (.iconst 1, 1) := by decide +kernel
theorem dX7_image_17 : decode cX7_image 17 = .ok (.ireturn, 1) := by decide +kernel
theorem dX7_undo_0 : decode cX7_undo 0 = .ok (.aload_n 0, 1) := by decide +kernel
theorem dX7_undo_1 : decode cX7_undo 1 = .ok (.getfield 294, 3) := by decide +kernel
theorem dX7_undo_4 : decode cX7_undo 4 = .ok (.ifCond .ne 10, 3) := by decide +kernel
theorem dX7_undo_7 : decode cX7_undo 7 = .ok (.aload_n 0, 1) := by decide +kernel
theorem dX7_undo_8 : decode cX7_undo 8 = .ok (.ldc 149, 2) := by decide +kernel
theorem dX7_undo_10 : decode cX7_undo 10 = .ok (.invokevirtual 68, 3) := by decide +kernel
theorem dX7_undo_13 : decode cX7_undo 13 = .ok (.ireturn, 1) := by decide +kernel
theorem dX7_undo_14 : decode cX7_undo 14 = .ok (.aload_n 0, 1) := by decide +kernel
theorem dX7_undo_15 : decode cX7_undo 15 = .ok (.getfield 12, 3) := by decide +kernel
theorem dX7_undo_18 : decode cX7_undo 18 = .ok (.aload_n 0, 1) := by decide +kernel
theorem dX7_undo_19 : decode cX7_undo 19 = .ok (.getfield 16, 3) := by decide +kernel
theorem dX7_undo_22 : decode cX7_undo 22 = .ok (.invokevirtual 291, 3) := by decide +kernel
theorem dX7_undo_25 : decode cX7_undo 25 = .ok (.aload_n 0, 1) := by decide +kernel
theorem dX7_undo_26 : decode cX7_undo 26 = .ok (.getfield 12, 3) := by decide +kernel
theorem dX7_undo_29 : decode cX7_undo 29 = .ok (.getfield 72, 3) := by decide +kernel
theorem dX7_undo_32 : decode cX7_undo 32 = .ok (.getfield 131, 3) := by decide +kernel
theorem dX7_undo_35 : decode cX7_undo 35 = .ok (.ireturn, 1) := by decide +kernel
theorem dX7_tear_0 : decode cX7_tear 0 = .ok (.aload_n 0, 1) := by decide +kernel
theorem dX7_tear_1 : decode cX7_tear 1 = .ok (.getfield 294, 3) := by decide +kernel
theorem dX7_tear_4 : decode cX7_tear 4 = .ok (.ifCond .eq 7, 3) := by decide +kernel
theorem dX7_tear_7 : decode cX7_tear 7 = .ok (.iconst 1, 1) := by decide +kernel
theorem dX7_tear_8 : decode cX7_tear 8 = .ok (.goto 4, 3) := by decide +kernel
theorem dX7_tear_11 : decode cX7_tear 11 = .ok (.iconst 0, 1) := by decide +kernel
theorem dX7_tear_12 : decode cX7_tear 12 = .ok (.istore_n 1, 1) := by decide +kernel
theorem dX7_tear_13 : decode cX7_tear 13 = .ok (.aload_n 0, 1) := by decide +kernel
theorem dX7_tear_14 : decode cX7_tear 14 = .ok (.iconst 0, 1) := by decide +kernel
theorem dX7_tear_15 : decode cX7_tear 15 = .ok (.putfield 294, 3) := by decide +kernel
theorem dX7_tear_18 : decode cX7_tear 18 = .ok (.iload_n 1, 1) := by decide +kernel
theorem dX7_tear_19 : decode cX7_tear 19 = .ok (.ireturn, 1) := by decide +kernel
theorem dX7_count_0 : decode cX7_count 0 = .ok (.iload_n 1, 1) := by decide +kernel
theorem dX7_count_1 : decode cX7_count 1 = .ok (.tableswitch 149 0 8 #[51, 64, 77, 90, 103, 114, 125, 133, 141], 51) := by decide +kernel
theorem dX7_count_52 : decode cX7_count 52 = .ok (.aload_n 0, 1) := by decide +kernel
theorem dX7_count_53 : decode cX7_count 53 = .ok (.getfield 12, 3) := by decide +kernel
theorem dX7_count_56 : decode cX7_count 56 = .ok (.getfield 72, 3) := by decide +kernel
theorem dX7_count_59 : decode cX7_count 59 = .ok (.getfield 75, 3) := by decide +kernel
theorem dX7_count_62 : decode cX7_count 62 = .ok (.iconst 0, 1) := by decide +kernel
theorem dX7_count_63 : decode cX7_count 63 = .ok (.iaload, 1) := by decide +kernel
theorem dX7_count_64 : decode cX7_count 64 = .ok (.ireturn, 1) := by decide +kernel
theorem dX7_count_65 : decode cX7_count 65 = .ok (.aload_n 0, 1) := by decide +kernel
theorem dX7_count_66 : decode cX7_count 66 = .ok (.getfield 12, 3) := by decide +kernel
theorem dX7_count_69 : decode cX7_count 69 = .ok (.getfield 72, 3) := by decide +kernel
theorem dX7_count_72 : decode cX7_count 72 = .ok (.getfield 75, 3) := by decide +kernel
theorem dX7_count_75 : decode cX7_count 75 = .ok (.iconst 1, 1) := by decide +kernel
theorem dX7_count_76 : decode cX7_count 76 = .ok (.iaload, 1) := by decide +kernel
theorem dX7_count_77 : decode cX7_count 77 = .ok (.ireturn, 1) := by decide +kernel
theorem dX7_count_78 : decode cX7_count 78 = .ok (.aload_n 0, 1) := by decide +kernel
theorem dX7_count_79 : decode cX7_count 79 = .ok (.getfield 12, 3) := by decide +kernel
theorem dX7_count_82 : decode cX7_count 82 = .ok (.getfield 72, 3) := by decide +kernel
theorem dX7_count_85 : decode cX7_count 85 = .ok (.getfield 75, 3) := by decide +kernel
theorem dX7_count_88 : decode cX7_count 88 = .ok (.iconst 2, 1) := by decide +kernel
theorem dX7_count_89 : decode cX7_count 89 = .ok (.iaload, 1) := by decide +kernel
theorem dX7_count_90 : decode cX7_count 90 = .ok (.ireturn, 1) := by decide +kernel
theorem dX7_count_91 : decode cX7_count 91 = .ok (.aload_n 0, 1) := by decide +kernel
theorem dX7_count_92 : decode cX7_count 92 = .ok (.getfield 12, 3) := by decide +kernel
theorem dX7_count_95 : decode cX7_count 95 = .ok (.getfield 72, 3) := by decide +kernel
theorem dX7_count_98 : decode cX7_count 98 = .ok (.getfield 75, 3) := by decide +kernel
theorem dX7_count_101 : decode cX7_count 101 = .ok (.iconst 3, 1) := by decide +kernel
theorem dX7_count_102 : decode cX7_count 102 = .ok (.iaload, 1) := by decide +kernel
theorem dX7_count_103 : decode cX7_count 103 = .ok (.ireturn, 1) := by decide +kernel
theorem dX7_count_104 : decode cX7_count 104 = .ok (.aload_n 0, 1) := by decide +kernel
theorem dX7_count_105 : decode cX7_count 105 = .ok (.getfield 12, 3) := by decide +kernel
theorem dX7_count_108 : decode cX7_count 108 = .ok (.getfield 72, 3) := by decide +kernel
theorem dX7_count_111 : decode cX7_count 111 = .ok (.invokevirtual 140, 3) := by decide +kernel
theorem dX7_count_114 : decode cX7_count 114 = .ok (.ireturn, 1) := by decide +kernel
theorem dX7_count_115 : decode cX7_count 115 = .ok (.aload_n 0, 1) := by decide +kernel
theorem dX7_count_116 : decode cX7_count 116 = .ok (.getfield 12, 3) := by decide +kernel
theorem dX7_count_119 : decode cX7_count 119 = .ok (.getfield 72, 3) := by decide +kernel
theorem dX7_count_122 : decode cX7_count 122 = .ok (.getfield 196, 3) := by decide +kernel
theorem dX7_count_125 : decode cX7_count 125 = .ok (.ireturn, 1) := by decide +kernel
theorem dX7_count_126 : decode cX7_count 126 = .ok (.aload_n 0, 1) := by decide +kernel
theorem dX7_count_127 : decode cX7_count 127 = .ok (.getfield 12, 3) := by decide +kernel
theorem dX7_count_130 : decode cX7_count 130 = .ok (.getfield 165, 3) := by decide +kernel
theorem dX7_count_133 : decode cX7_count 133 = .ok (.ireturn, 1) := by decide +kernel
theorem dX7_count_134 : decode cX7_count 134 = .ok (.aload_n 0, 1) := by decide +kernel
theorem dX7_count_135 : decode cX7_count 135 = .ok (.getfield 22, 3) := by decide +kernel
theorem dX7_count_138 : decode cX7_count 138 = .ok (.getfield 159, 3) := by decide +kernel
theorem dX7_count_141 : decode cX7_count 141 = .ok (.ireturn, 1) := by decide +kernel
theorem dX7_count_142 : decode cX7_count 142 = .ok (.aload_n 0, 1) := by decide +kernel
theorem dX7_count_143 : decode cX7_count 143 = .ok (.getfield 12, 3) := by decide +kernel
theorem dX7_count_146 : decode cX7_count 146 = .ok (.getfield 250, 3) := by decide +kernel
theorem dX7_count_149 : decode cX7_count 149 = .ok (.ireturn, 1) := by decide +kernel
theorem dX7_count_150 : decode cX7_count 150 = .ok (.aload_n 0, 1) := by decide +kernel
theorem dX7_count_151 : decode cX7_count 151 = .ok (.ldc 67, 2) := by decide +kernel
theorem dX7_count_153 : decode cX7_count 153 = .ok (.invokevirtual 68, 3) := by decide +kernel
theorem dX7_count_156 : decode cX7_count 156 = .ok (.ireturn, 1) := by decide +kernel
theorem dX7_status_0 : decode cX7_status 0 = .ok (.iload_n 1, 1) := by decide +kernel
theorem dX7_status_1 : decode cX7_status 1 = .ok (.iconst (-1), 1) := by decide +kernel
theorem dX7_status_2 : decode cX7_status 2 = .ok (.if_icmp .ne 8, 3) := by decide +kernel
theorem dX7_status_5 : decode cX7_status 5 = .ok (.aload_n 0, 1) := by decide +kernel
theorem dX7_status_6 : decode cX7_status 6 = .ok (.invokevirtual 298, 3) := by decide +kernel
theorem dX7_status_9 : decode cX7_status 9 = .ok (.ireturn, 1) := by decide +kernel
theorem dX7_status_10 : decode cX7_status 10 = .ok (.iload_n 1, 1) := by decide +kernel
theorem dX7_status_11 : decode cX7_status 11 = .ok (.iconst 0, 1) := by decide +kernel
theorem dX7_status_12 : decode cX7_status 12 = .ok (.bipush 6, 2) := by decide +kernel
theorem dX7_status_14 : decode cX7_status 14 = .ok (.invokestatic 63, 3) := by decide +kernel
theorem dX7_status_17 : decode cX7_status 17 = .ok (.ifCond .ne 10, 3) := by decide +kernel
theorem dX7_status_20 : decode cX7_status 20 = .ok (.aload_n 0, 1) := by decide +kernel
theorem dX7_status_21 : decode cX7_status 21 = .ok (.ldc 67, 2) := by decide +kernel
theorem dX7_status_23 : decode cX7_status 23 = .ok (.invokevirtual 68, 3) := by decide +kernel
theorem dX7_status_26 : decode cX7_status 26 = .ok (.ireturn, 1) := by decide +kernel
theorem dX7_status_27 : decode cX7_status 27 = .ok (.aload_n 0, 1) := by decide +kernel
theorem dX7_status_28 : decode cX7_status 28 = .ok (.getfield 58, 3) := by decide +kernel
theorem dX7_status_31 : decode cX7_status 31 = .ok (.iload_n 1, 1) := by decide +kernel
theorem dX7_status_32 : decode cX7_status 32 = .ok (.iaload, 1) := by decide +kernel
theorem dX7_status_33 : decode cX7_status 33 = .ok (.ireturn, 1) := by decide +kernel
theorem dX7_finding_0 : decode cX7_finding 0 = .ok (.ldc 67, 2) := by decide +kernel
theorem dX7_finding_2 : decode cX7_finding 2 = .ok (.iload_n 1, 1) := by decide +kernel
theorem dX7_finding_3 : decode cX7_finding 3 = .ok (.isub, 1) := by decide +kernel
theorem dX7_finding_4 : decode cX7_finding 4 = .ok (.istore_n 2, 1) := by decide +kernel
theorem dX7_finding_5 : decode cX7_finding 5 = .ok (.iload_n 2, 1) := by decide +kernel
theorem dX7_finding_6 : decode cX7_finding 6 = .ok (.iconst 0, 1) := by decide +kernel
theorem dX7_finding_7 : decode cX7_finding 7 = .ok (.bipush 6, 2) := by decide +kernel
theorem dX7_finding_9 : decode cX7_finding 9 = .ok (.invokestatic 63, 3) := by decide +kernel
theorem dX7_finding_12 : decode cX7_finding 12 = .ok (.ifCond .eq 13, 3) := by decide +kernel
theorem dX7_finding_15 : decode cX7_finding 15 = .ok (.aload_n 0, 1) := by decide +kernel
theorem dX7_finding_16 : decode cX7_finding 16 = .ok (.getfield 58, 3) := by decide +kernel
theorem dX7_finding_19 : decode cX7_finding 19 = .ok (.iload_n 2, 1) := by decide +kernel
theorem dX7_finding_20 : decode cX7_finding 20 = .ok (.dup2, 1) := by decide +kernel
theorem dX7_finding_21 : decode cX7_finding 21 = .ok (.iaload, 1) := by decide +kernel
theorem dX7_finding_22 : decode cX7_finding 22 = .ok (.iconst 1, 1) := by decide +kernel
theorem dX7_finding_23 : decode cX7_finding 23 = .ok (.iadd, 1) := by decide +kernel
theorem dX7_finding_24 : decode cX7_finding 24 = .ok (.iastore, 1) := by decide +kernel
theorem dX7_finding_25 : decode cX7_finding 25 = .ok (.iload_n 1, 1) := by decide +kernel
theorem dX7_finding_26 : decode cX7_finding 26 = .ok (.ireturn, 1) := by decide +kernel
theorem dX7_findingsOfAll_0 : decode cX7_findingsOfAll 0 = .ok (.iconst 0, 1) := by decide +kernel
theorem dX7_findingsOfAll_1 : decode cX7_findingsOfAll 1 = .ok (.istore_n 1, 1) := by decide +kernel
theorem dX7_findingsOfAll_2 : decode cX7_findingsOfAll 2 = .ok (.iconst 0, 1) := by decide +kernel
theorem dX7_findingsOfAll_3 : decode cX7_findingsOfAll 3 = .ok (.istore_n 2, 1) := by decide +kernel
theorem dX7_findingsOfAll_4 : decode cX7_findingsOfAll 4 = .ok (.iload_n 2, 1) := by decide +kernel
theorem dX7_findingsOfAll_5 : decode cX7_findingsOfAll 5 = .ok (.bipush 7, 2) := by decide +kernel
theorem dX7_findingsOfAll_7 : decode cX7_findingsOfAll 7 = .ok (.if_icmp .ge 18, 3) := by decide +kernel
theorem dX7_findingsOfAll_10 : decode cX7_findingsOfAll 10 = .ok (.iload_n 1, 1) := by decide +kernel
theorem dX7_findingsOfAll_11 : decode cX7_findingsOfAll 11 = .ok (.aload_n 0, 1) := by decide +kernel
theorem dX7_findingsOfAll_12 : decode cX7_findingsOfAll 12 = .ok (.getfield 58, 3) := by decide +kernel
theorem dX7_findingsOfAll_15 : decode cX7_findingsOfAll 15 = .ok (.iload_n 2, 1) := by decide +kernel
theorem dX7_findingsOfAll_16 : decode cX7_findingsOfAll 16 = .ok (.iaload, 1) := by decide +kernel
theorem dX7_findingsOfAll_17 : decode cX7_findingsOfAll 17 = .ok (.iadd, 1) := by decide +kernel
theorem dX7_findingsOfAll_18 : decode cX7_findingsOfAll 18 = .ok (.istore_n 1, 1) := by decide +kernel
theorem dX7_findingsOfAll_19 : decode cX7_findingsOfAll 19 = .ok (.iinc 2 1, 3) := by decide +kernel
theorem dX7_findingsOfAll_22 : decode cX7_findingsOfAll 22 = .ok (.goto (-18), 3) := by decide +kernel
theorem dX7_findingsOfAll_25 : decode cX7_findingsOfAll 25 = .ok (.iload_n 1, 1) := by decide +kernel
theorem dX7_findingsOfAll_26 : decode cX7_findingsOfAll 26 = .ok (.ireturn, 1) := by decide +kernel
theorem dX7_beginTwoRuns_0 : decode cX7_beginTwoRuns 0 = .ok (.aload_n 0, 1) := by decide +kernel
theorem dX7_beginTwoRuns_1 : decode cX7_beginTwoRuns 1 = .ok (.getfield 44, 3) := by decide +kernel
theorem dX7_beginTwoRuns_4 : decode cX7_beginTwoRuns 4 = .ok (.aload_n 0, 1) := by decide +kernel
theorem dX7_beginTwoRuns_5 : decode cX7_beginTwoRuns 5 = .ok (.getfield 12, 3) := by decide +kernel
theorem dX7_beginTwoRuns_8 : decode cX7_beginTwoRuns 8 = .ok (.getfield 72, 3) := by decide +kernel
theorem dX7_beginTwoRuns_11 : decode cX7_beginTwoRuns 11 = .ok (.invokevirtual 192, 3) := by decide +kernel
theorem dX7_beginTwoRuns_14 : decode cX7_beginTwoRuns 14 = .ok (.aload_n 0, 1) := by decide +kernel
theorem dX7_beginTwoRuns_15 : decode cX7_beginTwoRuns 15 = .ok (.getfield 48, 3) := by decide +kernel
theorem dX7_beginTwoRuns_18 : decode cX7_beginTwoRuns 18 = .ok (.aload_n 0, 1) := by decide +kernel
theorem dX7_beginTwoRuns_19 : decode cX7_beginTwoRuns 19 = .ok (.getfield 12, 3) := by decide +kernel
theorem dX7_beginTwoRuns_22 : decode cX7_beginTwoRuns 22 = .ok (.getfield 72, 3) := by decide +kernel
theorem dX7_beginTwoRuns_25 : decode cX7_beginTwoRuns 25 = .ok (.invokevirtual 192, 3) := by decide +kernel
theorem dX7_beginTwoRuns_28 : decode cX7_beginTwoRuns 28 = .ok (.aload_n 0, 1) := by decide +kernel
theorem dX7_beginTwoRuns_29 : decode cX7_beginTwoRuns 29 = .ok (.getfield 48, 3) := by decide +kernel
theorem dX7_beginTwoRuns_32 : decode cX7_beginTwoRuns 32 = .ok (.iload_n 1, 1) := by decide +kernel
theorem dX7_beginTwoRuns_33 : decode cX7_beginTwoRuns 33 = .ok (.invokevirtual 104, 3) := by decide +kernel
theorem dX7_beginTwoRuns_36 : decode cX7_beginTwoRuns 36 = .ok (.return_, 1) := by decide +kernel
theorem dX7_differenceOfRuns_0 : decode cX7_differenceOfRuns 0 = .ok (.aload_n 0, 1) := by decide +kernel
theorem dX7_differenceOfRuns_1 : decode cX7_differenceOfRuns 1 = .ok (.getfield 44, 3) := by decide +kernel
theorem dX7_differenceOfRuns_4 : decode cX7_differenceOfRuns 4 = .ok (.getfield 108, 3) := by decide +kernel
theorem dX7_differenceOfRuns_7 : decode cX7_differenceOfRuns 7 = .ok (.aload_n 0, 1) := by decide +kernel
theorem dX7_differenceOfRuns_8 : decode cX7_differenceOfRuns 8 = .ok (.getfield 48, 3) := by decide +kernel
theorem dX7_differenceOfRuns_11 : decode cX7_differenceOfRuns 11 = .ok (.getfield 108, 3) := by decide +kernel
theorem dX7_differenceOfRuns_14 : decode cX7_differenceOfRuns 14 = .ok (.isub, 1) := by decide +kernel
theorem dX7_differenceOfRuns_15 : decode cX7_differenceOfRuns 15 = .ok (.invokestatic 150, 3) := by decide +kernel
theorem dX7_differenceOfRuns_18 : decode cX7_differenceOfRuns 18 = .ok (.ireturn, 1) := by decide +kernel
theorem dX7_isHeldBy_0 : decode cX7_isHeldBy 0 = .ok (.aload_n 0, 1) := by decide +kernel
theorem dX7_isHeldBy_1 : decode cX7_isHeldBy 1 = .ok (.getfield 44, 3) := by decide +kernel
theorem dX7_isHeldBy_4 : decode cX7_isHeldBy 4 = .ok (.aload_n 0, 1) := by decide +kernel
theorem dX7_isHeldBy_5 : decode cX7_isHeldBy 5 = .ok (.getfield 12, 3) := by decide +kernel
theorem dX7_isHeldBy_8 : decode cX7_isHeldBy 8 = .ok (.getfield 72, 3) := by decide +kernel
theorem dX7_isHeldBy_11 : decode cX7_isHeldBy 11 = .ok (.invokevirtual 192, 3) := by decide +kernel
theorem dX7_isHeldBy_14 : decode cX7_isHeldBy 14 = .ok (.aload_n 0, 1) := by decide +kernel
theorem dX7_isHeldBy_15 : decode cX7_isHeldBy 15 = .ok (.getfield 44, 3) := by decide +kernel
theorem dX7_isHeldBy_18 : decode cX7_isHeldBy 18 = .ok (.iload_n 1, 1) := by decide +kernel
theorem dX7_isHeldBy_19 : decode cX7_isHeldBy 19 = .ok (.invokevirtual 104, 3) := by decide +kernel
theorem dX7_isHeldBy_22 : decode cX7_isHeldBy 22 = .ok (.iconst 1, 1) := by decide +kernel
theorem dX7_isHeldBy_23 : decode cX7_isHeldBy 23 = .ok (.istore_n 3, 1) := by decide +kernel
theorem dX7_isHeldBy_24 : decode cX7_isHeldBy 24 = .ok (.iload_n 3, 1) := by decide +kernel
theorem dX7_isHeldBy_25 : decode cX7_isHeldBy 25 = .ok (.iload_n 2, 1) := by decide +kernel
theorem dX7_isHeldBy_26 : decode cX7_isHeldBy 26 = .ok (.if_icmp .gt 38, 3) := by decide +kernel
theorem dX7_isHeldBy_29 : decode cX7_isHeldBy 29 = .ok (.aload_n 0, 1) := by decide +kernel
theorem dX7_isHeldBy_30 : decode cX7_isHeldBy 30 = .ok (.getfield 44, 3) := by decide +kernel
theorem dX7_isHeldBy_33 : decode cX7_isHeldBy 33 = .ok (.invokevirtual 205, 3) := by decide +kernel
theorem dX7_isHeldBy_36 : decode cX7_isHeldBy 36 = .ok (.aload_n 0, 1) := by decide +kernel
theorem dX7_isHeldBy_37 : decode cX7_isHeldBy 37 = .ok (.getfield 44, 3) := by decide +kernel
theorem dX7_isHeldBy_40 : decode cX7_isHeldBy 40 = .ok (.getfield 196, 3) := by decide +kernel
theorem dX7_isHeldBy_43 : decode cX7_isHeldBy 43 = .ok (.aload_n 0, 1) := by decide +kernel
theorem dX7_isHeldBy_44 : decode cX7_isHeldBy 44 = .ok (.getfield 12, 3) := by decide +kernel
theorem dX7_isHeldBy_47 : decode cX7_isHeldBy 47 = .ok (.getfield 72, 3) := by decide +kernel
theorem dX7_isHeldBy_50 : decode cX7_isHeldBy 50 = .ok (.getfield 196, 3) := by decide +kernel
theorem dX7_isHeldBy_53 : decode cX7_isHeldBy 53 = .ok (.if_icmp .eq 5, 3) := by decide +kernel
theorem dX7_isHeldBy_56 : decode cX7_isHeldBy 56 = .ok (.iconst 0, 1) := by decide +kernel
theorem dX7_isHeldBy_57 : decode cX7_isHeldBy 57 = .ok (.ireturn, 1) := by decide +kernel
theorem dX7_isHeldBy_58 : decode cX7_isHeldBy 58 = .ok (.iinc 3 1, 3) := by decide +kernel
theorem dX7_isHeldBy_61 : decode cX7_isHeldBy 61 = .ok (.goto (-37), 3) := by decide +kernel
theorem dX7_isHeldBy_64 : decode cX7_isHeldBy 64 = .ok (.iconst 1, 1) := by decide +kernel
theorem dX7_isHeldBy_65 : decode cX7_isHeldBy 65 = .ok (.ireturn, 1) := by decide +kernel
theorem dX7_isProgram_0 : decode cX7_isProgram 0 = .ok (.iload_n 1, 1) := by decide +kernel
theorem dX7_isProgram_1 : decode cX7_isProgram 1 = .ok (.iconst 0, 1) := by decide +kernel
theorem dX7_isProgram_2 : decode cX7_isProgram 2 = .ok (.aload_n 0, 1) := by decide +kernel
theorem dX7_isProgram_3 : decode cX7_isProgram 3 = .ok (.getfield 12, 3) := by decide +kernel
theorem dX7_isProgram_6 : decode cX7_isProgram 6 = .ok (.getfield 165, 3) := by decide +kernel
theorem dX7_isProgram_9 : decode cX7_isProgram 9 = .ok (.bipush 6, 2) := by decide +kernel
theorem dX7_isProgram_11 : decode cX7_isProgram 11 = .ok (.invokestatic 155, 3) := by decide +kernel
theorem dX7_isProgram_14 : decode cX7_isProgram 14 = .ok (.iconst 1, 1) := by decide +kernel
theorem dX7_isProgram_15 : decode cX7_isProgram 15 = .ok (.isub, 1) := by decide +kernel
theorem dX7_isProgram_16 : decode cX7_isProgram 16 = .ok (.invokestatic 63, 3) := by decide +kernel
theorem dX7_isProgram_19 : decode cX7_isProgram 19 = .ok (.ireturn, 1) := by decide +kernel
theorem dX7_isCup_0 : decode cX7_isCup 0 = .ok (.iload_n 0, 1) := by decide +kernel
theorem dX7_isCup_1 : decode cX7_isCup 1 = .ok (.iconst 0, 1) := by decide +kernel
theorem dX7_isCup_2 : decode cX7_isCup 2 = .ok (.bipush 11, 2) := by decide +kernel
theorem dX7_isCup_4 : decode cX7_isCup 4 = .ok (.invokestatic 63, 3) := by decide +kernel
theorem dX7_isCup_7 : decode cX7_isCup 7 = .ok (.ireturn, 1) := by decide +kernel
theorem dX7_isKind_0 : decode cX7_isKind 0 = .ok (.iload_n 0, 1) := by decide +kernel
theorem dX7_isKind_1 : decode cX7_isKind 1 = .ok (.iconst 0, 1) := by decide +kernel
theorem dX7_isKind_2 : decode cX7_isKind 2 = .ok (.bipush 6, 2) := by decide +kernel
theorem dX7_isKind_4 : decode cX7_isKind 4 = .ok (.invokestatic 63, 3) := by decide +kernel
theorem dX7_isKind_7 : decode cX7_isKind 7 = .ok (.ireturn, 1) := by decide +kernel
theorem dX7_isSpot_0 : decode cX7_isSpot 0 = .ok (.iload_n 0, 1) := by decide +kernel
theorem dX7_isSpot_1 : decode cX7_isSpot 1 = .ok (.iconst 0, 1) := by decide +kernel
theorem dX7_isSpot_2 : decode cX7_isSpot 2 = .ok (.bipush 9, 2) := by decide +kernel
theorem dX7_isSpot_4 : decode cX7_isSpot 4 = .ok (.invokestatic 63, 3) := by decide +kernel
theorem dX7_isSpot_7 : decode cX7_isSpot 7 = .ok (.ireturn, 1) := by decide +kernel
theorem dX7_isSheet_0 : decode cX7_isSheet 0 = .ok (.iload_n 0, 1) := by decide +kernel
theorem dX7_isSheet_1 : decode cX7_isSheet 1 = .ok (.iconst 0, 1) := by decide +kernel
theorem dX7_isSheet_2 : decode cX7_isSheet 2 = .ok (.iconst 3, 1) := by decide +kernel
theorem dX7_isSheet_3 : decode cX7_isSheet 3 = .ok (.invokestatic 63, 3) := by decide +kernel
theorem dX7_isSheet_6 : decode cX7_isSheet 6 = .ok (.ireturn, 1) := by decide +kernel
theorem dX7_isTouch_0 : decode cX7_isTouch 0 = .ok (.iload_n 0, 1) := by decide +kernel
theorem dX7_isTouch_1 : decode cX7_isTouch 1 = .ok (.sipush (-200), 3) := by decide +kernel
theorem dX7_isTouch_4 : decode cX7_isTouch 4 = .ok (.sipush 200, 3) := by decide +kernel
theorem dX7_isTouch_7 : decode cX7_isTouch 7 = .ok (.invokestatic 63, 3) := by decide +kernel
theorem dX7_isTouch_10 : decode cX7_isTouch 10 = .ok (.ireturn, 1) := by decide +kernel
theorem dX7_isAhead_0 : decode cX7_isAhead 0 = .ok (.iload_n 0, 1) := by decide +kernel
theorem dX7_isAhead_1 : decode cX7_isAhead 1 = .ok (.iconst 0, 1) := by decide +kernel
theorem dX7_isAhead_2 : decode cX7_isAhead 2 = .ok (.sipush 400, 3) := by decide +kernel
theorem dX7_isAhead_5 : decode cX7_isAhead 5 = .ok (.invokestatic 63, 3) := by decide +kernel
theorem dX7_isAhead_8 : decode cX7_isAhead 8 = .ok (.ireturn, 1) := by decide +kernel
theorem dX7_isLongRun_0 : decode cX7_isLongRun 0 = .ok (.iload_n 0, 1) := by decide +kernel
theorem dX7_isLongRun_1 : decode cX7_isLongRun 1 = .ok (.bipush 10, 2) := by decide +kernel
theorem dX7_isLongRun_3 : decode cX7_isLongRun 3 = .ok (.sipush 400, 3) := by decide +kernel
theorem dX7_isLongRun_6 : decode cX7_isLongRun 6 = .ok (.invokestatic 63, 3) := by decide +kernel
theorem dX7_isLongRun_9 : decode cX7_isLongRun 9 = .ok (.ireturn, 1) := by decide +kernel
theorem dX7_isRuleBegin_0 : decode cX7_isRuleBegin 0 = .ok (.iload_n 0, 1) := by decide +kernel
theorem dX7_isRuleBegin_1 : decode cX7_isRuleBegin 1 = .ok (.sipush (-999), 3) := by decide +kernel
theorem dX7_isRuleBegin_4 : decode cX7_isRuleBegin 4 = .ok (.sipush 999, 3) := by decide +kernel
theorem dX7_isRuleBegin_7 : decode cX7_isRuleBegin 7 = .ok (.invokestatic 63, 3) := by decide +kernel
theorem dX7_isRuleBegin_10 : decode cX7_isRuleBegin 10 = .ok (.ifCond .eq 31, 3) := by decide +kernel
theorem dX7_isRuleBegin_13 : decode cX7_isRuleBegin 13 = .ok (.iload_n 1, 1) := by decide +kernel
theorem dX7_isRuleBegin_14 : decode cX7_isRuleBegin 14 = .ok (.sipush (-999), 3) := by decide +kernel
theorem dX7_isRuleBegin_17 : decode cX7_isRuleBegin 17 = .ok (.sipush 999, 3) := by decide +kernel
theorem dX7_isRuleBegin_20 : decode cX7_isRuleBegin 20 = .ok (.invokestatic 63, 3) := by decide +kernel
theorem dX7_isRuleBegin_23 : decode cX7_isRuleBegin 23 = .ok (.ifCond .eq 18, 3) := by decide +kernel
theorem dX7_isRuleBegin_26 : decode cX7_isRuleBegin 26 = .ok (.iload_n 2, 1) := by decide +kernel
theorem dX7_isRuleBegin_27 : decode cX7_isRuleBegin 27 = .ok (.iconst 0, 1) := by decide +kernel
theorem dX7_isRuleBegin_28 : decode cX7_isRuleBegin 28 = .ok (.sipush 200, 3) := by decide +kernel
theorem dX7_isRuleBegin_31 : decode cX7_isRuleBegin 31 = .ok (.invokestatic 63, 3) := by decide +kernel
theorem dX7_isRuleBegin_34 : decode cX7_isRuleBegin 34 = .ok (.ifCond .eq 7, 3) := by decide +kernel
theorem dX7_isRuleBegin_37 : decode cX7_isRuleBegin 37 = .ok (.iconst 1, 1) := by decide +kernel
theorem dX7_isRuleBegin_38 : decode cX7_isRuleBegin 38 = .ok (.goto 4, 3) := by decide +kernel
theorem dX7_isRuleBegin_41 : decode cX7_isRuleBegin 41 = .ok (.iconst 0, 1) := by decide +kernel
theorem dX7_isRuleBegin_42 : decode cX7_isRuleBegin 42 = .ok (.ireturn, 1) := by decide +kernel
theorem dX7_within_0 : decode cX7_within 0 = .ok (.iload_n 1, 1) := by decide +kernel
theorem dX7_within_1 : decode cX7_within 1 = .ok (.iload_n 0, 1) := by decide +kernel
theorem dX7_within_2 : decode cX7_within 2 = .ok (.if_icmp .gt 12, 3) := by decide +kernel
theorem dX7_within_5 : decode cX7_within 5 = .ok (.iload_n 0, 1) := by decide +kernel
theorem dX7_within_6 : decode cX7_within 6 = .ok (.iload_n 2, 1) := by decide +kernel
theorem dX7_within_7 : decode cX7_within 7 = .ok (.if_icmp .gt 7, 3) := by decide +kernel
theorem dX7_within_10 : decode cX7_within 10 = .ok (.iconst 1, 1) := by decide +kernel
theorem dX7_within_11 : decode cX7_within 11 = .ok (.goto 4, 3) := by decide +kernel
theorem dX7_within_14 : decode cX7_within 14 = .ok (.iconst 0, 1) := by decide +kernel
theorem dX7_within_15 : decode cX7_within 15 = .ok (.ireturn, 1) := by decide +kernel
theorem dX8_init_0 : decode cX8_init 0 = .ok (.aload_n 0, 1) := by decide +kernel
theorem dX8_init_1 : decode cX8_init 1 = .ok (.invokespecial 3, 3) := by decide +kernel
theorem dX8_init_4 : decode cX8_init 4 = .ok (.aload_n 0, 1) := by decide +kernel
theorem dX8_init_5 : decode cX8_init 5 = .ok (.sipush 284, 3) := by decide +kernel
theorem dX8_init_8 : decode cX8_init 8 = .ok (.newarray .int, 2) := by decide +kernel
theorem dX8_init_10 : decode cX8_init 10 = .ok (.putfield 9, 3) := by decide +kernel
theorem dX8_init_13 : decode cX8_init 13 = .ok (.aload_n 0, 1) := by decide +kernel
theorem dX8_init_14 : decode cX8_init 14 = .ok (.sipush 284, 3) := by decide +kernel
theorem dX8_init_17 : decode cX8_init 17 = .ok (.newarray .int, 2) := by decide +kernel
theorem dX8_init_19 : decode cX8_init 19 = .ok (.putfield 13, 3) := by decide +kernel
theorem dX8_init_22 : decode cX8_init 22 = .ok (.aload_n 0, 1) := by decide +kernel
theorem dX8_init_23 : decode cX8_init 23 = .ok (.sipush 284, 3) := by decide +kernel
theorem dX8_init_26 : decode cX8_init 26 = .ok (.newarray .int, 2) := by decide +kernel
theorem dX8_init_28 : decode cX8_init 28 = .ok (.putfield 16, 3) := by decide +kernel
theorem dX8_init_31 : decode cX8_init 31 = .ok (.aload_n 0, 1) := by decide +kernel
theorem dX8_init_32 : decode cX8_init 32 = .ok (.sipush 284, 3) := by decide +kernel
theorem dX8_init_35 : decode cX8_init 35 = .ok (.newarray .int, 2) := by decide +kernel
theorem dX8_init_37 : decode cX8_init 37 = .ok (.putfield 19, 3) := by decide +kernel
theorem dX8_init_40 : decode cX8_init 40 = .ok (.aload_n 0, 1) := by decide +kernel
theorem dX8_init_41 : decode cX8_init 41 = .ok (.bipush 7, 2) := by decide +kernel
theorem dX8_init_43 : decode cX8_init 43 = .ok (.newarray .int, 2) := by decide +kernel
theorem dX8_init_45 : decode cX8_init 45 = .ok (.putfield 22, 3) := by decide +kernel
theorem dX8_init_48 : decode cX8_init 48 = .ok (.aload_n 0, 1) := by decide +kernel
theorem dX8_init_49 : decode cX8_init 49 = .ok (.bipush 12, 2) := by decide +kernel
theorem dX8_init_51 : decode cX8_init 51 = .ok (.newarray .int, 2) := by decide +kernel
theorem dX8_init_53 : decode cX8_init 53 = .ok (.dup, 1) := by decide +kernel
theorem dX8_init_54 : decode cX8_init 54 = .ok (.iconst 0, 1) := by decide +kernel
theorem dX8_init_55 : decode cX8_init 55 = .ok (.iconst 0, 1) := by decide +kernel
theorem dX8_init_56 : decode cX8_init 56 = .ok (.iastore, 1) := by decide +kernel
theorem dX8_init_57 : decode cX8_init 57 = .ok (.dup, 1) := by decide +kernel
theorem dX8_init_58 : decode cX8_init 58 = .ok (.iconst 1, 1) := by decide +kernel
theorem dX8_init_59 : decode cX8_init 59 = .ok (.bipush 50, 2) := by decide +kernel
theorem dX8_init_61 : decode cX8_init 61 = .ok (.iastore, 1) := by decide +kernel
theorem dX8_init_62 : decode cX8_init 62 = .ok (.dup, 1) := by decide +kernel
theorem dX8_init_63 : decode cX8_init 63 = .ok (.iconst 2, 1) := by decide +kernel
theorem dX8_init_64 : decode cX8_init 64 = .ok (.bipush 87, 2) := by decide +kernel
theorem dX8_init_66 : decode cX8_init 66 = .ok (.iastore, 1) := by decide +kernel
theorem dX8_init_67 : decode cX8_init 67 = .ok (.dup, 1) := by decide +kernel
theorem dX8_init_68 : decode cX8_init 68 = .ok (.iconst 3, 1) := by decide +kernel
theorem dX8_init_69 : decode cX8_init 69 = .ok (.bipush 100, 2) := by decide +kernel
theorem dX8_init_71 : decode cX8_init 71 = .ok (.iastore, 1) := by decide +kernel
theorem dX8_init_72 : decode cX8_init 72 = .ok (.dup, 1) := by decide +kernel
theorem dX8_init_73 : decode cX8_init 73 = .ok (.iconst 4, 1) := by decide +kernel
theorem dX8_init_74 : decode cX8_init 74 = .ok (.bipush 87, 2) := by decide +kernel
theorem dX8_init_76 : decode cX8_init 76 = .ok (.iastore, 1) := by decide +kernel
theorem dX8_init_77 : decode cX8_init 77 = .ok (.dup, 1) := by decide +kernel
theorem dX8_init_78 : decode cX8_init 78 = .ok (.iconst 5, 1) := by decide +kernel
theorem dX8_init_79 : decode cX8_init 79 = .ok (.bipush 50, 2) := by decide +kernel
theorem dX8_init_81 : decode cX8_init 81 = .ok (.iastore, 1) := by decide +kernel
theorem dX8_init_82 : decode cX8_init 82 = .ok (.dup, 1) := by decide +kernel
theorem dX8_init_83 : decode cX8_init 83 = .ok (.bipush 6, 2) := by decide +kernel
theorem dX8_init_85 : decode cX8_init 85 = .ok (.iconst 0, 1) := by decide +kernel
theorem dX8_init_86 : decode cX8_init 86 = .ok (.iastore, 1) := by decide +kernel
theorem dX8_init_87 : decode cX8_init 87 = .ok (.dup, 1) := by decide +kernel
theorem dX8_init_88 : decode cX8_init 88 = .ok (.bipush 7, 2) := by decide +kernel
theorem dX8_init_90 : decode cX8_init 90 = .ok (.bipush (-50), 2) := by decide +kernel
theorem dX8_init_92 : decode cX8_init 92 = .ok (.iastore, 1) := by decide +kernel
theorem dX8_init_93 : decode cX8_init 93 = .ok (.dup, 1) := by decide +kernel
theorem dX8_init_94 : decode cX8_init 94 = .ok (.bipush 8, 2) := by decide +kernel
theorem dX8_init_96 : decode cX8_init 96 = .ok (.bipush (-87), 2) := by decide +kernel
theorem dX8_init_98 : decode cX8_init 98 = .ok (.iastore, 1) := by decide +kernel
theorem dX8_init_99 : decode cX8_init 99 = .ok (.dup, 1) := by decide +kernel
theorem dX8_init_100 : decode cX8_init 100 = .ok (.bipush 9, 2) := by decide +kernel
theorem dX8_init_102 : decode cX8_init 102 = .ok (.bipush (-100), 2) := by decide +kernel
theorem dX8_init_104 : decode cX8_init 104 = .ok (.iastore, 1) := by decide +kernel
theorem dX8_init_105 : decode cX8_init 105 = .ok (.dup, 1) := by decide +kernel
theorem dX8_init_106 : decode cX8_init 106 = .ok (.bipush 10, 2) := by decide +kernel
theorem dX8_init_108 : decode cX8_init 108 = .ok (.bipush (-87), 2) := by decide +kernel
theorem dX8_init_110 : decode cX8_init 110 = .ok (.iastore, 1) := by decide +kernel
theorem dX8_init_111 : decode cX8_init 111 = .ok (.dup, 1) := by decide +kernel
theorem dX8_init_112 : decode cX8_init 112 = .ok (.bipush 11, 2) := by decide +kernel
theorem dX8_init_114 : decode cX8_init 114 = .ok (.bipush (-50), 2) := by decide +kernel
theorem dX8_init_116 : decode cX8_init 116 = .ok (.iastore, 1) := by decide +kernel
theorem dX8_init_117 : decode cX8_init 117 = .ok (.putfield 25, 3) := by decide +kernel
theorem dX8_init_120 : decode cX8_init 120 = .ok (.aload_n 0, 1) := by decide +kernel
theorem dX8_init_121 : decode cX8_init 121 = .ok (.bipush 100, 2) := by decide +kernel
theorem dX8_init_123 : decode cX8_init 123 = .ok (.newarray .int, 2) := by decide +kernel
theorem dX8_init_125 : decode cX8_init 125 = .ok (.putfield 28, 3) := by decide +kernel
theorem dX8_init_128 : decode cX8_init 128 = .ok (.aload_n 0, 1) := by decide +kernel
theorem dX8_init_129 : decode cX8_init 129 = .ok (.iconst 3, 1) := by decide +kernel
theorem dX8_init_130 : decode cX8_init 130 = .ok (.newarray .int, 2) := by decide +kernel
theorem dX8_init_132 : decode cX8_init 132 = .ok (.putfield 31, 3) := by decide +kernel
theorem dX8_init_135 : decode cX8_init 135 = .ok (.aload_n 0, 1) := by decide +kernel
theorem dX8_init_136 : decode cX8_init 136 = .ok (.iconst 4, 1) := by decide +kernel
theorem dX8_init_137 : decode cX8_init 137 = .ok (.newarray .int, 2) := by decide +kernel
theorem dX8_init_139 : decode cX8_init 139 = .ok (.putfield 34, 3) := by decide +kernel
theorem dX8_init_142 : decode cX8_init 142 = .ok (.aload_n 0, 1) := by decide +kernel
theorem dX8_init_143 : decode cX8_init 143 = .ok (.iconst 4, 1) := by decide +kernel
theorem dX8_init_144 : decode cX8_init 144 = .ok (.newarray .int, 2) := by decide +kernel
theorem dX8_init_146 : decode cX8_init 146 = .ok (.putfield 37, 3) := by decide +kernel
theorem dX8_init_149 : decode cX8_init 149 = .ok (.aload_n 0, 1) := by decide +kernel
theorem dX8_init_150 : decode cX8_init 150 = .ok (.sipush 160, 3) := by decide +kernel
theorem dX8_init_153 : decode cX8_init 153 = .ok (.newarray .int, 2) := by decide +kernel
theorem dX8_init_155 : decode cX8_init 155 = .ok (.putfield 40, 3) := by decide +kernel
theorem dX8_init_158 : decode cX8_init 158 = .ok (.aload_n 0, 1) := by decide +kernel
theorem dX8_init_159 : decode cX8_init 159 = .ok (.bipush 40, 2) := by decide +kernel
theorem dX8_init_161 : decode cX8_init 161 = .ok (.newarray .int, 2) := by decide +kernel
theorem dX8_init_163 : decode cX8_init 163 = .ok (.putfield 43, 3) := by decide +kernel
theorem dX8_init_166 : decode cX8_init 166 = .ok (.aload_n 0, 1) := by decide +kernel
theorem dX8_init_167 : decode cX8_init 167 = .ok (.getfield 9, 3) := by decide +kernel
theorem dX8_init_170 : decode cX8_init 170 = .ok (.iconst 0, 1) := by decide +kernel
theorem dX8_init_171 : decode cX8_init 171 = .ok (.bipush 10, 2) := by decide +kernel
theorem dX8_init_173 : decode cX8_init 173 = .ok (.iastore, 1) := by decide +kernel
theorem dX8_init_174 : decode cX8_init 174 = .ok (.aload_n 0, 1) := by decide +kernel
theorem dX8_init_175 : decode cX8_init 175 = .ok (.getfield 9, 3) := by decide +kernel
theorem dX8_init_178 : decode cX8_init 178 = .ok (.iconst 1, 1) := by decide +kernel
theorem dX8_init_179 : decode cX8_init 179 = .ok (.iconst 5, 1) := by decide +kernel
theorem dX8_init_180 : decode cX8_init 180 = .ok (.iastore, 1) := by decide +kernel
theorem dX8_init_181 : decode cX8_init 181 = .ok (.aload_n 0, 1) := by decide +kernel
theorem dX8_init_182 : decode cX8_init 182 = .ok (.getfield 9, 3) := by decide +kernel
theorem dX8_init_185 : decode cX8_init 185 = .ok (.iconst 2, 1) := by decide +kernel
theorem dX8_init_186 : decode cX8_init 186 = .ok (.bipush 10, 2) := by decide +kernel
theorem dX8_init_188 : decode cX8_init 188 = .ok (.iastore, 1) := by decide +kernel
theorem dX8_init_189 : decode cX8_init 189 = .ok (.aload_n 0, 1) := by decide +kernel
theorem dX8_init_190 : decode cX8_init 190 = .ok (.getfield 9, 3) := by decide +kernel
theorem dX8_init_193 : decode cX8_init 193 = .ok (.iconst 3, 1) := by decide +kernel
theorem dX8_init_194 : decode cX8_init 194 = .ok (.bipush 10, 2) := by decide +kernel
theorem dX8_init_196 : decode cX8_init 196 = .ok (.iastore, 1) := by decide +kernel
theorem dX8_init_197 : decode cX8_init 197 = .ok (.aload_n 0, 1) := by decide +kernel
theorem dX8_init_198 : decode cX8_init 198 = .ok (.getfield 9, 3) := by decide +kernel
theorem dX8_init_201 : decode cX8_init 201 = .ok (.bipush 12, 2) := by decide +kernel
theorem dX8_init_203 : decode cX8_init 203 = .ok (.iconst 1, 1) := by decide +kernel
theorem dX8_init_204 : decode cX8_init 204 = .ok (.iastore, 1) := by decide +kernel
theorem dX8_init_205 : decode cX8_init 205 = .ok (.iconst 0, 1) := by decide +kernel
theorem dX8_init_206 : decode cX8_init 206 = .ok (.istore_n 1, 1) := by decide +kernel
theorem dX8_init_207 : decode cX8_init 207 = .ok (.iload_n 1, 1) := by decide +kernel
theorem dX8_init_208 : decode cX8_init 208 = .ok (.bipush 10, 2) := by decide +kernel
theorem dX8_init_210 : decode cX8_init 210 = .ok (.if_icmp .ge 19, 3) := by decide +kernel
theorem dX8_init_213 : decode cX8_init 213 = .ok (.aload_n 0, 1) := by decide +kernel
theorem dX8_init_214 : decode cX8_init 214 = .ok (.getfield 9, 3) := by decide +kernel
theorem dX8_init_217 : decode cX8_init 217 = .ok (.bipush 124, 2) := by decide +kernel
theorem dX8_init_219 : decode cX8_init 219 = .ok (.iload_n 1, 1) := by decide +kernel
theorem dX8_init_220 : decode cX8_init 220 = .ok (.iadd, 1) := by decide +kernel
theorem dX8_init_221 : decode cX8_init 221 = .ok (.iconst (-1), 1) := by decide +kernel
theorem dX8_init_222 : decode cX8_init 222 = .ok (.iastore, 1) := by decide +kernel
theorem dX8_init_223 : decode cX8_init 223 = .ok (.iinc 1 1, 3) := by decide +kernel
theorem dX8_init_226 : decode cX8_init 226 = .ok (.goto (-19), 3) := by decide +kernel
theorem dX8_init_229 : decode cX8_init 229 = .ok (.return_, 1) := by decide +kernel
theorem dX8_finds_0 : decode cX8_finds 0 = .ok (.aload_n 0, 1) := by decide +kernel
theorem dX8_finds_1 : decode cX8_finds 1 = .ok (.getfield 22, 3) := by decide +kernel
theorem dX8_finds_4 : decode cX8_finds 4 = .ok (.ldc 46, 2) := by decide +kernel
theorem dX8_finds_6 : decode cX8_finds 6 = .ok (.iload_n 1, 1) := by decide +kernel
theorem dX8_finds_7 : decode cX8_finds 7 = .ok (.isub, 1) := by decide +kernel
theorem dX8_finds_8 : decode cX8_finds 8 = .ok (.dup2, 1) := by decide +kernel
theorem dX8_finds_9 : decode cX8_finds 9 = .ok (.iaload, 1) := by decide +kernel
theorem dX8_finds_10 : decode cX8_finds 10 = .ok (.iconst 1, 1) := by decide +kernel
theorem dX8_finds_11 : decode cX8_finds 11 = .ok (.iadd, 1) := by decide +kernel
theorem dX8_finds_12 : decode cX8_finds 12 = .ok (.iastore, 1) := by decide +kernel
theorem dX8_finds_13 : decode cX8_finds 13 = .ok (.iload_n 1, 1) := by decide +kernel
theorem dX8_finds_14 : decode cX8_finds 14 = .ok (.ireturn, 1) := by decide +kernel
theorem dX8_in_0 : decode cX8_in 0 = .ok (.lload_n 0, 1) := by decide +kernel
theorem dX8_in_1 : decode cX8_in 1 = .ok (.lload_n 2, 1) := by decide +kernel
theorem dX8_in_2 : decode cX8_in 2 = .ok (.lcmp, 1) := by decide +kernel
theorem dX8_in_3 : decode cX8_in 3 = .ok (.ifCond .lt 14, 3) := by decide +kernel
theorem dX8_in_6 : decode cX8_in 6 = .ok (.lload_n 0, 1) := by decide +kernel
theorem dX8_in_7 : decode cX8_in 7 = .ok (.lload 4, 2) := by decide +kernel
theorem dX8_in_9 : decode cX8_in 9 = .ok (.lcmp, 1) := by decide +kernel
theorem dX8_in_10 : decode cX8_in 10 = .ok (.ifCond .gt 7, 3) := by decide +kernel
theorem dX8_in_13 : decode cX8_in 13 = .ok (.iconst 1, 1) := by decide +kernel
theorem dX8_in_14 : decode cX8_in 14 = .ok (.goto 4, 3) := by decide +kernel
theorem dX8_in_17 : decode cX8_in 17 = .ok (.iconst 0, 1) := by decide +kernel
theorem dX8_in_18 : decode cX8_in 18 = .ok (.ireturn, 1) := by decide +kernel
theorem dX8_held_0 : decode cX8_held 0 = .ok (.lload_n 0, 1) := by decide +kernel
theorem dX8_held_1 : decode cX8_held 1 = .ok (.iload_n 2, 1) := by decide +kernel
theorem dX8_held_2 : decode cX8_held 2 = .ok (.i2l, 1) := by decide +kernel
theorem dX8_held_3 : decode cX8_held 3 = .ok (.lcmp, 1) := by decide +kernel
theorem dX8_held_4 : decode cX8_held 4 = .ok (.ifCond .ge 8, 3) := by decide +kernel
theorem dX8_held_7 : decode cX8_held 7 = .ok (.iload_n 2, 1) := by decide +kernel
theorem dX8_held_8 : decode cX8_held 8 = .ok (.i2l, 1) := by decide +kernel
theorem dX8_held_9 : decode cX8_held 9 = .ok (.goto 16, 3) := by decide +kernel
theorem dX8_held_12 : decode cX8_held 12 = .ok (.lload_n 0, 1) := by decide +kernel
theorem dX8_held_13 : decode cX8_held 13 = .ok (.iload_n 3, 1) := by decide +kernel
theorem dX8_held_14 : decode cX8_held 14 = .ok (.i2l, 1) := by decide +kernel
theorem dX8_held_15 : decode cX8_held 15 = .ok (.lcmp, 1) := by decide +kernel
theorem dX8_held_16 : decode cX8_held 16 = .ok (.ifCond .le 8, 3) := by decide +kernel
theorem dX8_held_19 : decode cX8_held 19 = .ok (.iload_n 3, 1) := by decide +kernel
theorem dX8_held_20 : decode cX8_held 20 = .ok (.i2l, 1) := by decide +kernel
theorem dX8_held_21 : decode cX8_held 21 = .ok (.goto 4, 3) := by decide +kernel
theorem dX8_held_24 : decode cX8_held 24 = .ok (.lload_n 0, 1) := by decide +kernel
theorem dX8_held_25 : decode cX8_held 25 = .ok (.l2i, 1) := by decide +kernel
theorem dX8_held_26 : decode cX8_held 26 = .ok (.ireturn, 1) := by decide +kernel
theorem dX8_copies_0 : decode cX8_copies 0 = .ok (.iconst 0, 1) := by decide +kernel
theorem dX8_copies_1 : decode cX8_copies 1 = .ok (.istore_n 2, 1) := by decide +kernel
theorem dX8_copies_2 : decode cX8_copies 2 = .ok (.iload_n 2, 1) := by decide +kernel
theorem dX8_copies_3 : decode cX8_copies 3 = .ok (.sipush 284, 3) := by decide +kernel
theorem dX8_copies_6 : decode cX8_copies 6 = .ok (.if_icmp .ge 15, 3) := by decide +kernel
theorem dX8_copies_9 : decode cX8_copies 9 = .ok (.aload_n 1, 1) := by decide +kernel
theorem dX8_copies_10 : decode cX8_copies 10 = .ok (.iload_n 2, 1) := by decide +kernel
theorem dX8_copies_11 : decode cX8_copies 11 = .ok (.aload_n 0, 1) := by decide +kernel
theorem dX8_copies_12 : decode cX8_copies 12 = .ok (.iload_n 2, 1) := by decide +kernel
theorem dX8_copies_13 : decode cX8_copies 13 = .ok (.iaload, 1) := by decide +kernel
theorem dX8_copies_14 : decode cX8_copies 14 = .ok (.iastore, 1) := by decide +kernel
theorem dX8_copies_15 : decode cX8_copies 15 = .ok (.iinc 2 1, 3) := by decide +kernel
theorem dX8_copies_18 : decode cX8_copies 18 = .ok (.goto (-16), 3) := by decide +kernel
theorem dX8_copies_21 : decode cX8_copies 21 = .ok (.return_, 1) := by decide +kernel
theorem dX8_isCup_0 : decode cX8_isCup 0 = .ok (.iload_n 0, 1) := by decide +kernel
theorem dX8_isCup_1 : decode cX8_isCup 1 = .ok (.i2l, 1) := by decide +kernel
theorem dX8_isCup_2 : decode cX8_isCup 2 = .ok (.lconst 0, 1) := by decide +kernel
theorem dX8_isCup_3 : decode cX8_isCup 3 = .ok (.ldc2_w 47, 3) := by decide +kernel
theorem dX8_isCup_6 : decode cX8_isCup 6 = .ok (.invokestatic 49, 3) := by decide +kernel
theorem dX8_isCup_9 : decode cX8_isCup 9 = .ok (.ireturn, 1) := by decide +kernel
theorem dX8_mayBe_0 : decode cX8_mayBe 0 = .ok (.iload_n 0, 1) := by decide +kernel
theorem dX8_mayBe_1 : decode cX8_mayBe 1 = .ok (.iconst 3, 1) := by decide +kernel
theorem dX8_mayBe_2 : decode cX8_mayBe 2 = .ok (.if_icmp .ne 15, 3) := by decide +kernel
theorem dX8_mayBe_5 : decode cX8_mayBe 5 = .ok (.iload_n 1, 1) := by decide +kernel
theorem dX8_mayBe_6 : decode cX8_mayBe 6 = .ok (.i2l, 1) := by decide +kernel
theorem dX8_mayBe_7 : decode cX8_mayBe 7 = .ok (.lconst 1, 1) := by decide +kernel
theorem dX8_mayBe_8 : decode cX8_mayBe 8 = .ok (.ldc2_w 53, 3) := by decide +kernel
theorem dX8_mayBe_11 : decode cX8_mayBe 11 = .ok (.invokestatic 49, 3) := by decide +kernel
theorem dX8_mayBe_14 : decode cX8_mayBe 14 = .ok (.goto 32, 3) := by decide +kernel
theorem dX8_mayBe_17 : decode cX8_mayBe 17 = .ok (.iload_n 0, 1) := by decide +kernel
theorem dX8_mayBe_18 : decode cX8_mayBe 18 = .ok (.i2l, 1) := by decide +kernel
theorem dX8_mayBe_19 : decode cX8_mayBe 19 = .ok (.lconst 0, 1) := by decide +kernel
theorem dX8_mayBe_20 : decode cX8_mayBe 20 = .ok (.ldc2_w 55, 3) := by decide +kernel
theorem dX8_mayBe_23 : decode cX8_mayBe 23 = .ok (.invokestatic 49, 3) := by decide +kernel
theorem dX8_mayBe_26 : decode cX8_mayBe 26 = .ok (.ifCond .eq 19, 3) := by decide +kernel
theorem dX8_mayBe_29 : decode cX8_mayBe 29 = .ok (.iload_n 1, 1) := by decide +kernel
theorem dX8_mayBe_30 : decode cX8_mayBe 30 = .ok (.i2l, 1) := by decide +kernel
theorem dX8_mayBe_31 : decode cX8_mayBe 31 = .ok (.lconst 0, 1) := by decide +kernel
theorem dX8_mayBe_32 : decode cX8_mayBe 32 = .ok (.ldc2_w 53, 3) := by decide +kernel
theorem dX8_mayBe_35 : decode cX8_mayBe 35 = .ok (.invokestatic 49, 3) := by decide +kernel
theorem dX8_mayBe_38 : decode cX8_mayBe 38 = .ok (.ifCond .eq 7, 3) := by decide +kernel
theorem dX8_mayBe_41 : decode cX8_mayBe 41 = .ok (.iconst 1, 1) := by decide +kernel
theorem dX8_mayBe_42 : decode cX8_mayBe 42 = .ok (.goto 4, 3) := by decide +kernel
theorem dX8_mayBe_45 : decode cX8_mayBe 45 = .ok (.iconst 0, 1) := by decide +kernel
theorem dX8_mayBe_46 : decode cX8_mayBe 46 = .ok (.ireturn, 1) := by decide +kernel
theorem dX8_set_0 : decode cX8_set 0 = .ok (.iload_n 1, 1) := by decide +kernel
theorem dX8_set_1 : decode cX8_set 1 = .ok (.iload_n 2, 1) := by decide +kernel
theorem dX8_set_2 : decode cX8_set 2 = .ok (.invokestatic 57, 3) := by decide +kernel
theorem dX8_set_5 : decode cX8_set 5 = .ok (.ifCond .ne 10, 3) := by decide +kernel
theorem dX8_set_8 : decode cX8_set 8 = .ok (.aload_n 0, 1) := by decide +kernel
theorem dX8_set_9 : decode cX8_set 9 = .ok (.ldc 46, 2) := by decide +kernel
theorem dX8_set_11 : decode cX8_set 11 = .ok (.invokevirtual 61, 3) := by decide +kernel
theorem dX8_set_14 : decode cX8_set 14 = .ok (.ireturn, 1) := by decide +kernel
theorem dX8_set_15 : decode cX8_set 15 = .ok (.aload_n 0, 1) := by decide +kernel
theorem dX8_set_16 : decode cX8_set 16 = .ok (.getfield 9, 3) := by decide +kernel
theorem dX8_set_19 : decode cX8_set 19 = .ok (.iload_n 1, 1) := by decide +kernel
theorem dX8_set_20 : decode cX8_set 20 = .ok (.iaload, 1) := by decide +kernel
theorem dX8_set_21 : decode cX8_set 21 = .ok (.istore_n 3, 1) := by decide +kernel
theorem dX8_set_22 : decode cX8_set 22 = .ok (.aload_n 0, 1) := by decide +kernel
theorem dX8_set_23 : decode cX8_set 23 = .ok (.getfield 9, 3) := by decide +kernel
theorem dX8_set_26 : decode cX8_set 26 = .ok (.iload_n 1, 1) := by decide +kernel
theorem dX8_set_27 : decode cX8_set 27 = .ok (.iload_n 2, 1) := by decide +kernel
theorem dX8_set_28 : decode cX8_set 28 = .ok (.iastore, 1) := by decide +kernel
theorem dX8_set_29 : decode cX8_set 29 = .ok (.iload_n 3, 1) := by decide +kernel
theorem dX8_set_30 : decode cX8_set 30 = .ok (.ireturn, 1) := by decide +kernel
theorem dX8_kind_0 : decode cX8_kind 0 = .ok (.iload_n 1, 1) := by decide +kernel
theorem dX8_kind_1 : decode cX8_kind 1 = .ok (.invokestatic 65, 3) := by decide +kernel
theorem dX8_kind_4 : decode cX8_kind 4 = .ok (.ifCond .eq 15, 3) := by decide +kernel
theorem dX8_kind_7 : decode cX8_kind 7 = .ok (.iload_n 2, 1) := by decide +kernel
theorem dX8_kind_8 : decode cX8_kind 8 = .ok (.i2l, 1) := by decide +kernel
theorem dX8_kind_9 : decode cX8_kind 9 = .ok (.lconst 0, 1) := by decide +kernel
theorem dX8_kind_10 : decode cX8_kind 10 = .ok (.ldc2_w 69, 3) := by decide +kernel
theorem dX8_kind_13 : decode cX8_kind 13 = .ok (.invokestatic 49, 3) := by decide +kernel
theorem dX8_kind_16 : decode cX8_kind 16 = .ok (.ifCond .ne 10, 3) := by decide +kernel
theorem dX8_kind_19 : decode cX8_kind 19 = .ok (.aload_n 0, 1) := by decide +kernel
theorem dX8_kind_20 : decode cX8_kind 20 = .ok (.ldc 46, 2) := by decide +kernel
theorem dX8_kind_22 : decode cX8_kind 22 = .ok (.invokevirtual 61, 3) := by decide +kernel
theorem dX8_kind_25 : decode cX8_kind 25 = .ok (.ireturn, 1) := by decide +kernel
theorem dX8_kind_26 : decode cX8_kind 26 = .ok (.aload_n 0, 1) := by decide +kernel
theorem dX8_kind_27 : decode cX8_kind 27 = .ok (.getfield 9, 3) := by decide +kernel
theorem dX8_kind_30 : decode cX8_kind 30 = .ok (.bipush 32, 2) := by decide +kernel
theorem dX8_kind_32 : decode cX8_kind 32 = .ok (.iload_n 1, 1) := by decide +kernel
theorem dX8_kind_33 : decode cX8_kind 33 = .ok (.iadd, 1) := by decide +kernel
theorem dX8_kind_34 : decode cX8_kind 34 = .ok (.iaload, 1) := by decide +kernel
theorem dX8_kind_35 : decode cX8_kind 35 = .ok (.istore_n 3, 1) := by decide +kernel
theorem dX8_kind_36 : decode cX8_kind 36 = .ok (.aload_n 0, 1) := by decide +kernel
theorem dX8_kind_37 : decode cX8_kind 37 = .ok (.getfield 9, 3) := by decide +kernel
theorem dX8_kind_40 : decode cX8_kind 40 = .ok (.bipush 32, 2) := by decide +kernel
theorem dX8_kind_42 : decode cX8_kind 42 = .ok (.iload_n 1, 1) := by decide +kernel
theorem dX8_kind_43 : decode cX8_kind 43 = .ok (.iadd, 1) := by decide +kernel
theorem dX8_kind_44 : decode cX8_kind 44 = .ok (.iload_n 2, 1) := by decide +kernel
theorem dX8_kind_45 : decode cX8_kind 45 = .ok (.iastore, 1) := by decide +kernel
theorem dX8_kind_46 : decode cX8_kind 46 = .ok (.iload_n 3, 1) := by decide +kernel
theorem dX8_kind_47 : decode cX8_kind 47 = .ok (.ireturn, 1) := by decide +kernel
theorem dX8_placeOf_0 : decode cX8_placeOf 0 = .ok (.iload_n 1, 1) := by decide +kernel
theorem dX8_placeOf_1 : decode cX8_placeOf 1 = .ok (.aload_n 0, 1) := by decide +kernel
theorem dX8_placeOf_2 : decode cX8_placeOf 2 = .ok (.iconst 5, 1) := by decide +kernel
theorem dX8_placeOf_3 : decode cX8_placeOf 3 = .ok (.iaload, 1) := by decide +kernel
theorem dX8_placeOf_4 : decode cX8_placeOf 4 = .ok (.bipush 100, 2) := by decide +kernel
theorem dX8_placeOf_6 : decode cX8_placeOf 6 = .ok (.idiv, 1) := by decide +kernel
theorem dX8_placeOf_7 : decode cX8_placeOf 7 = .ok (.iadd, 1) := by decide +kernel
theorem dX8_placeOf_8 : decode cX8_placeOf 8 = .ok (.bipush 12, 2) := by decide +kernel
theorem dX8_placeOf_10 : decode cX8_placeOf 10 = .ok (.irem, 1) := by decide +kernel
theorem dX8_placeOf_11 : decode cX8_placeOf 11 = .ok (.ireturn, 1) := by decide +kernel
theorem dX8_roomOf_0 : decode cX8_roomOf 0 = .ok (.aload_n 0, 1) := by decide +kernel
theorem dX8_roomOf_1 : decode cX8_roomOf 1 = .ok (.bipush 32, 2) := by decide +kernel
theorem dX8_roomOf_3 : decode cX8_roomOf 3 = .ok (.iload_n 1, 1) := by decide +kernel
theorem dX8_roomOf_4 : decode cX8_roomOf 4 = .ok (.iadd, 1) := by decide +kernel
theorem dX8_roomOf_5 : decode cX8_roomOf 5 = .ok (.iaload, 1) := by decide +kernel
theorem dX8_roomOf_6 : decode cX8_roomOf 6 = .ok (.tableswitch 34 4 6 #[26, 30, 26], 26) := by decide +kernel
theorem dX8_roomOf_32 : decode cX8_roomOf 32 = .ok (.sipush 200, 3) := by decide +kernel
theorem dX8_roomOf_35 : decode cX8_roomOf 35 = .ok (.ireturn, 1) := by decide +kernel
theorem dX8_roomOf_36 : decode cX8_roomOf 36 = .ok (.sipush 500, 3) := by decide +kernel
theorem dX8_roomOf_39 : decode cX8_roomOf 39 = .ok (.ireturn, 1) := by decide +kernel
theorem dX8_roomOf_40 : decode cX8_roomOf 40 = .ok (.sipush 999, 3) := by decide +kernel
theorem dX8_roomOf_43 : decode cX8_roomOf 43 = .ok (.ireturn, 1) := by decide +kernel
theorem dX8_leaksFrom_0 : decode cX8_leaksFrom 0 = .ok (.aload_n 0, 1) := by decide +kernel
theorem dX8_leaksFrom_1 : decode cX8_leaksFrom 1 = .ok (.bipush 20, 2) := by decide +kernel
theorem dX8_leaksFrom_3 : decode cX8_leaksFrom 3 = .ok (.iload_n 1, 1) := by decide +kernel
theorem dX8_leaksFrom_4 : decode cX8_leaksFrom 4 = .ok (.iadd, 1) := by decide +kernel
theorem dX8_leaksFrom_5 : decode cX8_leaksFrom 5 = .ok (.iaload, 1) := by decide +kernel
theorem dX8_leaksFrom_6 : decode cX8_leaksFrom 6 = .ok (.istore_n 2, 1) := by decide +kernel
theorem dX8_leaksFrom_7 : decode cX8_leaksFrom 7 = .ok (.iload_n 2, 1) := by decide +kernel
theorem dX8_leaksFrom_8 : decode cX8_leaksFrom 8 = .ok (.aload_n 0, 1) := by decide +kernel
theorem dX8_leaksFrom_9 : decode cX8_leaksFrom 9 = .ok (.iconst 1, 1) := by decide +kernel
theorem dX8_leaksFrom_10 : decode cX8_leaksFrom 10 = .ok (.iaload, 1) := by decide +kernel
theorem dX8_leaksFrom_11 : decode cX8_leaksFrom 11 = .ok (.imul, 1) := by decide +kernel
theorem dX8_leaksFrom_12 : decode cX8_leaksFrom 12 = .ok (.bipush 100, 2) := by decide +kernel
theorem dX8_leaksFrom_14 : decode cX8_leaksFrom 14 = .ok (.idiv, 1) := by decide +kernel
theorem dX8_leaksFrom_15 : decode cX8_leaksFrom 15 = .ok (.istore_n 3, 1) := by decide +kernel
theorem dX8_leaksFrom_16 : decode cX8_leaksFrom 16 = .ok (.iload_n 2, 1) := by decide +kernel
theorem dX8_leaksFrom_17 : decode cX8_leaksFrom 17 = .ok (.bipush 100, 2) := by decide +kernel
theorem dX8_leaksFrom_19 : decode cX8_leaksFrom 19 = .ok (.if_icmp .le 17, 3) := by decide +kernel
theorem dX8_leaksFrom_22 : decode cX8_leaksFrom 22 = .ok (.iload_n 2, 1) := by decide +kernel
theorem dX8_leaksFrom_23 : decode cX8_leaksFrom 23 = .ok (.bipush 100, 2) := by decide +kernel
theorem dX8_leaksFrom_25 : decode cX8_leaksFrom 25 = .ok (.isub, 1) := by decide +kernel
theorem dX8_leaksFrom_26 : decode cX8_leaksFrom 26 = .ok (.aload_n 0, 1) := by decide +kernel
theorem dX8_leaksFrom_27 : decode cX8_leaksFrom 27 = .ok (.iconst 1, 1) := by decide +kernel
theorem dX8_leaksFrom_28 : decode cX8_leaksFrom 28 = .ok (.iaload, 1) := by decide +kernel
theorem dX8_leaksFrom_29 : decode cX8_leaksFrom 29 = .ok (.imul, 1) := by decide +kernel
theorem dX8_leaksFrom_30 : decode cX8_leaksFrom 30 = .ok (.bipush 100, 2) := by decide +kernel
theorem dX8_leaksFrom_32 : decode cX8_leaksFrom 32 = .ok (.idiv, 1) := by decide +kernel
theorem dX8_leaksFrom_33 : decode cX8_leaksFrom 33 = .ok (.goto 4, 3) := by decide +kernel
theorem dX8_leaksFrom_36 : decode cX8_leaksFrom 36 = .ok (.iconst 0, 1) := by decide +kernel
theorem dX8_leaksFrom_37 : decode cX8_leaksFrom 37 = .ok (.istore 4, 2) := by decide +kernel
theorem dX8_leaksFrom_39 : decode cX8_leaksFrom 39 = .ok (.aload_n 0, 1) := by decide +kernel
theorem dX8_leaksFrom_40 : decode cX8_leaksFrom 40 = .ok (.bipush 32, 2) := by decide +kernel
theorem dX8_leaksFrom_42 : decode cX8_leaksFrom 42 = .ok (.iload_n 1, 1) := by decide +kernel
theorem dX8_leaksFrom_43 : decode cX8_leaksFrom 43 = .ok (.iadd, 1) := by decide +kernel
theorem dX8_leaksFrom_44 : decode cX8_leaksFrom 44 = .ok (.iaload, 1) := by decide +kernel
theorem dX8_leaksFrom_45 : decode cX8_leaksFrom 45 = .ok (.tableswitch 76 1 6 #[39, 41, 56, 41, 59, 41], 39) := by decide +kernel
theorem dX8_leaksFrom_84 : decode cX8_leaksFrom 84 = .ok (.iconst 0, 1) := by decide +kernel
theorem dX8_leaksFrom_85 : decode cX8_leaksFrom 85 = .ok (.ireturn, 1) := by decide +kernel
theorem dX8_leaksFrom_86 : decode cX8_leaksFrom 86 = .ok (.iconst 2, 1) := by decide +kernel
theorem dX8_leaksFrom_87 : decode cX8_leaksFrom 87 = .ok (.iload_n 3, 1) := by decide +kernel
theorem dX8_leaksFrom_88 : decode cX8_leaksFrom 88 = .ok (.imul, 1) := by decide +kernel
theorem dX8_leaksFrom_89 : decode cX8_leaksFrom 89 = .ok (.iload_n 2, 1) := by decide +kernel
theorem dX8_leaksFrom_90 : decode cX8_leaksFrom 90 = .ok (.if_icmp .ge 9, 3) := by decide +kernel
theorem dX8_leaksFrom_93 : decode cX8_leaksFrom 93 = .ok (.iconst 2, 1) := by decide +kernel
theorem dX8_leaksFrom_94 : decode cX8_leaksFrom 94 = .ok (.iload_n 3, 1) := by decide +kernel
theorem dX8_leaksFrom_95 : decode cX8_leaksFrom 95 = .ok (.imul, 1) := by decide +kernel
theorem dX8_leaksFrom_96 : decode cX8_leaksFrom 96 = .ok (.goto 4, 3) := by decide +kernel
theorem dX8_leaksFrom_99 : decode cX8_leaksFrom 99 = .ok (.iload_n 2, 1) := by decide +kernel
theorem dX8_leaksFrom_100 : decode cX8_leaksFrom 100 = .ok (.ireturn, 1) := by decide +kernel
theorem dX8_leaksFrom_101 : decode cX8_leaksFrom 101 = .ok (.iload 4, 2) := by decide +kernel
theorem dX8_leaksFrom_103 : decode cX8_leaksFrom 103 = .ok (.ireturn, 1) := by decide +kernel
theorem dX8_leaksFrom_104 : decode cX8_leaksFrom 104 = .ok (.aload_n 0, 1) := by decide +kernel
theorem dX8_leaksFrom_105 : decode cX8_leaksFrom 105 = .ok (.iload_n 1, 1) := by decide +kernel
theorem dX8_leaksFrom_106 : decode cX8_leaksFrom 106 = .ok (.invokestatic 71, 3) := by decide +kernel
theorem dX8_leaksFrom_109 : decode cX8_leaksFrom 109 = .ok (.bipush 6, 2) := by decide +kernel
theorem dX8_leaksFrom_111 : decode cX8_leaksFrom 111 = .ok (.if_icmp .ne 7, 3) := by decide +kernel
theorem dX8_leaksFrom_114 : decode cX8_leaksFrom 114 = .ok (.iload_n 2, 1) := by decide +kernel
theorem dX8_leaksFrom_115 : decode cX8_leaksFrom 115 = .ok (.goto 5, 3) := by decide +kernel
theorem dX8_leaksFrom_118 : decode cX8_leaksFrom 118 = .ok (.iload 4, 2) := by decide +kernel
theorem dX8_leaksFrom_120 : decode cX8_leaksFrom 120 = .ok (.ireturn, 1) := by decide +kernel
theorem dX8_leaksFrom_121 : decode cX8_leaksFrom 121 = .ok (.iload_n 3, 1) := by decide +kernel
theorem dX8_leaksFrom_122 : decode cX8_leaksFrom 122 = .ok (.ireturn, 1) := by decide +kernel
theorem dX8_cupOf_0 : decode cX8_cupOf 0 = .ok (.iload_n 1, 1) := by decide +kernel
theorem dX8_cupOf_1 : decode cX8_cupOf 1 = .ok (.invokestatic 65, 3) := by decide +kernel
theorem dX8_cupOf_4 : decode cX8_cupOf 4 = .ok (.ifCond .eq 15, 3) := by decide +kernel
theorem dX8_cupOf_7 : decode cX8_cupOf 7 = .ok (.iload_n 2, 1) := by decide +kernel
theorem dX8_cupOf_8 : decode cX8_cupOf 8 = .ok (.i2l, 1) := by decide +kernel
theorem dX8_cupOf_9 : decode cX8_cupOf 9 = .ok (.lconst 0, 1) := by decide +kernel
theorem dX8_cupOf_10 : decode cX8_cupOf 10 = .ok (.ldc2_w 75, 3) := by decide +kernel
theorem dX8_cupOf_13 : decode cX8_cupOf 13 = .ok (.invokestatic 49, 3) := by decide +kernel
theorem dX8_cupOf_16 : decode cX8_cupOf 16 = .ok (.ifCond .ne 10, 3) := by decide +kernel
theorem dX8_cupOf_19 : decode cX8_cupOf 19 = .ok (.aload_n 0, 1) := by decide +kernel
theorem dX8_cupOf_20 : decode cX8_cupOf 20 = .ok (.ldc 46, 2) := by decide +kernel
theorem dX8_cupOf_22 : decode cX8_cupOf 22 = .ok (.invokevirtual 61, 3) := by decide +kernel
theorem dX8_cupOf_25 : decode cX8_cupOf 25 = .ok (.ireturn, 1) := by decide +kernel
theorem dX8_cupOf_26 : decode cX8_cupOf 26 = .ok (.iload_n 2, 1) := by decide +kernel
theorem dX8_cupOf_27 : decode cX8_cupOf 27 = .ok (.tableswitch 67 0 3 #[29, 39, 49, 58], 29) := by decide +kernel
theorem dX8_cupOf_56 : decode cX8_cupOf 56 = .ok (.aload_n 0, 1) := by decide +kernel
theorem dX8_cupOf_57 : decode cX8_cupOf 57 = .ok (.getfield 9, 3) := by decide +kernel
theorem dX8_cupOf_60 : decode cX8_cupOf 60 = .ok (.bipush 32, 2) := by decide +kernel
theorem dX8_cupOf_62 : decode cX8_cupOf 62 = .ok (.iload_n 1, 1) := by decide +kernel
theorem dX8_cupOf_63 : decode cX8_cupOf 63 = .ok (.iadd, 1) := by decide +kernel
theorem dX8_cupOf_64 : decode cX8_cupOf 64 = .ok (.iaload, 1) := by decide +kernel
theorem dX8_cupOf_65 : decode cX8_cupOf 65 = .ok (.ireturn, 1) := by decide +kernel
theorem dX8_cupOf_66 : decode cX8_cupOf 66 = .ok (.aload_n 0, 1) := by decide +kernel
theorem dX8_cupOf_67 : decode cX8_cupOf 67 = .ok (.getfield 9, 3) := by decide +kernel
theorem dX8_cupOf_70 : decode cX8_cupOf 70 = .ok (.bipush 20, 2) := by decide +kernel
theorem dX8_cupOf_72 : decode cX8_cupOf 72 = .ok (.iload_n 1, 1) := by decide +kernel
theorem dX8_cupOf_73 : decode cX8_cupOf 73 = .ok (.iadd, 1) := by decide +kernel
theorem dX8_cupOf_74 : decode cX8_cupOf 74 = .ok (.iaload, 1) := by decide +kernel
theorem dX8_cupOf_75 : decode cX8_cupOf 75 = .ok (.ireturn, 1) := by decide +kernel
theorem dX8_cupOf_76 : decode cX8_cupOf 76 = .ok (.aload_n 0, 1) := by decide +kernel
theorem dX8_cupOf_77 : decode cX8_cupOf 77 = .ok (.getfield 9, 3) := by decide +kernel
theorem dX8_cupOf_80 : decode cX8_cupOf 80 = .ok (.iload_n 1, 1) := by decide +kernel
theorem dX8_cupOf_81 : decode cX8_cupOf 81 = .ok (.invokestatic 71, 3) := by decide +kernel
theorem dX8_cupOf_84 : decode cX8_cupOf 84 = .ok (.ireturn, 1) := by decide +kernel
theorem dX8_cupOf_85 : decode cX8_cupOf 85 = .ok (.aload_n 0, 1) := by decide +kernel
theorem dX8_cupOf_86 : decode cX8_cupOf 86 = .ok (.getfield 9, 3) := by decide +kernel
theorem dX8_cupOf_89 : decode cX8_cupOf 89 = .ok (.iload_n 1, 1) := by decide +kernel
theorem dX8_cupOf_90 : decode cX8_cupOf 90 = .ok (.invokestatic 77, 3) := by decide +kernel
theorem dX8_cupOf_93 : decode cX8_cupOf 93 = .ok (.ireturn, 1) := by decide +kernel
theorem dX8_cupOf_94 : decode cX8_cupOf 94 = .ok (.aload_n 0, 1) := by decide +kernel
theorem dX8_cupOf_95 : decode cX8_cupOf 95 = .ok (.getfield 9, 3) := by decide +kernel
theorem dX8_cupOf_98 : decode cX8_cupOf 98 = .ok (.iload_n 1, 1) := by decide +kernel
theorem dX8_cupOf_99 : decode cX8_cupOf 99 = .ok (.invokestatic 80, 3) := by decide +kernel
theorem dX8_cupOf_102 : decode cX8_cupOf 102 = .ok (.ireturn, 1) := by decide +kernel
theorem dX8_fill_0 : decode cX8_fill 0 = .ok (.iload_n 1, 1) := by decide +kernel
theorem dX8_fill_1 : decode cX8_fill 1 = .ok (.invokestatic 65, 3) := by decide +kernel
theorem dX8_fill_4 : decode cX8_fill 4 = .ok (.ifCond .eq 15, 3) := by decide +kernel
theorem dX8_fill_7 : decode cX8_fill 7 = .ok (.iload_n 2, 1) := by decide +kernel
theorem dX8_fill_8 : decode cX8_fill 8 = .ok (.i2l, 1) := by decide +kernel
theorem dX8_fill_9 : decode cX8_fill 9 = .ok (.lconst 1, 1) := by decide +kernel
theorem dX8_fill_10 : decode cX8_fill 10 = .ok (.ldc2_w 83, 3) := by decide +kernel
theorem dX8_fill_13 : decode cX8_fill 13 = .ok (.invokestatic 49, 3) := by decide +kernel
theorem dX8_fill_16 : decode cX8_fill 16 = .ok (.ifCond .ne 10, 3) := by decide +kernel
theorem dX8_fill_19 : decode cX8_fill 19 = .ok (.aload_n 0, 1) := by decide +kernel
theorem dX8_fill_20 : decode cX8_fill 20 = .ok (.ldc 46, 2) := by decide +kernel
theorem dX8_fill_22 : decode cX8_fill 22 = .ok (.invokevirtual 61, 3) := by decide +kernel
theorem dX8_fill_25 : decode cX8_fill 25 = .ok (.ireturn, 1) := by decide +kernel
theorem dX8_fill_26 : decode cX8_fill 26 = .ok (.aload_n 0, 1) := by decide +kernel
theorem dX8_fill_27 : decode cX8_fill 27 = .ok (.getfield 9, 3) := by decide +kernel
theorem dX8_fill_30 : decode cX8_fill 30 = .ok (.bipush 20, 2) := by decide +kernel
theorem dX8_fill_32 : decode cX8_fill 32 = .ok (.iload_n 1, 1) := by decide +kernel
theorem dX8_fill_33 : decode cX8_fill 33 = .ok (.iadd, 1) := by decide +kernel
theorem dX8_fill_34 : decode cX8_fill 34 = .ok (.iaload, 1) := by decide +kernel
theorem dX8_fill_35 : decode cX8_fill 35 = .ok (.iload_n 2, 1) := by decide +kernel
theorem dX8_fill_36 : decode cX8_fill 36 = .ok (.iadd, 1) := by decide +kernel
theorem dX8_fill_37 : decode cX8_fill 37 = .ok (.aload_n 0, 1) := by decide +kernel
theorem dX8_fill_38 : decode cX8_fill 38 = .ok (.getfield 9, 3) := by decide +kernel
theorem dX8_fill_41 : decode cX8_fill 41 = .ok (.iload_n 1, 1) := by decide +kernel
theorem dX8_fill_42 : decode cX8_fill 42 = .ok (.invokestatic 77, 3) := by decide +kernel
theorem dX8_fill_45 : decode cX8_fill 45 = .ok (.if_icmp .le 10, 3) := by decide +kernel
theorem dX8_fill_48 : decode cX8_fill 48 = .ok (.aload_n 0, 1) := by decide +kernel
theorem dX8_fill_49 : decode cX8_fill 49 = .ok (.ldc 85, 2) := by decide +kernel
theorem dX8_fill_51 : decode cX8_fill 51 = .ok (.invokevirtual 61, 3) := by decide +kernel
theorem dX8_fill_54 : decode cX8_fill 54 = .ok (.ireturn, 1) := by decide +kernel
theorem dX8_fill_55 : decode cX8_fill 55 = .ok (.aload_n 0, 1) := by decide +kernel
theorem dX8_fill_56 : decode cX8_fill 56 = .ok (.getfield 9, 3) := by decide +kernel
theorem dX8_fill_59 : decode cX8_fill 59 = .ok (.bipush 20, 2) := by decide +kernel
theorem dX8_fill_61 : decode cX8_fill 61 = .ok (.iload_n 1, 1) := by decide +kernel
theorem dX8_fill_62 : decode cX8_fill 62 = .ok (.iadd, 1) := by decide +kernel
theorem dX8_fill_63 : decode cX8_fill 63 = .ok (.dup2, 1) := by decide +kernel
theorem dX8_fill_64 : decode cX8_fill 64 = .ok (.iaload, 1) := by decide +kernel
theorem dX8_fill_65 : decode cX8_fill 65 = .ok (.iload_n 2, 1) := by decide +kernel
theorem dX8_fill_66 : decode cX8_fill 66 = .ok (.iadd, 1) := by decide +kernel
theorem dX8_fill_67 : decode cX8_fill 67 = .ok (.iastore, 1) := by decide +kernel
theorem dX8_fill_68 : decode cX8_fill 68 = .ok (.aload_n 0, 1) := by decide +kernel
theorem dX8_fill_69 : decode cX8_fill 69 = .ok (.getfield 9, 3) := by decide +kernel
theorem dX8_fill_72 : decode cX8_fill 72 = .ok (.bipush 20, 2) := by decide +kernel
theorem dX8_fill_74 : decode cX8_fill 74 = .ok (.iload_n 1, 1) := by decide +kernel
theorem dX8_fill_75 : decode cX8_fill 75 = .ok (.iadd, 1) := by decide +kernel
theorem dX8_fill_76 : decode cX8_fill 76 = .ok (.iaload, 1) := by decide +kernel
theorem dX8_fill_77 : decode cX8_fill 77 = .ok (.ireturn, 1) := by decide +kernel
theorem dX8_empty_0 : decode cX8_empty 0 = .ok (.iload_n 1, 1) := by decide +kernel
theorem dX8_empty_1 : decode cX8_empty 1 = .ok (.invokestatic 65, 3) := by decide +kernel
theorem dX8_empty_4 : decode cX8_empty 4 = .ok (.ifCond .ne 10, 3) := by decide +kernel
theorem dX8_empty_7 : decode cX8_empty 7 = .ok (.aload_n 0, 1) := by decide +kernel
theorem dX8_empty_8 : decode cX8_empty 8 = .ok (.ldc 46, 2) := by decide +kernel
theorem dX8_empty_10 : decode cX8_empty 10 = .ok (.invokevirtual 61, 3) := by decide +kernel
theorem dX8_empty_13 : decode cX8_empty 13 = .ok (.ireturn, 1) := by decide +kernel
theorem dX8_empty_14 : decode cX8_empty 14 = .ok (.aload_n 0, 1) := by decide +kernel
theorem dX8_empty_15 : decode cX8_empty 15 = .ok (.getfield 9, 3) := by decide +kernel
theorem dX8_empty_18 : decode cX8_empty 18 = .ok (.bipush 20, 2) := by decide +kernel
theorem dX8_empty_20 : decode cX8_empty 20 = .ok (.iload_n 1, 1) := by decide +kernel
theorem dX8_empty_21 : decode cX8_empty 21 = .ok (.iadd, 1) := by decide +kernel
theorem dX8_empty_22 : decode cX8_empty 22 = .ok (.iaload, 1) := by decide +kernel
theorem dX8_empty_23 : decode cX8_empty 23 = .ok (.istore_n 2, 1) := by decide +kernel
theorem dX8_empty_24 : decode cX8_empty 24 = .ok (.aload_n 0, 1) := by decide +kernel
theorem dX8_empty_25 : decode cX8_empty 25 = .ok (.getfield 9, 3) := by decide +kernel
theorem dX8_empty_28 : decode cX8_empty 28 = .ok (.bipush 20, 2) := by decide +kernel
theorem dX8_empty_30 : decode cX8_empty 30 = .ok (.iload_n 1, 1) := by decide +kernel
theorem dX8_empty_31 : decode cX8_empty 31 = .ok (.iadd, 1) := by decide +kernel
theorem dX8_empty_32 : decode cX8_empty 32 = .ok (.iconst 0, 1) := by decide +kernel
theorem dX8_empty_33 : decode cX8_empty 33 = .ok (.iastore, 1) := by decide +kernel
theorem dX8_empty_34 : decode cX8_empty 34 = .ok (.iload_n 2, 1) := by decide +kernel
theorem dX8_empty_35 : decode cX8_empty 35 = .ok (.ireturn, 1) := by decide +kernel
theorem dX8_touches_0 : decode cX8_touches 0 = .ok (.aload_n 0, 1) := by decide +kernel
theorem dX8_touches_1 : decode cX8_touches 1 = .ok (.iconst 4, 1) := by decide +kernel
theorem dX8_touches_2 : decode cX8_touches 2 = .ok (.aload_n 0, 1) := by decide +kernel
theorem dX8_touches_3 : decode cX8_touches 3 = .ok (.iconst 4, 1) := by decide +kernel
theorem dX8_touches_4 : decode cX8_touches 4 = .ok (.iaload, 1) := by decide +kernel
theorem dX8_touches_5 : decode cX8_touches 5 = .ok (.iload_n 1, 1) := by decide +kernel
theorem dX8_touches_6 : decode cX8_touches 6 = .ok (.iadd, 1) := by decide +kernel
theorem dX8_touches_7 : decode cX8_touches 7 = .ok (.i2l, 1) := by decide +kernel
theorem dX8_touches_8 : decode cX8_touches 8 = .ok (.sipush (-600), 3) := by decide +kernel
theorem dX8_touches_11 : decode cX8_touches 11 = .ok (.sipush 600, 3) := by decide +kernel
theorem dX8_touches_14 : decode cX8_touches 14 = .ok (.invokestatic 86, 3) := by decide +kernel
theorem dX8_touches_17 : decode cX8_touches 17 = .ok (.iastore, 1) := by decide +kernel
theorem dX8_touches_18 : decode cX8_touches 18 = .ok (.aload_n 0, 1) := by decide +kernel
theorem dX8_touches_19 : decode cX8_touches 19 = .ok (.bipush 6, 2) := by decide +kernel
theorem dX8_touches_21 : decode cX8_touches 21 = .ok (.aload_n 0, 1) := by decide +kernel
theorem dX8_touches_22 : decode cX8_touches 22 = .ok (.iconst 4, 1) := by decide +kernel
theorem dX8_touches_23 : decode cX8_touches 23 = .ok (.iaload, 1) := by decide +kernel
theorem dX8_touches_24 : decode cX8_touches 24 = .ok (.ifCond .ne 10, 3) := by decide +kernel
theorem dX8_touches_27 : decode cX8_touches 27 = .ok (.aload_n 0, 1) := by decide +kernel
theorem dX8_touches_28 : decode cX8_touches 28 = .ok (.bipush 6, 2) := by decide +kernel
theorem dX8_touches_30 : decode cX8_touches 30 = .ok (.iaload, 1) := by decide +kernel
theorem dX8_touches_31 : decode cX8_touches 31 = .ok (.goto 14, 3) := by decide +kernel
theorem dX8_touches_34 : decode cX8_touches 34 = .ok (.aload_n 0, 1) := by decide +kernel
theorem dX8_touches_35 : decode cX8_touches 35 = .ok (.iconst 4, 1) := by decide +kernel
theorem dX8_touches_36 : decode cX8_touches 36 = .ok (.iaload, 1) := by decide +kernel
theorem dX8_touches_37 : decode cX8_touches 37 = .ok (.ifCond .le 7, 3) := by decide +kernel
theorem dX8_touches_40 : decode cX8_touches 40 = .ok (.iconst 1, 1) := by decide +kernel
theorem dX8_touches_41 : decode cX8_touches 41 = .ok (.goto 4, 3) := by decide +kernel
theorem dX8_touches_44 : decode cX8_touches 44 = .ok (.iconst (-1), 1) := by decide +kernel
theorem dX8_touches_45 : decode cX8_touches 45 = .ok (.iastore, 1) := by decide +kernel
theorem dX8_touches_46 : decode cX8_touches 46 = .ok (.return_, 1) := by decide +kernel
theorem dX8_touch_0 : decode cX8_touch 0 = .ok (.iload_n 1, 1) := by decide +kernel
theorem dX8_touch_1 : decode cX8_touch 1 = .ok (.i2l, 1) := by decide +kernel
theorem dX8_touch_2 : decode cX8_touch 2 = .ok (.ldc2_w 90, 3) := by decide +kernel
theorem dX8_touch_5 : decode cX8_touch 5 = .ok (.ldc2_w 92, 3) := by decide +kernel
theorem dX8_touch_8 : decode cX8_touch 8 = .ok (.invokestatic 49, 3) := by decide +kernel
theorem dX8_touch_11 : decode cX8_touch 11 = .ok (.ifCond .ne 10, 3) := by decide +kernel
theorem dX8_touch_14 : decode cX8_touch 14 = .ok (.aload_n 0, 1) := by decide +kernel
theorem dX8_touch_15 : decode cX8_touch 15 = .ok (.ldc 46, 2) := by decide +kernel
theorem dX8_touch_17 : decode cX8_touch 17 = .ok (.invokevirtual 61, 3) := by decide +kernel
theorem dX8_touch_20 : decode cX8_touch 20 = .ok (.ireturn, 1) := by decide +kernel
theorem dX8_touch_21 : decode cX8_touch 21 = .ok (.aload_n 0, 1) := by decide +kernel
theorem dX8_touch_22 : decode cX8_touch 22 = .ok (.getfield 9, 3) := by decide +kernel
theorem dX8_touch_25 : decode cX8_touch 25 = .ok (.iload_n 1, 1) := by decide +kernel
theorem dX8_touch_26 : decode cX8_touch 26 = .ok (.invokestatic 94, 3) := by decide +kernel
theorem dX8_touch_29 : decode cX8_touch 29 = .ok (.aload_n 0, 1) := by decide +kernel
theorem dX8_touch_30 : decode cX8_touch 30 = .ok (.getfield 9, 3) := by decide +kernel
theorem dX8_touch_33 : decode cX8_touch 33 = .ok (.iconst 4, 1) := by decide +kernel
theorem dX8_touch_34 : decode cX8_touch 34 = .ok (.iaload, 1) := by decide +kernel
theorem dX8_touch_35 : decode cX8_touch 35 = .ok (.ireturn, 1) := by decide +kernel
theorem dX8_stop_0 : decode cX8_stop 0 = .ok (.iload_n 1, 1) := by decide +kernel
theorem dX8_stop_1 : decode cX8_stop 1 = .ok (.i2l, 1) := by decide +kernel
theorem dX8_stop_2 : decode cX8_stop 2 = .ok (.lconst 0, 1) := by decide +kernel
theorem dX8_stop_3 : decode cX8_stop 3 = .ok (.ldc2_w 98, 3) := by decide +kernel
theorem dX8_stop_6 : decode cX8_stop 6 = .ok (.invokestatic 49, 3) := by decide +kernel
theorem dX8_stop_9 : decode cX8_stop 9 = .ok (.ifCond .ne 10, 3) := by decide +kernel
theorem dX8_stop_12 : decode cX8_stop 12 = .ok (.aload_n 0, 1) := by decide +kernel
theorem dX8_stop_13 : decode cX8_stop 13 = .ok (.ldc 46, 2) := by decide +kernel
theorem dX8_stop_15 : decode cX8_stop 15 = .ok (.invokevirtual 61, 3) := by decide +kernel
theorem dX8_stop_18 : decode cX8_stop 18 = .ok (.ireturn, 1) := by decide +kernel
theorem dX8_stop_19 : decode cX8_stop 19 = .ok (.aload_n 0, 1) := by decide +kernel
theorem dX8_stop_20 : decode cX8_stop 20 = .ok (.getfield 9, 3) := by decide +kernel
theorem dX8_stop_23 : decode cX8_stop 23 = .ok (.iconst 4, 1) := by decide +kernel
theorem dX8_stop_24 : decode cX8_stop 24 = .ok (.iaload, 1) := by decide +kernel
theorem dX8_stop_25 : decode cX8_stop 25 = .ok (.istore_n 2, 1) := by decide +kernel
theorem dX8_stop_26 : decode cX8_stop 26 = .ok (.aload_n 0, 1) := by decide +kernel
theorem dX8_stop_27 : decode cX8_stop 27 = .ok (.getfield 9, 3) := by decide +kernel
theorem dX8_stop_30 : decode cX8_stop 30 = .ok (.iconst 4, 1) := by decide +kernel
theorem dX8_stop_31 : decode cX8_stop 31 = .ok (.iconst 0, 1) := by decide +kernel
theorem dX8_stop_32 : decode cX8_stop 32 = .ok (.iastore, 1) := by decide +kernel
theorem dX8_stop_33 : decode cX8_stop 33 = .ok (.aload_n 0, 1) := by decide +kernel
theorem dX8_stop_34 : decode cX8_stop 34 = .ok (.getfield 9, 3) := by decide +kernel
theorem dX8_stop_37 : decode cX8_stop 37 = .ok (.iconst 5, 1) := by decide +kernel
theorem dX8_stop_38 : decode cX8_stop 38 = .ok (.iload_n 1, 1) := by decide +kernel
theorem dX8_stop_39 : decode cX8_stop 39 = .ok (.iastore, 1) := by decide +kernel
theorem dX8_stop_40 : decode cX8_stop 40 = .ok (.iload_n 2, 1) := by decide +kernel
theorem dX8_stop_41 : decode cX8_stop 41 = .ok (.ireturn, 1) := by decide +kernel
theorem dX8_torqueOf_0 : decode cX8_torqueOf 0 = .ok (.iconst 0, 1) := by decide +kernel
theorem dX8_torqueOf_1 : decode cX8_torqueOf 1 = .ok (.istore_n 2, 1) := by decide +kernel
theorem dX8_torqueOf_2 : decode cX8_torqueOf 2 = .ok (.iconst 0, 1) := by decide +kernel
theorem dX8_torqueOf_3 : decode cX8_torqueOf 3 = .ok (.istore_n 3, 1) := by decide +kernel
theorem dX8_torqueOf_4 : decode cX8_torqueOf 4 = .ok (.iload_n 3, 1) := by decide +kernel
theorem dX8_torqueOf_5 : decode cX8_torqueOf 5 = .ok (.bipush 12, 2) := by decide +kernel
theorem dX8_torqueOf_7 : decode cX8_torqueOf 7 = .ok (.if_icmp .ge 29, 3) := by decide +kernel
theorem dX8_torqueOf_10 : decode cX8_torqueOf 10 = .ok (.iload_n 2, 1) := by decide +kernel
theorem dX8_torqueOf_11 : decode cX8_torqueOf 11 = .ok (.aload_n 1, 1) := by decide +kernel
theorem dX8_torqueOf_12 : decode cX8_torqueOf 12 = .ok (.bipush 20, 2) := by decide +kernel
theorem dX8_torqueOf_14 : decode cX8_torqueOf 14 = .ok (.iload_n 3, 1) := by decide +kernel
theorem dX8_torqueOf_15 : decode cX8_torqueOf 15 = .ok (.iadd, 1) := by decide +kernel
theorem dX8_torqueOf_16 : decode cX8_torqueOf 16 = .ok (.iaload, 1) := by decide +kernel
theorem dX8_torqueOf_17 : decode cX8_torqueOf 17 = .ok (.aload_n 0, 1) := by decide +kernel
theorem dX8_torqueOf_18 : decode cX8_torqueOf 18 = .ok (.getfield 25, 3) := by decide +kernel
theorem dX8_torqueOf_21 : decode cX8_torqueOf 21 = .ok (.aload_n 1, 1) := by decide +kernel
theorem dX8_torqueOf_22 : decode cX8_torqueOf 22 = .ok (.iload_n 3, 1) := by decide +kernel
theorem dX8_torqueOf_23 : decode cX8_torqueOf 23 = .ok (.invokestatic 71, 3) := by decide +kernel
theorem dX8_torqueOf_26 : decode cX8_torqueOf 26 = .ok (.iaload, 1) := by decide +kernel
theorem dX8_torqueOf_27 : decode cX8_torqueOf 27 = .ok (.imul, 1) := by decide +kernel
theorem dX8_torqueOf_28 : decode cX8_torqueOf 28 = .ok (.iadd, 1) := by decide +kernel
theorem dX8_torqueOf_29 : decode cX8_torqueOf 29 = .ok (.istore_n 2, 1) := by decide +kernel
theorem dX8_torqueOf_30 : decode cX8_torqueOf 30 = .ok (.iinc 3 1, 3) := by decide +kernel
theorem dX8_torqueOf_33 : decode cX8_torqueOf 33 = .ok (.goto (-29), 3) := by decide +kernel
theorem dX8_torqueOf_36 : decode cX8_torqueOf 36 = .ok (.iload_n 2, 1) := by decide +kernel
theorem dX8_torqueOf_37 : decode cX8_torqueOf 37 = .ok (.ireturn, 1) := by decide +kernel
theorem dX8_notes_0 : decode cX8_notes 0 = .ok (.aload_n 0, 1) := by decide +kernel
theorem dX8_notes_1 : decode cX8_notes 1 = .ok (.iconst 4, 1) := by decide +kernel
theorem dX8_notes_2 : decode cX8_notes 2 = .ok (.iaload, 1) := by decide +kernel
theorem dX8_notes_3 : decode cX8_notes 3 = .ok (.istore_n 1, 1) := by decide +kernel
theorem dX8_notes_4 : decode cX8_notes 4 = .ok (.iload_n 1, 1) := by decide +kernel
theorem dX8_notes_5 : decode cX8_notes 5 = .ok (.ifCond .ge 8, 3) := by decide +kernel
theorem dX8_notes_8 : decode cX8_notes 8 = .ok (.iload_n 1, 1) := by decide +kernel
theorem dX8_notes_9 : decode cX8_notes 9 = .ok (.ineg, 1) := by decide +kernel
theorem dX8_notes_10 : decode cX8_notes 10 = .ok (.goto 4, 3) := by decide +kernel
theorem dX8_notes_13 : decode cX8_notes 13 = .ok (.iload_n 1, 1) := by decide +kernel
theorem dX8_notes_14 : decode cX8_notes 14 = .ok (.istore_n 2, 1) := by decide +kernel
theorem dX8_notes_15 : decode cX8_notes 15 = .ok (.iload_n 1, 1) := by decide +kernel
theorem dX8_notes_16 : decode cX8_notes 16 = .ok (.ifCond .eq 88, 3) := by decide +kernel
theorem dX8_notes_19 : decode cX8_notes 19 = .ok (.aload_n 0, 1) := by decide +kernel
theorem dX8_notes_20 : decode cX8_notes 20 = .ok (.bipush 6, 2) := by decide +kernel
theorem dX8_notes_22 : decode cX8_notes 22 = .ok (.iaload, 1) := by decide +kernel
theorem dX8_notes_23 : decode cX8_notes 23 = .ok (.ifCond .eq 81, 3) := by decide +kernel
theorem dX8_notes_26 : decode cX8_notes 26 = .ok (.iload_n 1, 1) := by decide +kernel
theorem dX8_notes_27 : decode cX8_notes 27 = .ok (.ifCond .le 7, 3) := by decide +kernel
theorem dX8_notes_30 : decode cX8_notes 30 = .ok (.iconst 1, 1) := by decide +kernel
theorem dX8_notes_31 : decode cX8_notes 31 = .ok (.goto 4, 3) := by decide +kernel
theorem dX8_notes_34 : decode cX8_notes 34 = .ok (.iconst 0, 1) := by decide +kernel
theorem dX8_notes_35 : decode cX8_notes 35 = .ok (.aload_n 0, 1) := by decide +kernel
theorem dX8_notes_36 : decode cX8_notes 36 = .ok (.bipush 6, 2) := by decide +kernel
theorem dX8_notes_38 : decode cX8_notes 38 = .ok (.iaload, 1) := by decide +kernel
theorem dX8_notes_39 : decode cX8_notes 39 = .ok (.ifCond .le 7, 3) := by decide +kernel
theorem dX8_notes_42 : decode cX8_notes 42 = .ok (.iconst 1, 1) := by decide +kernel
theorem dX8_notes_43 : decode cX8_notes 43 = .ok (.goto 4, 3) := by decide +kernel
theorem dX8_notes_46 : decode cX8_notes 46 = .ok (.iconst 0, 1) := by decide +kernel
theorem dX8_notes_47 : decode cX8_notes 47 = .ok (.if_icmp .eq 57, 3) := by decide +kernel
theorem dX8_notes_50 : decode cX8_notes 50 = .ok (.aload_n 0, 1) := by decide +kernel
theorem dX8_notes_51 : decode cX8_notes 51 = .ok (.bipush 10, 2) := by decide +kernel
theorem dX8_notes_53 : decode cX8_notes 53 = .ok (.iaload, 1) := by decide +kernel
theorem dX8_notes_54 : decode cX8_notes 54 = .ok (.bipush 40, 2) := by decide +kernel
theorem dX8_notes_56 : decode cX8_notes 56 = .ok (.if_icmp .ge 35, 3) := by decide +kernel
theorem dX8_notes_59 : decode cX8_notes 59 = .ok (.aload_n 0, 1) := by decide +kernel
theorem dX8_notes_60 : decode cX8_notes 60 = .ok (.bipush 44, 2) := by decide +kernel
theorem dX8_notes_62 : decode cX8_notes 62 = .ok (.iconst 2, 1) := by decide +kernel
theorem dX8_notes_63 : decode cX8_notes 63 = .ok (.aload_n 0, 1) := by decide +kernel
theorem dX8_notes_64 : decode cX8_notes 64 = .ok (.bipush 10, 2) := by decide +kernel
theorem dX8_notes_66 : decode cX8_notes 66 = .ok (.iaload, 1) := by decide +kernel
theorem dX8_notes_67 : decode cX8_notes 67 = .ok (.imul, 1) := by decide +kernel
theorem dX8_notes_68 : decode cX8_notes 68 = .ok (.iadd, 1) := by decide +kernel
theorem dX8_notes_69 : decode cX8_notes 69 = .ok (.aload_n 0, 1) := by decide +kernel
theorem dX8_notes_70 : decode cX8_notes 70 = .ok (.bipush 9, 2) := by decide +kernel
theorem dX8_notes_72 : decode cX8_notes 72 = .ok (.iaload, 1) := by decide +kernel
theorem dX8_notes_73 : decode cX8_notes 73 = .ok (.iastore, 1) := by decide +kernel
theorem dX8_notes_74 : decode cX8_notes 74 = .ok (.aload_n 0, 1) := by decide +kernel
theorem dX8_notes_75 : decode cX8_notes 75 = .ok (.bipush 44, 2) := by decide +kernel
theorem dX8_notes_77 : decode cX8_notes 77 = .ok (.iconst 2, 1) := by decide +kernel
theorem dX8_notes_78 : decode cX8_notes 78 = .ok (.aload_n 0, 1) := by decide +kernel
theorem dX8_notes_79 : decode cX8_notes 79 = .ok (.bipush 10, 2) := by decide +kernel
theorem dX8_notes_81 : decode cX8_notes 81 = .ok (.iaload, 1) := by decide +kernel
theorem dX8_notes_82 : decode cX8_notes 82 = .ok (.imul, 1) := by decide +kernel
theorem dX8_notes_83 : decode cX8_notes 83 = .ok (.iadd, 1) := by decide +kernel
theorem dX8_notes_84 : decode cX8_notes 84 = .ok (.iconst 1, 1) := by decide +kernel
theorem dX8_notes_85 : decode cX8_notes 85 = .ok (.iadd, 1) := by decide +kernel
theorem dX8_notes_86 : decode cX8_notes 86 = .ok (.aload_n 0, 1) := by decide +kernel
theorem dX8_notes_87 : decode cX8_notes 87 = .ok (.bipush 11, 2) := by decide +kernel
theorem dX8_notes_89 : decode cX8_notes 89 = .ok (.iaload, 1) := by decide +kernel
theorem dX8_notes_90 : decode cX8_notes 90 = .ok (.iastore, 1) := by decide +kernel
theorem dX8_notes_91 : decode cX8_notes 91 = .ok (.aload_n 0, 1) := by decide +kernel
theorem dX8_notes_92 : decode cX8_notes 92 = .ok (.bipush 10, 2) := by decide +kernel
theorem dX8_notes_94 : decode cX8_notes 94 = .ok (.dup2, 1) := by decide +kernel
theorem dX8_notes_95 : decode cX8_notes 95 = .ok (.iaload, 1) := by decide +kernel
theorem dX8_notes_96 : decode cX8_notes 96 = .ok (.iconst 1, 1) := by decide +kernel
theorem dX8_notes_97 : decode cX8_notes 97 = .ok (.iadd, 1) := by decide +kernel
theorem dX8_notes_98 : decode cX8_notes 98 = .ok (.iastore, 1) := by decide +kernel
theorem dX8_notes_99 : decode cX8_notes 99 = .ok (.aload_n 0, 1) := by decide +kernel
theorem dX8_notes_100 : decode cX8_notes 100 = .ok (.bipush 11, 2) := by decide +kernel
theorem dX8_notes_102 : decode cX8_notes 102 = .ok (.iconst 0, 1) := by decide +kernel
theorem dX8_notes_103 : decode cX8_notes 103 = .ok (.iastore, 1) := by decide +kernel
theorem dX8_notes_104 : decode cX8_notes 104 = .ok (.aload_n 0, 1) := by decide +kernel
theorem dX8_notes_105 : decode cX8_notes 105 = .ok (.bipush 11, 2) := by decide +kernel
theorem dX8_notes_107 : decode cX8_notes 107 = .ok (.iload_n 2, 1) := by decide +kernel
theorem dX8_notes_108 : decode cX8_notes 108 = .ok (.aload_n 0, 1) := by decide +kernel
theorem dX8_notes_109 : decode cX8_notes 109 = .ok (.bipush 11, 2) := by decide +kernel
theorem dX8_notes_111 : decode cX8_notes 111 = .ok (.iaload, 1) := by decide +kernel
theorem dX8_notes_112 : decode cX8_notes 112 = .ok (.if_icmp .le 7, 3) := by decide +kernel
theorem dX8_notes_115 : decode cX8_notes 115 = .ok (.iload_n 2, 1) := by decide +kernel
theorem dX8_notes_116 : decode cX8_notes 116 = .ok (.goto 7, 3) := by decide +kernel
theorem dX8_notes_119 : decode cX8_notes 119 = .ok (.aload_n 0, 1) := by decide +kernel
theorem dX8_notes_120 : decode cX8_notes 120 = .ok (.bipush 11, 2) := by decide +kernel
theorem dX8_notes_122 : decode cX8_notes 122 = .ok (.iaload, 1) := by decide +kernel
theorem dX8_notes_123 : decode cX8_notes 123 = .ok (.iastore, 1) := by decide +kernel
theorem dX8_notes_124 : decode cX8_notes 124 = .ok (.aload_n 0, 1) := by decide +kernel
theorem dX8_notes_125 : decode cX8_notes 125 = .ok (.bipush 6, 2) := by decide +kernel
theorem dX8_notes_127 : decode cX8_notes 127 = .ok (.iload_n 1, 1) := by decide +kernel
theorem dX8_notes_128 : decode cX8_notes 128 = .ok (.ifCond .ne 10, 3) := by decide +kernel
theorem dX8_notes_131 : decode cX8_notes 131 = .ok (.aload_n 0, 1) := by decide +kernel
theorem dX8_notes_132 : decode cX8_notes 132 = .ok (.bipush 6, 2) := by decide +kernel
theorem dX8_notes_134 : decode cX8_notes 134 = .ok (.iaload, 1) := by decide +kernel
theorem dX8_notes_135 : decode cX8_notes 135 = .ok (.goto 12, 3) := by decide +kernel
theorem dX8_notes_138 : decode cX8_notes 138 = .ok (.iload_n 1, 1) := by decide +kernel
theorem dX8_notes_139 : decode cX8_notes 139 = .ok (.ifCond .le 7, 3) := by decide +kernel
theorem dX8_notes_142 : decode cX8_notes 142 = .ok (.iconst 1, 1) := by decide +kernel
theorem dX8_notes_143 : decode cX8_notes 143 = .ok (.goto 4, 3) := by decide +kernel
theorem dX8_notes_146 : decode cX8_notes 146 = .ok (.iconst (-1), 1) := by decide +kernel
theorem dX8_notes_147 : decode cX8_notes 147 = .ok (.iastore, 1) := by decide +kernel
theorem dX8_notes_148 : decode cX8_notes 148 = .ok (.return_, 1) := by decide +kernel
theorem dX8_goesBy_0 : decode cX8_goesBy 0 = .ok (.iconst 0, 1) := by decide +kernel
theorem dX8_goesBy_1 : decode cX8_goesBy 1 = .ok (.istore_n 2, 1) := by decide +kernel
theorem dX8_goesBy_2 : decode cX8_goesBy 2 = .ok (.iload_n 2, 1) := by decide +kernel
theorem dX8_goesBy_3 : decode cX8_goesBy 3 = .ok (.bipush 12, 2) := by decide +kernel
theorem dX8_goesBy_5 : decode cX8_goesBy 5 = .ok (.if_icmp .ge 78, 3) := by decide +kernel
theorem dX8_goesBy_8 : decode cX8_goesBy 8 = .ok (.aload_n 1, 1) := by decide +kernel
theorem dX8_goesBy_9 : decode cX8_goesBy 9 = .ok (.iload_n 2, 1) := by decide +kernel
theorem dX8_goesBy_10 : decode cX8_goesBy 10 = .ok (.invokestatic 71, 3) := by decide +kernel
theorem dX8_goesBy_13 : decode cX8_goesBy 13 = .ok (.ifCond .ne 64, 3) := by decide +kernel
theorem dX8_goesBy_16 : decode cX8_goesBy 16 = .ok (.aload_n 1, 1) := by decide +kernel
theorem dX8_goesBy_17 : decode cX8_goesBy 17 = .ok (.iload_n 2, 1) := by decide +kernel
theorem dX8_goesBy_18 : decode cX8_goesBy 18 = .ok (.invokestatic 77, 3) := by decide +kernel
theorem dX8_goesBy_21 : decode cX8_goesBy 21 = .ok (.aload_n 1, 1) := by decide +kernel
theorem dX8_goesBy_22 : decode cX8_goesBy 22 = .ok (.bipush 20, 2) := by decide +kernel
theorem dX8_goesBy_24 : decode cX8_goesBy 24 = .ok (.iload_n 2, 1) := by decide +kernel
theorem dX8_goesBy_25 : decode cX8_goesBy 25 = .ok (.iadd, 1) := by decide +kernel
theorem dX8_goesBy_26 : decode cX8_goesBy 26 = .ok (.iaload, 1) := by decide +kernel
theorem dX8_goesBy_27 : decode cX8_goesBy 27 = .ok (.isub, 1) := by decide +kernel
theorem dX8_goesBy_28 : decode cX8_goesBy 28 = .ok (.istore_n 3, 1) := by decide +kernel
theorem dX8_goesBy_29 : decode cX8_goesBy 29 = .ok (.iload_n 3, 1) := by decide +kernel
theorem dX8_goesBy_30 : decode cX8_goesBy 30 = .ok (.ifCond .ge 7, 3) := by decide +kernel
theorem dX8_goesBy_33 : decode cX8_goesBy 33 = .ok (.iconst 0, 1) := by decide +kernel
theorem dX8_goesBy_34 : decode cX8_goesBy 34 = .ok (.goto 17, 3) := by decide +kernel
theorem dX8_goesBy_37 : decode cX8_goesBy 37 = .ok (.iload_n 3, 1) := by decide +kernel
theorem dX8_goesBy_38 : decode cX8_goesBy 38 = .ok (.aload_n 1, 1) := by decide +kernel
theorem dX8_goesBy_39 : decode cX8_goesBy 39 = .ok (.iconst 0, 1) := by decide +kernel
theorem dX8_goesBy_40 : decode cX8_goesBy 40 = .ok (.iaload, 1) := by decide +kernel
theorem dX8_goesBy_41 : decode cX8_goesBy 41 = .ok (.if_icmp .ge 7, 3) := by decide +kernel
theorem dX8_goesBy_44 : decode cX8_goesBy 44 = .ok (.iload_n 3, 1) := by decide +kernel
theorem dX8_goesBy_45 : decode cX8_goesBy 45 = .ok (.goto 6, 3) := by decide +kernel
theorem dX8_goesBy_48 : decode cX8_goesBy 48 = .ok (.aload_n 1, 1) := by decide +kernel
theorem dX8_goesBy_49 : decode cX8_goesBy 49 = .ok (.iconst 0, 1) := by decide +kernel
theorem dX8_goesBy_50 : decode cX8_goesBy 50 = .ok (.iaload, 1) := by decide +kernel
theorem dX8_goesBy_51 : decode cX8_goesBy 51 = .ok (.istore 4, 2) := by decide +kernel
theorem dX8_goesBy_53 : decode cX8_goesBy 53 = .ok (.aload_n 1, 1) := by decide +kernel
theorem dX8_goesBy_54 : decode cX8_goesBy 54 = .ok (.bipush 20, 2) := by decide +kernel
theorem dX8_goesBy_56 : decode cX8_goesBy 56 = .ok (.iload_n 2, 1) := by decide +kernel
theorem dX8_goesBy_57 : decode cX8_goesBy 57 = .ok (.iadd, 1) := by decide +kernel
theorem dX8_goesBy_58 : decode cX8_goesBy 58 = .ok (.dup2, 1) := by decide +kernel
theorem dX8_goesBy_59 : decode cX8_goesBy 59 = .ok (.iaload, 1) := by decide +kernel
theorem dX8_goesBy_60 : decode cX8_goesBy 60 = .ok (.iload 4, 2) := by decide +kernel
theorem dX8_goesBy_62 : decode cX8_goesBy 62 = .ok (.iadd, 1) := by decide +kernel
theorem dX8_goesBy_63 : decode cX8_goesBy 63 = .ok (.iastore, 1) := by decide +kernel
theorem dX8_goesBy_64 : decode cX8_goesBy 64 = .ok (.aload_n 1, 1) := by decide +kernel
theorem dX8_goesBy_65 : decode cX8_goesBy 65 = .ok (.bipush 7, 2) := by decide +kernel
theorem dX8_goesBy_67 : decode cX8_goesBy 67 = .ok (.dup2, 1) := by decide +kernel
theorem dX8_goesBy_68 : decode cX8_goesBy 68 = .ok (.iaload, 1) := by decide +kernel
theorem dX8_goesBy_69 : decode cX8_goesBy 69 = .ok (.aload_n 1, 1) := by decide +kernel
theorem dX8_goesBy_70 : decode cX8_goesBy 70 = .ok (.iconst 0, 1) := by decide +kernel
theorem dX8_goesBy_71 : decode cX8_goesBy 71 = .ok (.iaload, 1) := by decide +kernel
theorem dX8_goesBy_72 : decode cX8_goesBy 72 = .ok (.iload 4, 2) := by decide +kernel
theorem dX8_goesBy_74 : decode cX8_goesBy 74 = .ok (.isub, 1) := by decide +kernel
theorem dX8_goesBy_75 : decode cX8_goesBy 75 = .ok (.iadd, 1) := by decide +kernel
theorem dX8_goesBy_76 : decode cX8_goesBy 76 = .ok (.iastore, 1) := by decide +kernel
theorem dX8_goesBy_77 : decode cX8_goesBy 77 = .ok (.iinc 2 1, 3) := by decide +kernel
theorem dX8_goesBy_80 : decode cX8_goesBy 80 = .ok (.goto (-78), 3) := by decide +kernel
theorem dX8_goesBy_83 : decode cX8_goesBy 83 = .ok (.iconst 0, 1) := by decide +kernel
theorem dX8_goesBy_84 : decode cX8_goesBy 84 = .ok (.istore_n 2, 1) := by decide +kernel
theorem dX8_goesBy_85 : decode cX8_goesBy 85 = .ok (.iload_n 2, 1) := by decide +kernel
theorem dX8_goesBy_86 : decode cX8_goesBy 86 = .ok (.bipush 12, 2) := by decide +kernel
theorem dX8_goesBy_88 : decode cX8_goesBy 88 = .ok (.if_icmp .ge 105, 3) := by decide +kernel
theorem dX8_goesBy_91 : decode cX8_goesBy 91 = .ok (.aload_n 1, 1) := by decide +kernel
theorem dX8_goesBy_92 : decode cX8_goesBy 92 = .ok (.iload_n 2, 1) := by decide +kernel
theorem dX8_goesBy_93 : decode cX8_goesBy 93 = .ok (.invokestatic 80, 3) := by decide +kernel
theorem dX8_goesBy_96 : decode cX8_goesBy 96 = .ok (.istore_n 3, 1) := by decide +kernel
theorem dX8_goesBy_97 : decode cX8_goesBy 97 = .ok (.aload_n 1, 1) := by decide +kernel
theorem dX8_goesBy_98 : decode cX8_goesBy 98 = .ok (.bipush 20, 2) := by decide +kernel
theorem dX8_goesBy_100 : decode cX8_goesBy 100 = .ok (.iload_n 2, 1) := by decide +kernel
theorem dX8_goesBy_101 : decode cX8_goesBy 101 = .ok (.iadd, 1) := by decide +kernel
theorem dX8_goesBy_102 : decode cX8_goesBy 102 = .ok (.dup2, 1) := by decide +kernel
theorem dX8_goesBy_103 : decode cX8_goesBy 103 = .ok (.iaload, 1) := by decide +kernel
theorem dX8_goesBy_104 : decode cX8_goesBy 104 = .ok (.iload_n 3, 1) := by decide +kernel
theorem dX8_goesBy_105 : decode cX8_goesBy 105 = .ok (.isub, 1) := by decide +kernel
theorem dX8_goesBy_106 : decode cX8_goesBy 106 = .ok (.iastore, 1) := by decide +kernel
theorem dX8_goesBy_107 : decode cX8_goesBy 107 = .ok (.aload_n 1, 1) := by decide +kernel
theorem dX8_goesBy_108 : decode cX8_goesBy 108 = .ok (.bipush 8, 2) := by decide +kernel
theorem dX8_goesBy_110 : decode cX8_goesBy 110 = .ok (.dup2, 1) := by decide +kernel
theorem dX8_goesBy_111 : decode cX8_goesBy 111 = .ok (.iaload, 1) := by decide +kernel
theorem dX8_goesBy_112 : decode cX8_goesBy 112 = .ok (.iload_n 3, 1) := by decide +kernel
theorem dX8_goesBy_113 : decode cX8_goesBy 113 = .ok (.iadd, 1) := by decide +kernel
theorem dX8_goesBy_114 : decode cX8_goesBy 114 = .ok (.iastore, 1) := by decide +kernel
theorem dX8_goesBy_115 : decode cX8_goesBy 115 = .ok (.iload_n 2, 1) := by decide +kernel
theorem dX8_goesBy_116 : decode cX8_goesBy 116 = .ok (.iconst 1, 1) := by decide +kernel
theorem dX8_goesBy_117 : decode cX8_goesBy 117 = .ok (.iadd, 1) := by decide +kernel
theorem dX8_goesBy_118 : decode cX8_goesBy 118 = .ok (.bipush 12, 2) := by decide +kernel
theorem dX8_goesBy_120 : decode cX8_goesBy 120 = .ok (.irem, 1) := by decide +kernel
theorem dX8_goesBy_121 : decode cX8_goesBy 121 = .ok (.istore 4, 2) := by decide +kernel
theorem dX8_goesBy_123 : decode cX8_goesBy 123 = .ok (.aload_n 1, 1) := by decide +kernel
theorem dX8_goesBy_124 : decode cX8_goesBy 124 = .ok (.bipush 32, 2) := by decide +kernel
theorem dX8_goesBy_126 : decode cX8_goesBy 126 = .ok (.iload_n 2, 1) := by decide +kernel
theorem dX8_goesBy_127 : decode cX8_goesBy 127 = .ok (.iadd, 1) := by decide +kernel
theorem dX8_goesBy_128 : decode cX8_goesBy 128 = .ok (.iaload, 1) := by decide +kernel
theorem dX8_goesBy_129 : decode cX8_goesBy 129 = .ok (.bipush 6, 2) := by decide +kernel
theorem dX8_goesBy_131 : decode cX8_goesBy 131 = .ok (.if_icmp .ne 56, 3) := by decide +kernel
theorem dX8_goesBy_134 : decode cX8_goesBy 134 = .ok (.aload_n 1, 1) := by decide +kernel
theorem dX8_goesBy_135 : decode cX8_goesBy 135 = .ok (.bipush 20, 2) := by decide +kernel
theorem dX8_goesBy_137 : decode cX8_goesBy 137 = .ok (.iload_n 2, 1) := by decide +kernel
theorem dX8_goesBy_138 : decode cX8_goesBy 138 = .ok (.iadd, 1) := by decide +kernel
theorem dX8_goesBy_139 : decode cX8_goesBy 139 = .ok (.iaload, 1) := by decide +kernel
theorem dX8_goesBy_140 : decode cX8_goesBy 140 = .ok (.aload_n 1, 1) := by decide +kernel
theorem dX8_goesBy_141 : decode cX8_goesBy 141 = .ok (.bipush 20, 2) := by decide +kernel
theorem dX8_goesBy_143 : decode cX8_goesBy 143 = .ok (.iload 4, 2) := by decide +kernel
theorem dX8_goesBy_145 : decode cX8_goesBy 145 = .ok (.iadd, 1) := by decide +kernel
theorem dX8_goesBy_146 : decode cX8_goesBy 146 = .ok (.iaload, 1) := by decide +kernel
theorem dX8_goesBy_147 : decode cX8_goesBy 147 = .ok (.if_icmp .le 40, 3) := by decide +kernel
theorem dX8_goesBy_150 : decode cX8_goesBy 150 = .ok (.aload_n 1, 1) := by decide +kernel
theorem dX8_goesBy_151 : decode cX8_goesBy 151 = .ok (.bipush 20, 2) := by decide +kernel
theorem dX8_goesBy_153 : decode cX8_goesBy 153 = .ok (.iload 4, 2) := by decide +kernel
theorem dX8_goesBy_155 : decode cX8_goesBy 155 = .ok (.iadd, 1) := by decide +kernel
theorem dX8_goesBy_156 : decode cX8_goesBy 156 = .ok (.iaload, 1) := by decide +kernel
theorem dX8_goesBy_157 : decode cX8_goesBy 157 = .ok (.aload_n 1, 1) := by decide +kernel
theorem dX8_goesBy_158 : decode cX8_goesBy 158 = .ok (.iload 4, 2) := by decide +kernel
theorem dX8_goesBy_160 : decode cX8_goesBy 160 = .ok (.invokestatic 77, 3) := by decide +kernel
theorem dX8_goesBy_163 : decode cX8_goesBy 163 = .ok (.if_icmp .ge 24, 3) := by decide +kernel
theorem dX8_goesBy_166 : decode cX8_goesBy 166 = .ok (.aload_n 1, 1) := by decide +kernel
theorem dX8_goesBy_167 : decode cX8_goesBy 167 = .ok (.bipush 20, 2) := by decide +kernel
theorem dX8_goesBy_169 : decode cX8_goesBy 169 = .ok (.iload_n 2, 1) := by decide +kernel
theorem dX8_goesBy_170 : decode cX8_goesBy 170 = .ok (.iadd, 1) := by decide +kernel
theorem dX8_goesBy_171 : decode cX8_goesBy 171 = .ok (.dup2, 1) := by decide +kernel
theorem dX8_goesBy_172 : decode cX8_goesBy 172 = .ok (.iaload, 1) := by decide +kernel
theorem dX8_goesBy_173 : decode cX8_goesBy 173 = .ok (.iconst 1, 1) := by decide +kernel
theorem dX8_goesBy_174 : decode cX8_goesBy 174 = .ok (.isub, 1) := by decide +kernel
theorem dX8_goesBy_175 : decode cX8_goesBy 175 = .ok (.iastore, 1) := by decide +kernel
theorem dX8_goesBy_176 : decode cX8_goesBy 176 = .ok (.aload_n 1, 1) := by decide +kernel
theorem dX8_goesBy_177 : decode cX8_goesBy 177 = .ok (.bipush 20, 2) := by decide +kernel
theorem dX8_goesBy_179 : decode cX8_goesBy 179 = .ok (.iload 4, 2) := by decide +kernel
theorem dX8_goesBy_181 : decode cX8_goesBy 181 = .ok (.iadd, 1) := by decide +kernel
theorem dX8_goesBy_182 : decode cX8_goesBy 182 = .ok (.dup2, 1) := by decide +kernel
theorem dX8_goesBy_183 : decode cX8_goesBy 183 = .ok (.iaload, 1) := by decide +kernel
theorem dX8_goesBy_184 : decode cX8_goesBy 184 = .ok (.iconst 1, 1) := by decide +kernel
theorem dX8_goesBy_185 : decode cX8_goesBy 185 = .ok (.iadd, 1) := by decide +kernel
theorem dX8_goesBy_186 : decode cX8_goesBy 186 = .ok (.iastore, 1) := by decide +kernel
theorem dX8_goesBy_187 : decode cX8_goesBy 187 = .ok (.iinc 2 1, 3) := by decide +kernel
theorem dX8_goesBy_190 : decode cX8_goesBy 190 = .ok (.goto (-105), 3) := by decide +kernel
theorem dX8_goesBy_193 : decode cX8_goesBy 193 = .ok (.aload_n 1, 1) := by decide +kernel
theorem dX8_goesBy_194 : decode cX8_goesBy 194 = .ok (.iconst 4, 1) := by decide +kernel
theorem dX8_goesBy_195 : decode cX8_goesBy 195 = .ok (.iaload, 1) := by decide +kernel
theorem dX8_goesBy_196 : decode cX8_goesBy 196 = .ok (.aload_n 0, 1) := by decide +kernel
theorem dX8_goesBy_197 : decode cX8_goesBy 197 = .ok (.aload_n 1, 1) := by decide +kernel
theorem dX8_goesBy_198 : decode cX8_goesBy 198 = .ok (.invokevirtual 100, 3) := by decide +kernel
theorem dX8_goesBy_201 : decode cX8_goesBy 201 = .ok (.bipush 100, 2) := by decide +kernel
theorem dX8_goesBy_203 : decode cX8_goesBy 203 = .ok (.aload_n 1, 1) := by decide +kernel
theorem dX8_goesBy_204 : decode cX8_goesBy 204 = .ok (.iconst 3, 1) := by decide +kernel
theorem dX8_goesBy_205 : decode cX8_goesBy 205 = .ok (.iaload, 1) := by decide +kernel
theorem dX8_goesBy_206 : decode cX8_goesBy 206 = .ok (.imul, 1) := by decide +kernel
theorem dX8_goesBy_207 : decode cX8_goesBy 207 = .ok (.idiv, 1) := by decide +kernel
theorem dX8_goesBy_208 : decode cX8_goesBy 208 = .ok (.iadd, 1) := by decide +kernel
theorem dX8_goesBy_209 : decode cX8_goesBy 209 = .ok (.istore_n 2, 1) := by decide +kernel
theorem dX8_goesBy_210 : decode cX8_goesBy 210 = .ok (.aload_n 1, 1) := by decide +kernel
theorem dX8_goesBy_211 : decode cX8_goesBy 211 = .ok (.iconst 4, 1) := by decide +kernel
theorem dX8_goesBy_212 : decode cX8_goesBy 212 = .ok (.iload_n 2, 1) := by decide +kernel
theorem dX8_goesBy_213 : decode cX8_goesBy 213 = .ok (.iload_n 2, 1) := by decide +kernel
theorem dX8_goesBy_214 : decode cX8_goesBy 214 = .ok (.aload_n 1, 1) := by decide +kernel
theorem dX8_goesBy_215 : decode cX8_goesBy 215 = .ok (.iconst 2, 1) := by decide +kernel
theorem dX8_goesBy_216 : decode cX8_goesBy 216 = .ok (.iaload, 1) := by decide +kernel
theorem dX8_goesBy_217 : decode cX8_goesBy 217 = .ok (.imul, 1) := by decide +kernel
theorem dX8_goesBy_218 : decode cX8_goesBy 218 = .ok (.bipush 100, 2) := by decide +kernel
theorem dX8_goesBy_220 : decode cX8_goesBy 220 = .ok (.idiv, 1) := by decide +kernel
theorem dX8_goesBy_221 : decode cX8_goesBy 221 = .ok (.isub, 1) := by decide +kernel
theorem dX8_goesBy_222 : decode cX8_goesBy 222 = .ok (.i2l, 1) := by decide +kernel
theorem dX8_goesBy_223 : decode cX8_goesBy 223 = .ok (.sipush (-600), 3) := by decide +kernel
theorem dX8_goesBy_226 : decode cX8_goesBy 226 = .ok (.sipush 600, 3) := by decide +kernel
theorem dX8_goesBy_229 : decode cX8_goesBy 229 = .ok (.invokestatic 86, 3) := by decide +kernel
theorem dX8_goesBy_232 : decode cX8_goesBy 232 = .ok (.iastore, 1) := by decide +kernel
theorem dX8_goesBy_233 : decode cX8_goesBy 233 = .ok (.aload_n 1, 1) := by decide +kernel
theorem dX8_goesBy_234 : decode cX8_goesBy 234 = .ok (.iconst 5, 1) := by decide +kernel
theorem dX8_goesBy_235 : decode cX8_goesBy 235 = .ok (.aload_n 1, 1) := by decide +kernel
theorem dX8_goesBy_236 : decode cX8_goesBy 236 = .ok (.iconst 5, 1) := by decide +kernel
theorem dX8_goesBy_237 : decode cX8_goesBy 237 = .ok (.iaload, 1) := by decide +kernel
theorem dX8_goesBy_238 : decode cX8_goesBy 238 = .ok (.aload_n 1, 1) := by decide +kernel
theorem dX8_goesBy_239 : decode cX8_goesBy 239 = .ok (.iconst 4, 1) := by decide +kernel
theorem dX8_goesBy_240 : decode cX8_goesBy 240 = .ok (.iaload, 1) := by decide +kernel
theorem dX8_goesBy_241 : decode cX8_goesBy 241 = .ok (.iadd, 1) := by decide +kernel
theorem dX8_goesBy_242 : decode cX8_goesBy 242 = .ok (.sipush 1200, 3) := by decide +kernel
theorem dX8_goesBy_245 : decode cX8_goesBy 245 = .ok (.iadd, 1) := by decide +kernel
theorem dX8_goesBy_246 : decode cX8_goesBy 246 = .ok (.sipush 1200, 3) := by decide +kernel
theorem dX8_goesBy_249 : decode cX8_goesBy 249 = .ok (.irem, 1) := by decide +kernel
theorem dX8_goesBy_250 : decode cX8_goesBy 250 = .ok (.iastore, 1) := by decide +kernel
theorem dX8_goesBy_251 : decode cX8_goesBy 251 = .ok (.aload_n 1, 1) := by decide +kernel
theorem dX8_goesBy_252 : decode cX8_goesBy 252 = .ok (.bipush 9, 2) := by decide +kernel
theorem dX8_goesBy_254 : decode cX8_goesBy 254 = .ok (.dup2, 1) := by decide +kernel
theorem dX8_goesBy_255 : decode cX8_goesBy 255 = .ok (.iaload, 1) := by decide +kernel
theorem dX8_goesBy_256 : decode cX8_goesBy 256 = .ok (.iconst 1, 1) := by decide +kernel
theorem dX8_goesBy_257 : decode cX8_goesBy 257 = .ok (.iadd, 1) := by decide +kernel
theorem dX8_goesBy_258 : decode cX8_goesBy 258 = .ok (.iastore, 1) := by decide +kernel
theorem dX8_goesBy_259 : decode cX8_goesBy 259 = .ok (.aload_n 1, 1) := by decide +kernel
theorem dX8_goesBy_260 : decode cX8_goesBy 260 = .ok (.invokestatic 104, 3) := by decide +kernel
theorem dX8_goesBy_263 : decode cX8_goesBy 263 = .ok (.return_, 1) := by decide +kernel
theorem dX8_goesOn_0 : decode cX8_goesOn 0 = .ok (.iconst 0, 1) := by decide +kernel
theorem dX8_goesOn_1 : decode cX8_goesOn 1 = .ok (.istore_n 3, 1) := by decide +kernel
theorem dX8_goesOn_2 : decode cX8_goesOn 2 = .ok (.iload_n 3, 1) := by decide +kernel
theorem dX8_goesOn_3 : decode cX8_goesOn 3 = .ok (.iload_n 2, 1) := by decide +kernel
theorem dX8_goesOn_4 : decode cX8_goesOn 4 = .ok (.if_icmp .ge 14, 3) := by decide +kernel
theorem dX8_goesOn_7 : decode cX8_goesOn 7 = .ok (.aload_n 0, 1) := by decide +kernel
theorem dX8_goesOn_8 : decode cX8_goesOn 8 = .ok (.aload_n 1, 1) := by decide +kernel
theorem dX8_goesOn_9 : decode cX8_goesOn 9 = .ok (.invokevirtual 108, 3) := by decide +kernel
theorem dX8_goesOn_12 : decode cX8_goesOn 12 = .ok (.iinc 3 1, 3) := by decide +kernel
theorem dX8_goesOn_15 : decode cX8_goesOn 15 = .ok (.goto (-13), 3) := by decide +kernel
theorem dX8_goesOn_18 : decode cX8_goesOn 18 = .ok (.return_, 1) := by decide +kernel
theorem dX8_tick_0 : decode cX8_tick 0 = .ok (.iload_n 1, 1) := by decide +kernel
theorem dX8_tick_1 : decode cX8_tick 1 = .ok (.i2l, 1) := by decide +kernel
theorem dX8_tick_2 : decode cX8_tick 2 = .ok (.lconst 1, 1) := by decide +kernel
theorem dX8_tick_3 : decode cX8_tick 3 = .ok (.ldc2_w 111, 3) := by decide +kernel
theorem dX8_tick_6 : decode cX8_tick 6 = .ok (.invokestatic 49, 3) := by decide +kernel
theorem dX8_tick_9 : decode cX8_tick 9 = .ok (.ifCond .ne 10, 3) := by decide +kernel
theorem dX8_tick_12 : decode cX8_tick 12 = .ok (.aload_n 0, 1) := by decide +kernel
theorem dX8_tick_13 : decode cX8_tick 13 = .ok (.ldc 46, 2) := by decide +kernel
theorem dX8_tick_15 : decode cX8_tick 15 = .ok (.invokevirtual 61, 3) := by decide +kernel
theorem dX8_tick_18 : decode cX8_tick 18 = .ok (.ireturn, 1) := by decide +kernel
theorem dX8_tick_19 : decode cX8_tick 19 = .ok (.aload_n 0, 1) := by decide +kernel
theorem dX8_tick_20 : decode cX8_tick 20 = .ok (.aload_n 0, 1) := by decide +kernel
theorem dX8_tick_21 : decode cX8_tick 21 = .ok (.getfield 9, 3) := by decide +kernel
theorem dX8_tick_24 : decode cX8_tick 24 = .ok (.iload_n 1, 1) := by decide +kernel
theorem dX8_tick_25 : decode cX8_tick 25 = .ok (.invokevirtual 113, 3) := by decide +kernel
theorem dX8_tick_28 : decode cX8_tick 28 = .ok (.aload_n 0, 1) := by decide +kernel
theorem dX8_tick_29 : decode cX8_tick 29 = .ok (.getfield 9, 3) := by decide +kernel
theorem dX8_tick_32 : decode cX8_tick 32 = .ok (.iconst 4, 1) := by decide +kernel
theorem dX8_tick_33 : decode cX8_tick 33 = .ok (.iaload, 1) := by decide +kernel
theorem dX8_tick_34 : decode cX8_tick 34 = .ok (.ireturn, 1) := by decide +kernel
theorem dX8_allWater_0 : decode cX8_allWater 0 = .ok (.iconst 0, 1) := by decide +kernel
theorem dX8_allWater_1 : decode cX8_allWater 1 = .ok (.istore_n 1, 1) := by decide +kernel
theorem dX8_allWater_2 : decode cX8_allWater 2 = .ok (.iconst 0, 1) := by decide +kernel
theorem dX8_allWater_3 : decode cX8_allWater 3 = .ok (.istore_n 2, 1) := by decide +kernel
theorem dX8_allWater_4 : decode cX8_allWater 4 = .ok (.iload_n 2, 1) := by decide +kernel
theorem dX8_allWater_5 : decode cX8_allWater 5 = .ok (.bipush 12, 2) := by decide +kernel
theorem dX8_allWater_7 : decode cX8_allWater 7 = .ok (.if_icmp .ge 18, 3) := by decide +kernel
theorem dX8_allWater_10 : decode cX8_allWater 10 = .ok (.iload_n 1, 1) := by decide +kernel
theorem dX8_allWater_11 : decode cX8_allWater 11 = .ok (.aload_n 0, 1) := by decide +kernel
theorem dX8_allWater_12 : decode cX8_allWater 12 = .ok (.bipush 20, 2) := by decide +kernel
theorem dX8_allWater_14 : decode cX8_allWater 14 = .ok (.iload_n 2, 1) := by decide +kernel
theorem dX8_allWater_15 : decode cX8_allWater 15 = .ok (.iadd, 1) := by decide +kernel
theorem dX8_allWater_16 : decode cX8_allWater 16 = .ok (.iaload, 1) := by decide +kernel
theorem dX8_allWater_17 : decode cX8_allWater 17 = .ok (.iadd, 1) := by decide +kernel
theorem dX8_allWater_18 : decode cX8_allWater 18 = .ok (.istore_n 1, 1) := by decide +kernel
theorem dX8_allWater_19 : decode cX8_allWater 19 = .ok (.iinc 2 1, 3) := by decide +kernel
theorem dX8_allWater_22 : decode cX8_allWater 22 = .ok (.goto (-18), 3) := by decide +kernel
theorem dX8_allWater_25 : decode cX8_allWater 25 = .ok (.iload_n 1, 1) := by decide +kernel
theorem dX8_allWater_26 : decode cX8_allWater 26 = .ok (.ireturn, 1) := by decide +kernel
theorem dX8_now_0 : decode cX8_now 0 = .ok (.iload_n 1, 1) := by decide +kernel
theorem dX8_now_1 : decode cX8_now 1 = .ok (.tableswitch 117 0 7 #[47, 54, 61, 69, 77, 85, 93, 101], 47) := by decide +kernel
theorem dX8_now_48 : decode cX8_now 48 = .ok (.aload_n 0, 1) := by decide +kernel
theorem dX8_now_49 : decode cX8_now 49 = .ok (.getfield 9, 3) := by decide +kernel
theorem dX8_now_52 : decode cX8_now 52 = .ok (.iconst 4, 1) := by decide +kernel
theorem dX8_now_53 : decode cX8_now 53 = .ok (.iaload, 1) := by decide +kernel
theorem dX8_now_54 : decode cX8_now 54 = .ok (.ireturn, 1) := by decide +kernel
theorem dX8_now_55 : decode cX8_now 55 = .ok (.aload_n 0, 1) := by decide +kernel
theorem dX8_now_56 : decode cX8_now 56 = .ok (.getfield 9, 3) := by decide +kernel
theorem dX8_now_59 : decode cX8_now 59 = .ok (.iconst 5, 1) := by decide +kernel
theorem dX8_now_60 : decode cX8_now 60 = .ok (.iaload, 1) := by decide +kernel
theorem dX8_now_61 : decode cX8_now 61 = .ok (.ireturn, 1) := by decide +kernel
theorem dX8_now_62 : decode cX8_now 62 = .ok (.aload_n 0, 1) := by decide +kernel
theorem dX8_now_63 : decode cX8_now 63 = .ok (.getfield 9, 3) := by decide +kernel
theorem dX8_now_66 : decode cX8_now 66 = .ok (.bipush 6, 2) := by decide +kernel
theorem dX8_now_68 : decode cX8_now 68 = .ok (.iaload, 1) := by decide +kernel
theorem dX8_now_69 : decode cX8_now 69 = .ok (.ireturn, 1) := by decide +kernel
theorem dX8_now_70 : decode cX8_now 70 = .ok (.aload_n 0, 1) := by decide +kernel
theorem dX8_now_71 : decode cX8_now 71 = .ok (.getfield 9, 3) := by decide +kernel
theorem dX8_now_74 : decode cX8_now 74 = .ok (.invokestatic 116, 3) := by decide +kernel
theorem dX8_now_77 : decode cX8_now 77 = .ok (.ireturn, 1) := by decide +kernel
theorem dX8_now_78 : decode cX8_now 78 = .ok (.aload_n 0, 1) := by decide +kernel
theorem dX8_now_79 : decode cX8_now 79 = .ok (.getfield 9, 3) := by decide +kernel
theorem dX8_now_82 : decode cX8_now 82 = .ok (.bipush 7, 2) := by decide +kernel
theorem dX8_now_84 : decode cX8_now 84 = .ok (.iaload, 1) := by decide +kernel
theorem dX8_now_85 : decode cX8_now 85 = .ok (.ireturn, 1) := by decide +kernel
theorem dX8_now_86 : decode cX8_now 86 = .ok (.aload_n 0, 1) := by decide +kernel
theorem dX8_now_87 : decode cX8_now 87 = .ok (.getfield 9, 3) := by decide +kernel
theorem dX8_now_90 : decode cX8_now 90 = .ok (.bipush 8, 2) := by decide +kernel
theorem dX8_now_92 : decode cX8_now 92 = .ok (.iaload, 1) := by decide +kernel
theorem dX8_now_93 : decode cX8_now 93 = .ok (.ireturn, 1) := by decide +kernel
theorem dX8_now_94 : decode cX8_now 94 = .ok (.aload_n 0, 1) := by decide +kernel
theorem dX8_now_95 : decode cX8_now 95 = .ok (.getfield 9, 3) := by decide +kernel
theorem dX8_now_98 : decode cX8_now 98 = .ok (.bipush 9, 2) := by decide +kernel
theorem dX8_now_100 : decode cX8_now 100 = .ok (.iaload, 1) := by decide +kernel
theorem dX8_now_101 : decode cX8_now 101 = .ok (.ireturn, 1) := by decide +kernel
theorem dX8_now_102 : decode cX8_now 102 = .ok (.bipush 12, 2) := by decide +kernel
theorem dX8_now_104 : decode cX8_now 104 = .ok (.aload_n 0, 1) := by decide +kernel
theorem dX8_now_105 : decode cX8_now 105 = .ok (.getfield 9, 3) := by decide +kernel
theorem dX8_now_108 : decode cX8_now 108 = .ok (.iconst 5, 1) := by decide +kernel
theorem dX8_now_109 : decode cX8_now 109 = .ok (.iaload, 1) := by decide +kernel
theorem dX8_now_110 : decode cX8_now 110 = .ok (.bipush 100, 2) := by decide +kernel
theorem dX8_now_112 : decode cX8_now 112 = .ok (.idiv, 1) := by decide +kernel
theorem dX8_now_113 : decode cX8_now 113 = .ok (.isub, 1) := by decide +kernel
theorem dX8_now_114 : decode cX8_now 114 = .ok (.bipush 12, 2) := by decide +kernel
theorem dX8_now_116 : decode cX8_now 116 = .ok (.irem, 1) := by decide +kernel
theorem dX8_now_117 : decode cX8_now 117 = .ok (.ireturn, 1) := by decide +kernel
theorem dX8_now_118 : decode cX8_now 118 = .ok (.aload_n 0, 1) := by decide +kernel
theorem dX8_now_119 : decode cX8_now 119 = .ok (.ldc 46, 2) := by decide +kernel
theorem dX8_now_121 : decode cX8_now 121 = .ok (.invokevirtual 61, 3) := by decide +kernel
theorem dX8_now_124 : decode cX8_now 124 = .ok (.ireturn, 1) := by decide +kernel
theorem dX8_torque_0 : decode cX8_torque 0 = .ok (.aload_n 0, 1) := by decide +kernel
theorem dX8_torque_1 : decode cX8_torque 1 = .ok (.aload_n 0, 1) := by decide +kernel
theorem dX8_torque_2 : decode cX8_torque 2 = .ok (.getfield 9, 3) := by decide +kernel
theorem dX8_torque_5 : decode cX8_torque 5 = .ok (.invokevirtual 100, 3) := by decide +kernel
theorem dX8_torque_8 : decode cX8_torque 8 = .ok (.ireturn, 1) := by decide +kernel
theorem dX8_logged_0 : decode cX8_logged 0 = .ok (.aload_n 0, 1) := by decide +kernel
theorem dX8_logged_1 : decode cX8_logged 1 = .ok (.getfield 9, 3) := by decide +kernel
theorem dX8_logged_4 : decode cX8_logged 4 = .ok (.bipush 10, 2) := by decide +kernel
theorem dX8_logged_6 : decode cX8_logged 6 = .ok (.iaload, 1) := by decide +kernel
theorem dX8_logged_7 : decode cX8_logged 7 = .ok (.bipush 40, 2) := by decide +kernel
theorem dX8_logged_9 : decode cX8_logged 9 = .ok (.if_icmp .ge 13, 3) := by decide +kernel
theorem dX8_logged_12 : decode cX8_logged 12 = .ok (.aload_n 0, 1) := by decide +kernel
theorem dX8_logged_13 : decode cX8_logged 13 = .ok (.getfield 9, 3) := by decide +kernel
theorem dX8_logged_16 : decode cX8_logged 16 = .ok (.bipush 10, 2) := by decide +kernel
theorem dX8_logged_18 : decode cX8_logged 18 = .ok (.iaload, 1) := by decide +kernel
theorem dX8_logged_19 : decode cX8_logged 19 = .ok (.goto 5, 3) := by decide +kernel
theorem dX8_logged_22 : decode cX8_logged 22 = .ok (.bipush 40, 2) := by decide +kernel
theorem dX8_logged_24 : decode cX8_logged 24 = .ok (.ireturn, 1) := by decide +kernel
theorem dX8_peak_0 : decode cX8_peak 0 = .ok (.aload_n 0, 1) := by decide +kernel
theorem dX8_peak_1 : decode cX8_peak 1 = .ok (.getfield 9, 3) := by decide +kernel
theorem dX8_peak_4 : decode cX8_peak 4 = .ok (.bipush 44, 2) := by decide +kernel
theorem dX8_peak_6 : decode cX8_peak 6 = .ok (.iconst 2, 1) := by decide +kernel
theorem dX8_peak_7 : decode cX8_peak 7 = .ok (.iload_n 1, 1) := by decide +kernel
theorem dX8_peak_8 : decode cX8_peak 8 = .ok (.imul, 1) := by decide +kernel
theorem dX8_peak_9 : decode cX8_peak 9 = .ok (.iadd, 1) := by decide +kernel
theorem dX8_peak_10 : decode cX8_peak 10 = .ok (.iconst 1, 1) := by decide +kernel
theorem dX8_peak_11 : decode cX8_peak 11 = .ok (.iadd, 1) := by decide +kernel
theorem dX8_peak_12 : decode cX8_peak 12 = .ok (.iaload, 1) := by decide +kernel
theorem dX8_peak_13 : decode cX8_peak 13 = .ok (.ireturn, 1) := by decide +kernel
theorem dX8_turn_0 : decode cX8_turn 0 = .ok (.iload_n 1, 1) := by decide +kernel
theorem dX8_turn_1 : decode cX8_turn 1 = .ok (.i2l, 1) := by decide +kernel
theorem dX8_turn_2 : decode cX8_turn 2 = .ok (.lconst 0, 1) := by decide +kernel
theorem dX8_turn_3 : decode cX8_turn 3 = .ok (.aload_n 0, 1) := by decide +kernel
theorem dX8_turn_4 : decode cX8_turn 4 = .ok (.invokevirtual 119, 3) := by decide +kernel
theorem dX8_turn_7 : decode cX8_turn 7 = .ok (.iconst 1, 1) := by decide +kernel
theorem dX8_turn_8 : decode cX8_turn 8 = .ok (.isub, 1) := by decide +kernel
theorem dX8_turn_9 : decode cX8_turn 9 = .ok (.i2l, 1) := by decide +kernel
theorem dX8_turn_10 : decode cX8_turn 10 = .ok (.invokestatic 49, 3) := by decide +kernel
theorem dX8_turn_13 : decode cX8_turn 13 = .ok (.ifCond .eq 29, 3) := by decide +kernel
theorem dX8_turn_16 : decode cX8_turn 16 = .ok (.iload_n 2, 1) := by decide +kernel
theorem dX8_turn_17 : decode cX8_turn 17 = .ok (.i2l, 1) := by decide +kernel
theorem dX8_turn_18 : decode cX8_turn 18 = .ok (.lconst 0, 1) := by decide +kernel
theorem dX8_turn_19 : decode cX8_turn 19 = .ok (.lconst 1, 1) := by decide +kernel
theorem dX8_turn_20 : decode cX8_turn 20 = .ok (.invokestatic 49, 3) := by decide +kernel
theorem dX8_turn_23 : decode cX8_turn 23 = .ok (.ifCond .eq 19, 3) := by decide +kernel
theorem dX8_turn_26 : decode cX8_turn 26 = .ok (.aload_n 0, 1) := by decide +kernel
theorem dX8_turn_27 : decode cX8_turn 27 = .ok (.getfield 9, 3) := by decide +kernel
theorem dX8_turn_30 : decode cX8_turn 30 = .ok (.bipush 44, 2) := by decide +kernel
theorem dX8_turn_32 : decode cX8_turn 32 = .ok (.iconst 2, 1) := by decide +kernel
theorem dX8_turn_33 : decode cX8_turn 33 = .ok (.iload_n 1, 1) := by decide +kernel
theorem dX8_turn_34 : decode cX8_turn 34 = .ok (.imul, 1) := by decide +kernel
theorem dX8_turn_35 : decode cX8_turn 35 = .ok (.iadd, 1) := by decide +kernel
theorem dX8_turn_36 : decode cX8_turn 36 = .ok (.iload_n 2, 1) := by decide +kernel
theorem dX8_turn_37 : decode cX8_turn 37 = .ok (.iadd, 1) := by decide +kernel
theorem dX8_turn_38 : decode cX8_turn 38 = .ok (.iaload, 1) := by decide +kernel
theorem dX8_turn_39 : decode cX8_turn 39 = .ok (.goto 9, 3) := by decide +kernel
theorem dX8_turn_42 : decode cX8_turn 42 = .ok (.aload_n 0, 1) := by decide +kernel
theorem dX8_turn_43 : decode cX8_turn 43 = .ok (.ldc 46, 2) := by decide +kernel
theorem dX8_turn_45 : decode cX8_turn 45 = .ok (.invokevirtual 61, 3) := by decide +kernel
theorem dX8_turn_48 : decode cX8_turn 48 = .ok (.ireturn, 1) := by decide +kernel
theorem dX8_nextPeak_0 : decode cX8_nextPeak 0 = .ok (.iload_n 1, 1) := by decide +kernel
theorem dX8_nextPeak_1 : decode cX8_nextPeak 1 = .ok (.i2l, 1) := by decide +kernel
theorem dX8_nextPeak_2 : decode cX8_nextPeak 2 = .ok (.lconst 0, 1) := by decide +kernel
theorem dX8_nextPeak_3 : decode cX8_nextPeak 3 = .ok (.ldc2_w 123, 3) := by decide +kernel
theorem dX8_nextPeak_6 : decode cX8_nextPeak 6 = .ok (.invokestatic 49, 3) := by decide +kernel
theorem dX8_nextPeak_9 : decode cX8_nextPeak 9 = .ok (.ifCond .ne 10, 3) := by decide +kernel
theorem dX8_nextPeak_12 : decode cX8_nextPeak 12 = .ok (.aload_n 0, 1) := by decide +kernel
theorem dX8_nextPeak_13 : decode cX8_nextPeak 13 = .ok (.ldc 46, 2) := by decide +kernel
theorem dX8_nextPeak_15 : decode cX8_nextPeak 15 = .ok (.invokevirtual 61, 3) := by decide +kernel
theorem dX8_nextPeak_18 : decode cX8_nextPeak 18 = .ok (.ireturn, 1) := by decide +kernel
theorem dX8_nextPeak_19 : decode cX8_nextPeak 19 = .ok (.aload_n 0, 1) := by decide +kernel
theorem dX8_nextPeak_20 : decode cX8_nextPeak 20 = .ok (.invokevirtual 119, 3) := by decide +kernel
theorem dX8_nextPeak_23 : decode cX8_nextPeak 23 = .ok (.iconst 2, 1) := by decide +kernel
theorem dX8_nextPeak_24 : decode cX8_nextPeak 24 = .ok (.if_icmp .ge 10, 3) := by decide +kernel
theorem dX8_nextPeak_27 : decode cX8_nextPeak 27 = .ok (.aload_n 0, 1) := by decide +kernel
theorem dX8_nextPeak_28 : decode cX8_nextPeak 28 = .ok (.ldc 125, 2) := by decide +kernel
theorem dX8_nextPeak_30 : decode cX8_nextPeak 30 = .ok (.invokevirtual 61, 3) := by decide +kernel
theorem dX8_nextPeak_33 : decode cX8_nextPeak 33 = .ok (.ireturn, 1) := by decide +kernel
theorem dX8_nextPeak_34 : decode cX8_nextPeak 34 = .ok (.iconst 0, 1) := by decide +kernel
theorem dX8_nextPeak_35 : decode cX8_nextPeak 35 = .ok (.istore_n 2, 1) := by decide +kernel
theorem dX8_nextPeak_36 : decode cX8_nextPeak 36 = .ok (.sipush 9999, 3) := by decide +kernel
theorem dX8_nextPeak_39 : decode cX8_nextPeak 39 = .ok (.istore_n 3, 1) := by decide +kernel
theorem dX8_nextPeak_40 : decode cX8_nextPeak 40 = .ok (.iconst 0, 1) := by decide +kernel
theorem dX8_nextPeak_41 : decode cX8_nextPeak 41 = .ok (.istore 4, 2) := by decide +kernel
theorem dX8_nextPeak_43 : decode cX8_nextPeak 43 = .ok (.iload 4, 2) := by decide +kernel
theorem dX8_nextPeak_45 : decode cX8_nextPeak 45 = .ok (.aload_n 0, 1) := by decide +kernel
theorem dX8_nextPeak_46 : decode cX8_nextPeak 46 = .ok (.invokevirtual 119, 3) := by decide +kernel
theorem dX8_nextPeak_49 : decode cX8_nextPeak 49 = .ok (.iconst 1, 1) := by decide +kernel
theorem dX8_nextPeak_50 : decode cX8_nextPeak 50 = .ok (.isub, 1) := by decide +kernel
theorem dX8_nextPeak_51 : decode cX8_nextPeak 51 = .ok (.if_icmp .ge 66, 3) := by decide +kernel
theorem dX8_nextPeak_54 : decode cX8_nextPeak 54 = .ok (.aload_n 0, 1) := by decide +kernel
theorem dX8_nextPeak_55 : decode cX8_nextPeak 55 = .ok (.iload 4, 2) := by decide +kernel
theorem dX8_nextPeak_57 : decode cX8_nextPeak 57 = .ok (.invokevirtual 126, 3) := by decide +kernel
theorem dX8_nextPeak_60 : decode cX8_nextPeak 60 = .ok (.iload_n 1, 1) := by decide +kernel
theorem dX8_nextPeak_61 : decode cX8_nextPeak 61 = .ok (.if_icmp .le 14, 3) := by decide +kernel
theorem dX8_nextPeak_64 : decode cX8_nextPeak 64 = .ok (.aload_n 0, 1) := by decide +kernel
theorem dX8_nextPeak_65 : decode cX8_nextPeak 65 = .ok (.iload 4, 2) := by decide +kernel
theorem dX8_nextPeak_67 : decode cX8_nextPeak 67 = .ok (.invokevirtual 126, 3) := by decide +kernel
theorem dX8_nextPeak_70 : decode cX8_nextPeak 70 = .ok (.iload_n 1, 1) := by decide +kernel
theorem dX8_nextPeak_71 : decode cX8_nextPeak 71 = .ok (.isub, 1) := by decide +kernel
theorem dX8_nextPeak_72 : decode cX8_nextPeak 72 = .ok (.goto 11, 3) := by decide +kernel
theorem dX8_nextPeak_75 : decode cX8_nextPeak 75 = .ok (.iload_n 1, 1) := by decide +kernel
theorem dX8_nextPeak_76 : decode cX8_nextPeak 76 = .ok (.aload_n 0, 1) := by decide +kernel
theorem dX8_nextPeak_77 : decode cX8_nextPeak 77 = .ok (.iload 4, 2) := by decide +kernel
theorem dX8_nextPeak_79 : decode cX8_nextPeak 79 = .ok (.invokevirtual 126, 3) := by decide +kernel
theorem dX8_nextPeak_82 : decode cX8_nextPeak 82 = .ok (.isub, 1) := by decide +kernel
theorem dX8_nextPeak_83 : decode cX8_nextPeak 83 = .ok (.istore 5, 2) := by decide +kernel
theorem dX8_nextPeak_85 : decode cX8_nextPeak 85 = .ok (.iload 5, 2) := by decide +kernel
theorem dX8_nextPeak_87 : decode cX8_nextPeak 87 = .ok (.iload_n 3, 1) := by decide +kernel
theorem dX8_nextPeak_88 : decode cX8_nextPeak 88 = .ok (.if_icmp .ge 8, 3) := by decide +kernel
theorem dX8_nextPeak_91 : decode cX8_nextPeak 91 = .ok (.iload 4, 2) := by decide +kernel
theorem dX8_nextPeak_93 : decode cX8_nextPeak 93 = .ok (.goto 4, 3) := by decide +kernel
theorem dX8_nextPeak_96 : decode cX8_nextPeak 96 = .ok (.iload_n 2, 1) := by decide +kernel
theorem dX8_nextPeak_97 : decode cX8_nextPeak 97 = .ok (.istore_n 2, 1) := by decide +kernel
theorem dX8_nextPeak_98 : decode cX8_nextPeak 98 = .ok (.iload 5, 2) := by decide +kernel
theorem dX8_nextPeak_100 : decode cX8_nextPeak 100 = .ok (.iload_n 3, 1) := by decide +kernel
theorem dX8_nextPeak_101 : decode cX8_nextPeak 101 = .ok (.if_icmp .ge 8, 3) := by decide +kernel
theorem dX8_nextPeak_104 : decode cX8_nextPeak 104 = .ok (.iload 5, 2) := by decide +kernel
theorem dX8_nextPeak_106 : decode cX8_nextPeak 106 = .ok (.goto 4, 3) := by decide +kernel
theorem dX8_nextPeak_109 : decode cX8_nextPeak 109 = .ok (.iload_n 3, 1) := by decide +kernel
theorem dX8_nextPeak_110 : decode cX8_nextPeak 110 = .ok (.istore_n 3, 1) := by decide +kernel
theorem dX8_nextPeak_111 : decode cX8_nextPeak 111 = .ok (.iinc 4 1, 3) := by decide +kernel
theorem dX8_nextPeak_114 : decode cX8_nextPeak 114 = .ok (.goto (-71), 3) := by decide +kernel
theorem dX8_nextPeak_117 : decode cX8_nextPeak 117 = .ok (.aload_n 0, 1) := by decide +kernel
theorem dX8_nextPeak_118 : decode cX8_nextPeak 118 = .ok (.iload_n 2, 1) := by decide +kernel
theorem dX8_nextPeak_119 : decode cX8_nextPeak 119 = .ok (.iconst 1, 1) := by decide +kernel
theorem dX8_nextPeak_120 : decode cX8_nextPeak 120 = .ok (.iadd, 1) := by decide +kernel
theorem dX8_nextPeak_121 : decode cX8_nextPeak 121 = .ok (.invokevirtual 126, 3) := by decide +kernel
theorem dX8_nextPeak_124 : decode cX8_nextPeak 124 = .ok (.ireturn, 1) := by decide +kernel
theorem dX8_rising_0 : decode cX8_rising 0 = .ok (.iconst 0, 1) := by decide +kernel
theorem dX8_rising_1 : decode cX8_rising 1 = .ok (.istore_n 1, 1) := by decide +kernel
theorem dX8_rising_2 : decode cX8_rising 2 = .ok (.iconst 1, 1) := by decide +kernel
theorem dX8_rising_3 : decode cX8_rising 3 = .ok (.istore_n 2, 1) := by decide +kernel
theorem dX8_rising_4 : decode cX8_rising 4 = .ok (.iload_n 2, 1) := by decide +kernel
theorem dX8_rising_5 : decode cX8_rising 5 = .ok (.aload_n 0, 1) := by decide +kernel
theorem dX8_rising_6 : decode cX8_rising 6 = .ok (.invokevirtual 119, 3) := by decide +kernel
theorem dX8_rising_9 : decode cX8_rising 9 = .ok (.if_icmp .ge 32, 3) := by decide +kernel
theorem dX8_rising_12 : decode cX8_rising 12 = .ok (.iload_n 1, 1) := by decide +kernel
theorem dX8_rising_13 : decode cX8_rising 13 = .ok (.aload_n 0, 1) := by decide +kernel
theorem dX8_rising_14 : decode cX8_rising 14 = .ok (.iload_n 2, 1) := by decide +kernel
theorem dX8_rising_15 : decode cX8_rising 15 = .ok (.invokevirtual 126, 3) := by decide +kernel
theorem dX8_rising_18 : decode cX8_rising 18 = .ok (.aload_n 0, 1) := by decide +kernel
theorem dX8_rising_19 : decode cX8_rising 19 = .ok (.iload_n 2, 1) := by decide +kernel
theorem dX8_rising_20 : decode cX8_rising 20 = .ok (.iconst 1, 1) := by decide +kernel
theorem dX8_rising_21 : decode cX8_rising 21 = .ok (.isub, 1) := by decide +kernel
theorem dX8_rising_22 : decode cX8_rising 22 = .ok (.invokevirtual 126, 3) := by decide +kernel
theorem dX8_rising_25 : decode cX8_rising 25 = .ok (.if_icmp .le 7, 3) := by decide +kernel
theorem dX8_rising_28 : decode cX8_rising 28 = .ok (.iconst 1, 1) := by decide +kernel
theorem dX8_rising_29 : decode cX8_rising 29 = .ok (.goto 4, 3) := by decide +kernel
theorem dX8_rising_32 : decode cX8_rising 32 = .ok (.iconst 0, 1) := by decide +kernel
theorem dX8_rising_33 : decode cX8_rising 33 = .ok (.iadd, 1) := by decide +kernel
theorem dX8_rising_34 : decode cX8_rising 34 = .ok (.istore_n 1, 1) := by decide +kernel
theorem dX8_rising_35 : decode cX8_rising 35 = .ok (.iinc 2 1, 3) := by decide +kernel
theorem dX8_rising_38 : decode cX8_rising 38 = .ok (.goto (-34), 3) := by decide +kernel
theorem dX8_rising_41 : decode cX8_rising 41 = .ok (.iload_n 1, 1) := by decide +kernel
theorem dX8_rising_42 : decode cX8_rising 42 = .ok (.ireturn, 1) := by decide +kernel
theorem dX8_quickest_0 : decode cX8_quickest 0 = .ok (.aload_n 0, 1) := by decide +kernel
theorem dX8_quickest_1 : decode cX8_quickest 1 = .ok (.invokevirtual 119, 3) := by decide +kernel
theorem dX8_quickest_4 : decode cX8_quickest 4 = .ok (.iconst 2, 1) := by decide +kernel
theorem dX8_quickest_5 : decode cX8_quickest 5 = .ok (.if_icmp .ge 10, 3) := by decide +kernel
theorem dX8_quickest_8 : decode cX8_quickest 8 = .ok (.aload_n 0, 1) := by decide +kernel
theorem dX8_quickest_9 : decode cX8_quickest 9 = .ok (.ldc 125, 2) := by decide +kernel
theorem dX8_quickest_11 : decode cX8_quickest 11 = .ok (.invokevirtual 61, 3) := by decide +kernel
theorem dX8_quickest_14 : decode cX8_quickest 14 = .ok (.ireturn, 1) := by decide +kernel
theorem dX8_quickest_15 : decode cX8_quickest 15 = .ok (.aload_n 0, 1) := by decide +kernel
theorem dX8_quickest_16 : decode cX8_quickest 16 = .ok (.getfield 9, 3) := by decide +kernel
theorem dX8_quickest_19 : decode cX8_quickest 19 = .ok (.bipush 46, 2) := by decide +kernel
theorem dX8_quickest_21 : decode cX8_quickest 21 = .ok (.iaload, 1) := by decide +kernel
theorem dX8_quickest_22 : decode cX8_quickest 22 = .ok (.aload_n 0, 1) := by decide +kernel
theorem dX8_quickest_23 : decode cX8_quickest 23 = .ok (.getfield 9, 3) := by decide +kernel
theorem dX8_quickest_26 : decode cX8_quickest 26 = .ok (.bipush 44, 2) := by decide +kernel
theorem dX8_quickest_28 : decode cX8_quickest 28 = .ok (.iaload, 1) := by decide +kernel
theorem dX8_quickest_29 : decode cX8_quickest 29 = .ok (.isub, 1) := by decide +kernel
theorem dX8_quickest_30 : decode cX8_quickest 30 = .ok (.istore_n 1, 1) := by decide +kernel
theorem dX8_quickest_31 : decode cX8_quickest 31 = .ok (.iconst 2, 1) := by decide +kernel
theorem dX8_quickest_32 : decode cX8_quickest 32 = .ok (.istore_n 2, 1) := by decide +kernel
theorem dX8_quickest_33 : decode cX8_quickest 33 = .ok (.iload_n 2, 1) := by decide +kernel
theorem dX8_quickest_34 : decode cX8_quickest 34 = .ok (.aload_n 0, 1) := by decide +kernel
theorem dX8_quickest_35 : decode cX8_quickest 35 = .ok (.invokevirtual 119, 3) := by decide +kernel
theorem dX8_quickest_38 : decode cX8_quickest 38 = .ok (.if_icmp .ge 46, 3) := by decide +kernel
theorem dX8_quickest_41 : decode cX8_quickest 41 = .ok (.aload_n 0, 1) := by decide +kernel
theorem dX8_quickest_42 : decode cX8_quickest 42 = .ok (.getfield 9, 3) := by decide +kernel
theorem dX8_quickest_45 : decode cX8_quickest 45 = .ok (.bipush 44, 2) := by decide +kernel
theorem dX8_quickest_47 : decode cX8_quickest 47 = .ok (.iconst 2, 1) := by decide +kernel
theorem dX8_quickest_48 : decode cX8_quickest 48 = .ok (.iload_n 2, 1) := by decide +kernel
theorem dX8_quickest_49 : decode cX8_quickest 49 = .ok (.imul, 1) := by decide +kernel
theorem dX8_quickest_50 : decode cX8_quickest 50 = .ok (.iadd, 1) := by decide +kernel
theorem dX8_quickest_51 : decode cX8_quickest 51 = .ok (.iaload, 1) := by decide +kernel
theorem dX8_quickest_52 : decode cX8_quickest 52 = .ok (.aload_n 0, 1) := by decide +kernel
theorem dX8_quickest_53 : decode cX8_quickest 53 = .ok (.getfield 9, 3) := by decide +kernel
theorem dX8_quickest_56 : decode cX8_quickest 56 = .ok (.bipush 44, 2) := by decide +kernel
theorem dX8_quickest_58 : decode cX8_quickest 58 = .ok (.iconst 2, 1) := by decide +kernel
theorem dX8_quickest_59 : decode cX8_quickest 59 = .ok (.iload_n 2, 1) := by decide +kernel
theorem dX8_quickest_60 : decode cX8_quickest 60 = .ok (.imul, 1) := by decide +kernel
theorem dX8_quickest_61 : decode cX8_quickest 61 = .ok (.iadd, 1) := by decide +kernel
theorem dX8_quickest_62 : decode cX8_quickest 62 = .ok (.iconst 2, 1) := by decide +kernel
theorem dX8_quickest_63 : decode cX8_quickest 63 = .ok (.isub, 1) := by decide +kernel
theorem dX8_quickest_64 : decode cX8_quickest 64 = .ok (.iaload, 1) := by decide +kernel
theorem dX8_quickest_65 : decode cX8_quickest 65 = .ok (.isub, 1) := by decide +kernel
theorem dX8_quickest_66 : decode cX8_quickest 66 = .ok (.istore_n 3, 1) := by decide +kernel
theorem dX8_quickest_67 : decode cX8_quickest 67 = .ok (.iload_n 3, 1) := by decide +kernel
theorem dX8_quickest_68 : decode cX8_quickest 68 = .ok (.iload_n 1, 1) := by decide +kernel
theorem dX8_quickest_69 : decode cX8_quickest 69 = .ok (.if_icmp .ge 7, 3) := by decide +kernel
theorem dX8_quickest_72 : decode cX8_quickest 72 = .ok (.iload_n 3, 1) := by decide +kernel
theorem dX8_quickest_73 : decode cX8_quickest 73 = .ok (.goto 4, 3) := by decide +kernel
theorem dX8_quickest_76 : decode cX8_quickest 76 = .ok (.iload_n 1, 1) := by decide +kernel
theorem dX8_quickest_77 : decode cX8_quickest 77 = .ok (.istore_n 1, 1) := by decide +kernel
theorem dX8_quickest_78 : decode cX8_quickest 78 = .ok (.iinc 2 1, 3) := by decide +kernel
theorem dX8_quickest_81 : decode cX8_quickest 81 = .ok (.goto (-48), 3) := by decide +kernel
theorem dX8_quickest_84 : decode cX8_quickest 84 = .ok (.iload_n 1, 1) := by decide +kernel
theorem dX8_quickest_85 : decode cX8_quickest 85 = .ok (.ireturn, 1) := by decide +kernel
theorem dX8_feed_0 : decode cX8_feed 0 = .ok (.iload_n 2, 1) := by decide +kernel
theorem dX8_feed_1 : decode cX8_feed 1 = .ok (.i2l, 1) := by decide +kernel
theorem dX8_feed_2 : decode cX8_feed 2 = .ok (.lconst 1, 1) := by decide +kernel
theorem dX8_feed_3 : decode cX8_feed 3 = .ok (.ldc2_w 75, 3) := by decide +kernel
theorem dX8_feed_6 : decode cX8_feed 6 = .ok (.invokestatic 49, 3) := by decide +kernel
theorem dX8_feed_9 : decode cX8_feed 9 = .ok (.ifCond .ne 10, 3) := by decide +kernel
theorem dX8_feed_12 : decode cX8_feed 12 = .ok (.aload_n 0, 1) := by decide +kernel
theorem dX8_feed_13 : decode cX8_feed 13 = .ok (.ldc 46, 2) := by decide +kernel
theorem dX8_feed_15 : decode cX8_feed 15 = .ok (.invokevirtual 61, 3) := by decide +kernel
theorem dX8_feed_18 : decode cX8_feed 18 = .ok (.ireturn, 1) := by decide +kernel
theorem dX8_feed_19 : decode cX8_feed 19 = .ok (.aload_n 0, 1) := by decide +kernel
theorem dX8_feed_20 : decode cX8_feed 20 = .ok (.getfield 129, 3) := by decide +kernel
theorem dX8_feed_23 : decode cX8_feed 23 = .ok (.iload_n 2, 1) := by decide +kernel
theorem dX8_feed_24 : decode cX8_feed 24 = .ok (.iadd, 1) := by decide +kernel
theorem dX8_feed_25 : decode cX8_feed 25 = .ok (.bipush 100, 2) := by decide +kernel
theorem dX8_feed_27 : decode cX8_feed 27 = .ok (.if_icmp .le 10, 3) := by decide +kernel
theorem dX8_feed_30 : decode cX8_feed 30 = .ok (.aload_n 0, 1) := by decide +kernel
theorem dX8_feed_31 : decode cX8_feed 31 = .ok (.ldc 85, 2) := by decide +kernel
theorem dX8_feed_33 : decode cX8_feed 33 = .ok (.invokevirtual 61, 3) := by decide +kernel
theorem dX8_feed_36 : decode cX8_feed 36 = .ok (.ireturn, 1) := by decide +kernel
theorem dX8_feed_37 : decode cX8_feed 37 = .ok (.iload_n 2, 1) := by decide +kernel
theorem dX8_feed_38 : decode cX8_feed 38 = .ok (.iconst 1, 1) := by decide +kernel
theorem dX8_feed_39 : decode cX8_feed 39 = .ok (.isub, 1) := by decide +kernel
theorem dX8_feed_40 : decode cX8_feed 40 = .ok (.istore_n 3, 1) := by decide +kernel
theorem dX8_feed_41 : decode cX8_feed 41 = .ok (.iload_n 3, 1) := by decide +kernel
theorem dX8_feed_42 : decode cX8_feed 42 = .ok (.ifCond .lt 38, 3) := by decide +kernel
theorem dX8_feed_45 : decode cX8_feed 45 = .ok (.aload_n 0, 1) := by decide +kernel
theorem dX8_feed_46 : decode cX8_feed 46 = .ok (.getfield 28, 3) := by decide +kernel
theorem dX8_feed_49 : decode cX8_feed 49 = .ok (.aload_n 0, 1) := by decide +kernel
theorem dX8_feed_50 : decode cX8_feed 50 = .ok (.getfield 129, 3) := by decide +kernel
theorem dX8_feed_53 : decode cX8_feed 53 = .ok (.iload_n 1, 1) := by decide +kernel
theorem dX8_feed_54 : decode cX8_feed 54 = .ok (.bipush 8, 2) := by decide +kernel
theorem dX8_feed_56 : decode cX8_feed 56 = .ok (.iload_n 3, 1) := by decide +kernel
theorem dX8_feed_57 : decode cX8_feed 57 = .ok (.imul, 1) := by decide +kernel
theorem dX8_feed_58 : decode cX8_feed 58 = .ok (.ishr, 1) := by decide +kernel
theorem dX8_feed_59 : decode cX8_feed 59 = .ok (.sipush 255, 3) := by decide +kernel
theorem dX8_feed_62 : decode cX8_feed 62 = .ok (.iand, 1) := by decide +kernel
theorem dX8_feed_63 : decode cX8_feed 63 = .ok (.iastore, 1) := by decide +kernel
theorem dX8_feed_64 : decode cX8_feed 64 = .ok (.aload_n 0, 1) := by decide +kernel
theorem dX8_feed_65 : decode cX8_feed 65 = .ok (.dup, 1) := by decide +kernel
theorem dX8_feed_66 : decode cX8_feed 66 = .ok (.getfield 129, 3) := by decide +kernel
theorem dX8_feed_69 : decode cX8_feed 69 = .ok (.iconst 1, 1) := by decide +kernel
theorem dX8_feed_70 : decode cX8_feed 70 = .ok (.iadd, 1) := by decide +kernel
theorem dX8_feed_71 : decode cX8_feed 71 = .ok (.putfield 129, 3) := by decide +kernel
theorem dX8_feed_74 : decode cX8_feed 74 = .ok (.iinc 3 (-1), 3) := by decide +kernel
theorem dX8_feed_77 : decode cX8_feed 77 = .ok (.goto (-36), 3) := by decide +kernel
theorem dX8_feed_80 : decode cX8_feed 80 = .ok (.aload_n 0, 1) := by decide +kernel
theorem dX8_feed_81 : decode cX8_feed 81 = .ok (.getfield 129, 3) := by decide +kernel
theorem dX8_feed_84 : decode cX8_feed 84 = .ok (.ireturn, 1) := by decide +kernel
theorem dX8_wipe_0 : decode cX8_wipe 0 = .ok (.aload_n 0, 1) := by decide +kernel
theorem dX8_wipe_1 : decode cX8_wipe 1 = .ok (.getfield 129, 3) := by decide +kernel
theorem dX8_wipe_4 : decode cX8_wipe 4 = .ok (.istore_n 1, 1) := by decide +kernel
theorem dX8_wipe_5 : decode cX8_wipe 5 = .ok (.aload_n 0, 1) := by decide +kernel
theorem dX8_wipe_6 : decode cX8_wipe 6 = .ok (.iconst 0, 1) := by decide +kernel
theorem dX8_wipe_7 : decode cX8_wipe 7 = .ok (.putfield 129, 3) := by decide +kernel
theorem dX8_wipe_10 : decode cX8_wipe 10 = .ok (.iload_n 1, 1) := by decide +kernel
theorem dX8_wipe_11 : decode cX8_wipe 11 = .ok (.ireturn, 1) := by decide +kernel
theorem dX8_isLetter_0 : decode cX8_isLetter 0 = .ok (.iload_n 0, 1) := by decide +kernel
theorem dX8_isLetter_1 : decode cX8_isLetter 1 = .ok (.bipush 97, 2) := by decide +kernel
theorem dX8_isLetter_3 : decode cX8_isLetter 3 = .ok (.if_icmp .lt 13, 3) := by decide +kernel
theorem dX8_isLetter_6 : decode cX8_isLetter 6 = .ok (.iload_n 0, 1) := by decide +kernel
theorem dX8_isLetter_7 : decode cX8_isLetter 7 = .ok (.bipush 122, 2) := by decide +kernel
theorem dX8_isLetter_9 : decode cX8_isLetter 9 = .ok (.if_icmp .gt 7, 3) := by decide +kernel
theorem dX8_isLetter_12 : decode cX8_isLetter 12 = .ok (.iconst 1, 1) := by decide +kernel
theorem dX8_isLetter_13 : decode cX8_isLetter 13 = .ok (.goto 4, 3) := by decide +kernel
theorem dX8_isLetter_16 : decode cX8_isLetter 16 = .ok (.iconst 0, 1) := by decide +kernel
theorem dX8_isLetter_17 : decode cX8_isLetter 17 = .ok (.ireturn, 1) := by decide +kernel
theorem dX8_isDigit_0 : decode cX8_isDigit 0 = .ok (.iload_n 0, 1) := by decide +kernel
theorem dX8_isDigit_1 : decode cX8_isDigit 1 = .ok (.bipush 48, 2) := by decide +kernel
theorem dX8_isDigit_3 : decode cX8_isDigit 3 = .ok (.if_icmp .lt 13, 3) := by decide +kernel
theorem dX8_isDigit_6 : decode cX8_isDigit 6 = .ok (.iload_n 0, 1) := by decide +kernel
theorem dX8_isDigit_7 : decode cX8_isDigit 7 = .ok (.bipush 57, 2) := by decide +kernel
theorem dX8_isDigit_9 : decode cX8_isDigit 9 = .ok (.if_icmp .gt 7, 3) := by decide +kernel
theorem dX8_isDigit_12 : decode cX8_isDigit 12 = .ok (.iconst 1, 1) := by decide +kernel
theorem dX8_isDigit_13 : decode cX8_isDigit 13 = .ok (.goto 4, 3) := by decide +kernel
theorem dX8_isDigit_16 : decode cX8_isDigit 16 = .ok (.iconst 0, 1) := by decide +kernel
theorem dX8_isDigit_17 : decode cX8_isDigit 17 = .ok (.ireturn, 1) := by decide +kernel
theorem dX8_look_0 : decode cX8_look 0 = .ok (.aload_n 0, 1) := by decide +kernel
theorem dX8_look_1 : decode cX8_look 1 = .ok (.getfield 133, 3) := by decide +kernel
theorem dX8_look_4 : decode cX8_look 4 = .ok (.aload_n 0, 1) := by decide +kernel
theorem dX8_look_5 : decode cX8_look 5 = .ok (.getfield 129, 3) := by decide +kernel
theorem dX8_look_8 : decode cX8_look 8 = .ok (.if_icmp .ge 30, 3) := by decide +kernel
theorem dX8_look_11 : decode cX8_look 11 = .ok (.aload_n 0, 1) := by decide +kernel
theorem dX8_look_12 : decode cX8_look 12 = .ok (.getfield 28, 3) := by decide +kernel
theorem dX8_look_15 : decode cX8_look 15 = .ok (.aload_n 0, 1) := by decide +kernel
theorem dX8_look_16 : decode cX8_look 16 = .ok (.getfield 133, 3) := by decide +kernel
theorem dX8_look_19 : decode cX8_look 19 = .ok (.iaload, 1) := by decide +kernel
theorem dX8_look_20 : decode cX8_look 20 = .ok (.bipush 32, 2) := by decide +kernel
theorem dX8_look_22 : decode cX8_look 22 = .ok (.if_icmp .ne 16, 3) := by decide +kernel
theorem dX8_look_25 : decode cX8_look 25 = .ok (.aload_n 0, 1) := by decide +kernel
theorem dX8_look_26 : decode cX8_look 26 = .ok (.dup, 1) := by decide +kernel
theorem dX8_look_27 : decode cX8_look 27 = .ok (.getfield 133, 3) := by decide +kernel
theorem dX8_look_30 : decode cX8_look 30 = .ok (.iconst 1, 1) := by decide +kernel
theorem dX8_look_31 : decode cX8_look 31 = .ok (.iadd, 1) := by decide +kernel
theorem dX8_look_32 : decode cX8_look 32 = .ok (.putfield 133, 3) := by decide +kernel
theorem dX8_look_35 : decode cX8_look 35 = .ok (.goto (-35), 3) := by decide +kernel
theorem dX8_look_38 : decode cX8_look 38 = .ok (.aload_n 0, 1) := by decide +kernel
theorem dX8_look_39 : decode cX8_look 39 = .ok (.aload_n 0, 1) := by decide +kernel
theorem dX8_look_40 : decode cX8_look 40 = .ok (.getfield 133, 3) := by decide +kernel
theorem dX8_look_43 : decode cX8_look 43 = .ok (.putfield 136, 3) := by decide +kernel
theorem dX8_look_46 : decode cX8_look 46 = .ok (.aload_n 0, 1) := by decide +kernel
theorem dX8_look_47 : decode cX8_look 47 = .ok (.lconst 0, 1) := by decide +kernel
theorem dX8_look_48 : decode cX8_look 48 = .ok (.putfield 139, 3) := by decide +kernel
theorem dX8_look_51 : decode cX8_look 51 = .ok (.aload_n 0, 1) := by decide +kernel
theorem dX8_look_52 : decode cX8_look 52 = .ok (.iconst 0, 1) := by decide +kernel
theorem dX8_look_53 : decode cX8_look 53 = .ok (.putfield 143, 3) := by decide +kernel
theorem dX8_look_56 : decode cX8_look 56 = .ok (.aload_n 0, 1) := by decide +kernel
theorem dX8_look_57 : decode cX8_look 57 = .ok (.getfield 133, 3) := by decide +kernel
theorem dX8_look_60 : decode cX8_look 60 = .ok (.aload_n 0, 1) := by decide +kernel
theorem dX8_look_61 : decode cX8_look 61 = .ok (.getfield 129, 3) := by decide +kernel
theorem dX8_look_64 : decode cX8_look 64 = .ok (.if_icmp .ne 9, 3) := by decide +kernel
theorem dX8_look_67 : decode cX8_look 67 = .ok (.aload_n 0, 1) := by decide +kernel
theorem dX8_look_68 : decode cX8_look 68 = .ok (.iconst 0, 1) := by decide +kernel
theorem dX8_look_69 : decode cX8_look 69 = .ok (.putfield 146, 3) := by decide +kernel
theorem dX8_look_72 : decode cX8_look 72 = .ok (.return_, 1) := by decide +kernel
theorem dX8_look_73 : decode cX8_look 73 = .ok (.aload_n 0, 1) := by decide +kernel
theorem dX8_look_74 : decode cX8_look 74 = .ok (.getfield 28, 3) := by decide +kernel
theorem dX8_look_77 : decode cX8_look 77 = .ok (.aload_n 0, 1) := by decide +kernel
theorem dX8_look_78 : decode cX8_look 78 = .ok (.getfield 133, 3) := by decide +kernel
theorem dX8_look_81 : decode cX8_look 81 = .ok (.iaload, 1) := by decide +kernel
theorem dX8_look_82 : decode cX8_look 82 = .ok (.istore_n 1, 1) := by decide +kernel
theorem dX8_look_83 : decode cX8_look 83 = .ok (.aload_n 0, 1) := by decide +kernel
theorem dX8_look_84 : decode cX8_look 84 = .ok (.iload_n 1, 1) := by decide +kernel
theorem dX8_look_85 : decode cX8_look 85 = .ok (.invokestatic 149, 3) := by decide +kernel
theorem dX8_look_88 : decode cX8_look 88 = .ok (.ifCond .eq 7, 3) := by decide +kernel
theorem dX8_look_91 : decode cX8_look 91 = .ok (.iconst 1, 1) := by decide +kernel
theorem dX8_look_92 : decode cX8_look 92 = .ok (.goto 31, 3) := by decide +kernel
theorem dX8_look_95 : decode cX8_look 95 = .ok (.iload_n 1, 1) := by decide +kernel
theorem dX8_look_96 : decode cX8_look 96 = .ok (.invokestatic 152, 3) := by decide +kernel
theorem dX8_look_99 : decode cX8_look 99 = .ok (.ifCond .eq 7, 3) := by decide +kernel
theorem dX8_look_102 : decode cX8_look 102 = .ok (.iconst 2, 1) := by decide +kernel
theorem dX8_look_103 : decode cX8_look 103 = .ok (.goto 20, 3) := by decide +kernel
theorem dX8_look_106 : decode cX8_look 106 = .ok (.iload_n 1, 1) := by decide +kernel
theorem dX8_look_107 : decode cX8_look 107 = .ok (.bipush 59, 2) := by decide +kernel
theorem dX8_look_109 : decode cX8_look 109 = .ok (.if_icmp .eq 9, 3) := by decide +kernel
theorem dX8_look_112 : decode cX8_look 112 = .ok (.iload_n 1, 1) := by decide +kernel
theorem dX8_look_113 : decode cX8_look 113 = .ok (.bipush 45, 2) := by decide +kernel
theorem dX8_look_115 : decode cX8_look 115 = .ok (.if_icmp .ne 7, 3) := by decide +kernel
theorem dX8_look_118 : decode cX8_look 118 = .ok (.iconst 3, 1) := by decide +kernel
theorem dX8_look_119 : decode cX8_look 119 = .ok (.goto 4, 3) := by decide +kernel
theorem dX8_look_122 : decode cX8_look 122 = .ok (.iconst 4, 1) := by decide +kernel
theorem dX8_look_123 : decode cX8_look 123 = .ok (.putfield 146, 3) := by decide +kernel
theorem dX8_look_126 : decode cX8_look 126 = .ok (.aload_n 0, 1) := by decide +kernel
theorem dX8_look_127 : decode cX8_look 127 = .ok (.getfield 146, 3) := by decide +kernel
theorem dX8_look_130 : decode cX8_look 130 = .ok (.iconst 2, 1) := by decide +kernel
theorem dX8_look_131 : decode cX8_look 131 = .ok (.if_icmp .le 18, 3) := by decide +kernel
theorem dX8_look_134 : decode cX8_look 134 = .ok (.aload_n 0, 1) := by decide +kernel
theorem dX8_look_135 : decode cX8_look 135 = .ok (.iload_n 1, 1) := by decide +kernel
theorem dX8_look_136 : decode cX8_look 136 = .ok (.putfield 143, 3) := by decide +kernel
theorem dX8_look_139 : decode cX8_look 139 = .ok (.aload_n 0, 1) := by decide +kernel
theorem dX8_look_140 : decode cX8_look 140 = .ok (.dup, 1) := by decide +kernel
theorem dX8_look_141 : decode cX8_look 141 = .ok (.getfield 133, 3) := by decide +kernel
theorem dX8_look_144 : decode cX8_look 144 = .ok (.iconst 1, 1) := by decide +kernel
theorem dX8_look_145 : decode cX8_look 145 = .ok (.iadd, 1) := by decide +kernel
theorem dX8_look_146 : decode cX8_look 146 = .ok (.putfield 133, 3) := by decide +kernel
theorem dX8_look_149 : decode cX8_look 149 = .ok (.aload_n 0, 1) := by decide +kernel
theorem dX8_look_150 : decode cX8_look 150 = .ok (.getfield 146, 3) := by decide +kernel
theorem dX8_look_153 : decode cX8_look 153 = .ok (.iconst 1, 1) := by decide +kernel
theorem dX8_look_154 : decode cX8_look 154 = .ok (.if_icmp .ne 91, 3) := by decide +kernel
theorem dX8_look_157 : decode cX8_look 157 = .ok (.aload_n 0, 1) := by decide +kernel
theorem dX8_look_158 : decode cX8_look 158 = .ok (.getfield 133, 3) := by decide +kernel
theorem dX8_look_161 : decode cX8_look 161 = .ok (.aload_n 0, 1) := by decide +kernel
theorem dX8_look_162 : decode cX8_look 162 = .ok (.getfield 129, 3) := by decide +kernel
theorem dX8_look_165 : decode cX8_look 165 = .ok (.if_icmp .ge 80, 3) := by decide +kernel
theorem dX8_look_168 : decode cX8_look 168 = .ok (.aload_n 0, 1) := by decide +kernel
theorem dX8_look_169 : decode cX8_look 169 = .ok (.getfield 28, 3) := by decide +kernel
theorem dX8_look_172 : decode cX8_look 172 = .ok (.aload_n 0, 1) := by decide +kernel
theorem dX8_look_173 : decode cX8_look 173 = .ok (.getfield 133, 3) := by decide +kernel
theorem dX8_look_176 : decode cX8_look 176 = .ok (.iaload, 1) := by decide +kernel
theorem dX8_look_177 : decode cX8_look 177 = .ok (.invokestatic 149, 3) := by decide +kernel
theorem dX8_look_180 : decode cX8_look 180 = .ok (.ifCond .eq 65, 3) := by decide +kernel
theorem dX8_look_183 : decode cX8_look 183 = .ok (.aload_n 0, 1) := by decide +kernel
theorem dX8_look_184 : decode cX8_look 184 = .ok (.aload_n 0, 1) := by decide +kernel
theorem dX8_look_185 : decode cX8_look 185 = .ok (.getfield 133, 3) := by decide +kernel
theorem dX8_look_188 : decode cX8_look 188 = .ok (.aload_n 0, 1) := by decide +kernel
theorem dX8_look_189 : decode cX8_look 189 = .ok (.getfield 136, 3) := by decide +kernel
theorem dX8_look_192 : decode cX8_look 192 = .ok (.isub, 1) := by decide +kernel
theorem dX8_look_193 : decode cX8_look 193 = .ok (.bipush 8, 2) := by decide +kernel
theorem dX8_look_195 : decode cX8_look 195 = .ok (.if_icmp .ge 31, 3) := by decide +kernel
theorem dX8_look_198 : decode cX8_look 198 = .ok (.ldc2_w 155, 3) := by decide +kernel
theorem dX8_look_201 : decode cX8_look 201 = .ok (.aload_n 0, 1) := by decide +kernel
theorem dX8_look_202 : decode cX8_look 202 = .ok (.getfield 139, 3) := by decide +kernel
theorem dX8_look_205 : decode cX8_look 205 = .ok (.lmul, 1) := by decide +kernel
theorem dX8_look_206 : decode cX8_look 206 = .ok (.aload_n 0, 1) := by decide +kernel
theorem dX8_look_207 : decode cX8_look 207 = .ok (.getfield 28, 3) := by decide +kernel
theorem dX8_look_210 : decode cX8_look 210 = .ok (.aload_n 0, 1) := by decide +kernel
theorem dX8_look_211 : decode cX8_look 211 = .ok (.getfield 133, 3) := by decide +kernel
theorem dX8_look_214 : decode cX8_look 214 = .ok (.iaload, 1) := by decide +kernel
theorem dX8_look_215 : decode cX8_look 215 = .ok (.i2l, 1) := by decide +kernel
theorem dX8_look_216 : decode cX8_look 216 = .ok (.ladd, 1) := by decide +kernel
theorem dX8_look_217 : decode cX8_look 217 = .ok (.ldc2_w 157, 3) := by decide +kernel
theorem dX8_look_220 : decode cX8_look 220 = .ok (.lsub, 1) := by decide +kernel
theorem dX8_look_221 : decode cX8_look 221 = .ok (.lconst 1, 1) := by decide +kernel
theorem dX8_look_222 : decode cX8_look 222 = .ok (.ladd, 1) := by decide +kernel
theorem dX8_look_223 : decode cX8_look 223 = .ok (.goto 6, 3) := by decide +kernel
theorem dX8_look_226 : decode cX8_look 226 = .ok (.ldc2_w 159, 3) := by decide +kernel
theorem dX8_look_229 : decode cX8_look 229 = .ok (.putfield 139, 3) := by decide +kernel
theorem dX8_look_232 : decode cX8_look 232 = .ok (.aload_n 0, 1) := by decide +kernel
theorem dX8_look_233 : decode cX8_look 233 = .ok (.dup, 1) := by decide +kernel
theorem dX8_look_234 : decode cX8_look 234 = .ok (.getfield 133, 3) := by decide +kernel
theorem dX8_look_237 : decode cX8_look 237 = .ok (.iconst 1, 1) := by decide +kernel
theorem dX8_look_238 : decode cX8_look 238 = .ok (.iadd, 1) := by decide +kernel
theorem dX8_look_239 : decode cX8_look 239 = .ok (.putfield 133, 3) := by decide +kernel
theorem dX8_look_242 : decode cX8_look 242 = .ok (.goto (-93), 3) := by decide +kernel
theorem dX8_look_245 : decode cX8_look 245 = .ok (.aload_n 0, 1) := by decide +kernel
theorem dX8_look_246 : decode cX8_look 246 = .ok (.getfield 146, 3) := by decide +kernel
theorem dX8_look_249 : decode cX8_look 249 = .ok (.iconst 2, 1) := by decide +kernel
theorem dX8_look_250 : decode cX8_look 250 = .ok (.if_icmp .ne 82, 3) := by decide +kernel
theorem dX8_look_253 : decode cX8_look 253 = .ok (.aload_n 0, 1) := by decide +kernel
theorem dX8_look_254 : decode cX8_look 254 = .ok (.getfield 133, 3) := by decide +kernel
theorem dX8_look_257 : decode cX8_look 257 = .ok (.aload_n 0, 1) := by decide +kernel
theorem dX8_look_258 : decode cX8_look 258 = .ok (.getfield 129, 3) := by decide +kernel
theorem dX8_look_261 : decode cX8_look 261 = .ok (.if_icmp .ge 71, 3) := by decide +kernel
theorem dX8_look_264 : decode cX8_look 264 = .ok (.aload_n 0, 1) := by decide +kernel
theorem dX8_look_265 : decode cX8_look 265 = .ok (.getfield 28, 3) := by decide +kernel
theorem dX8_look_268 : decode cX8_look 268 = .ok (.aload_n 0, 1) := by decide +kernel
theorem dX8_look_269 : decode cX8_look 269 = .ok (.getfield 133, 3) := by decide +kernel
theorem dX8_look_272 : decode cX8_look 272 = .ok (.iaload, 1) := by decide +kernel
theorem dX8_look_273 : decode cX8_look 273 = .ok (.invokestatic 152, 3) := by decide +kernel
theorem dX8_look_276 : decode cX8_look 276 = .ok (.ifCond .eq 56, 3) := by decide +kernel
theorem dX8_look_279 : decode cX8_look 279 = .ok (.aload_n 0, 1) := by decide +kernel
theorem dX8_look_280 : decode cX8_look 280 = .ok (.aload_n 0, 1) := by decide +kernel
theorem dX8_look_281 : decode cX8_look 281 = .ok (.getfield 143, 3) := by decide +kernel
theorem dX8_look_284 : decode cX8_look 284 = .ok (.sipush 999, 3) := by decide +kernel
theorem dX8_look_287 : decode cX8_look 287 = .ok (.if_icmp .le 9, 3) := by decide +kernel
theorem dX8_look_290 : decode cX8_look 290 = .ok (.sipush 1000, 3) := by decide +kernel
theorem dX8_look_293 : decode cX8_look 293 = .ok (.goto 23, 3) := by decide +kernel
theorem dX8_look_296 : decode cX8_look 296 = .ok (.bipush 10, 2) := by decide +kernel
theorem dX8_look_298 : decode cX8_look 298 = .ok (.aload_n 0, 1) := by decide +kernel
theorem dX8_look_299 : decode cX8_look 299 = .ok (.getfield 143, 3) := by decide +kernel
theorem dX8_look_302 : decode cX8_look 302 = .ok (.imul, 1) := by decide +kernel
theorem dX8_look_303 : decode cX8_look 303 = .ok (.aload_n 0, 1) := by decide +kernel
theorem dX8_look_304 : decode cX8_look 304 = .ok (.getfield 28, 3) := by decide +kernel
theorem dX8_look_307 : decode cX8_look 307 = .ok (.aload_n 0, 1) := by decide +kernel
theorem dX8_look_308 : decode cX8_look 308 = .ok (.getfield 133, 3) := by decide +kernel
theorem dX8_look_311 : decode cX8_look 311 = .ok (.iaload, 1) := by decide +kernel
theorem dX8_look_312 : decode cX8_look 312 = .ok (.iadd, 1) := by decide +kernel
theorem dX8_look_313 : decode cX8_look 313 = .ok (.bipush 48, 2) := by decide +kernel
theorem dX8_look_315 : decode cX8_look 315 = .ok (.isub, 1) := by decide +kernel
theorem dX8_look_316 : decode cX8_look 316 = .ok (.putfield 143, 3) := by decide +kernel
theorem dX8_look_319 : decode cX8_look 319 = .ok (.aload_n 0, 1) := by decide +kernel
theorem dX8_look_320 : decode cX8_look 320 = .ok (.dup, 1) := by decide +kernel
theorem dX8_look_321 : decode cX8_look 321 = .ok (.getfield 133, 3) := by decide +kernel
theorem dX8_look_324 : decode cX8_look 324 = .ok (.iconst 1, 1) := by decide +kernel
theorem dX8_look_325 : decode cX8_look 325 = .ok (.iadd, 1) := by decide +kernel
theorem dX8_look_326 : decode cX8_look 326 = .ok (.putfield 133, 3) := by decide +kernel
theorem dX8_look_329 : decode cX8_look 329 = .ok (.goto (-84), 3) := by decide +kernel
theorem dX8_look_332 : decode cX8_look 332 = .ok (.return_, 1) := by decide +kernel
theorem dX8_isWord_0 : decode cX8_isWord 0 = .ok (.lconst 0, 1) := by decide +kernel
theorem dX8_isWord_1 : decode cX8_isWord 1 = .ok (.lstore_n 2, 1) := by decide +kernel
theorem dX8_isWord_2 : decode cX8_isWord 2 = .ok (.iconst 0, 1) := by decide +kernel
theorem dX8_isWord_3 : decode cX8_isWord 3 = .ok (.istore 4, 2) := by decide +kernel
theorem dX8_isWord_5 : decode cX8_isWord 5 = .ok (.iload 4, 2) := by decide +kernel
theorem dX8_isWord_7 : decode cX8_isWord 7 = .ok (.aload_n 1, 1) := by decide +kernel
theorem dX8_isWord_8 : decode cX8_isWord 8 = .ok (.invokevirtual 161, 3) := by decide +kernel
theorem dX8_isWord_11 : decode cX8_isWord 11 = .ok (.if_icmp .ge 29, 3) := by decide +kernel
theorem dX8_isWord_14 : decode cX8_isWord 14 = .ok (.ldc2_w 155, 3) := by decide +kernel
theorem dX8_isWord_17 : decode cX8_isWord 17 = .ok (.lload_n 2, 1) := by decide +kernel
theorem dX8_isWord_18 : decode cX8_isWord 18 = .ok (.lmul, 1) := by decide +kernel
theorem dX8_isWord_19 : decode cX8_isWord 19 = .ok (.aload_n 1, 1) := by decide +kernel
theorem dX8_isWord_20 : decode cX8_isWord 20 = .ok (.iload 4, 2) := by decide +kernel
theorem dX8_isWord_22 : decode cX8_isWord 22 = .ok (.invokevirtual 166, 3) := by decide +kernel
theorem dX8_isWord_25 : decode cX8_isWord 25 = .ok (.i2l, 1) := by decide +kernel
theorem dX8_isWord_26 : decode cX8_isWord 26 = .ok (.ladd, 1) := by decide +kernel
theorem dX8_isWord_27 : decode cX8_isWord 27 = .ok (.ldc2_w 157, 3) := by decide +kernel
theorem dX8_isWord_30 : decode cX8_isWord 30 = .ok (.lsub, 1) := by decide +kernel
theorem dX8_isWord_31 : decode cX8_isWord 31 = .ok (.lconst 1, 1) := by decide +kernel
theorem dX8_isWord_32 : decode cX8_isWord 32 = .ok (.ladd, 1) := by decide +kernel
theorem dX8_isWord_33 : decode cX8_isWord 33 = .ok (.lstore_n 2, 1) := by decide +kernel
theorem dX8_isWord_34 : decode cX8_isWord 34 = .ok (.iinc 4 1, 3) := by decide +kernel
theorem dX8_isWord_37 : decode cX8_isWord 37 = .ok (.goto (-32), 3) := by decide +kernel
theorem dX8_isWord_40 : decode cX8_isWord 40 = .ok (.aload_n 0, 1) := by decide +kernel
theorem dX8_isWord_41 : decode cX8_isWord 41 = .ok (.getfield 146, 3) := by decide +kernel
theorem dX8_isWord_44 : decode cX8_isWord 44 = .ok (.iconst 1, 1) := by decide +kernel
theorem dX8_isWord_45 : decode cX8_isWord 45 = .ok (.if_icmp .ne 16, 3) := by decide +kernel
theorem dX8_isWord_48 : decode cX8_isWord 48 = .ok (.aload_n 0, 1) := by decide +kernel
theorem dX8_isWord_49 : decode cX8_isWord 49 = .ok (.getfield 139, 3) := by decide +kernel
theorem dX8_isWord_52 : decode cX8_isWord 52 = .ok (.lload_n 2, 1) := by decide +kernel
theorem dX8_isWord_53 : decode cX8_isWord 53 = .ok (.lcmp, 1) := by decide +kernel
theorem dX8_isWord_54 : decode cX8_isWord 54 = .ok (.ifCond .ne 7, 3) := by decide +kernel
theorem dX8_isWord_57 : decode cX8_isWord 57 = .ok (.iconst 1, 1) := by decide +kernel
theorem dX8_isWord_58 : decode cX8_isWord 58 = .ok (.goto 4, 3) := by decide +kernel
theorem dX8_isWord_61 : decode cX8_isWord 61 = .ok (.iconst 0, 1) := by decide +kernel
theorem dX8_isWord_62 : decode cX8_isWord 62 = .ok (.ireturn, 1) := by decide +kernel
theorem dX8_deed_0 : decode cX8_deed 0 = .ok (.aload_n 0, 1) := by decide +kernel
theorem dX8_deed_1 : decode cX8_deed 1 = .ok (.ldc 170, 2) := by decide +kernel
theorem dX8_deed_3 : decode cX8_deed 3 = .ok (.invokevirtual 172, 3) := by decide +kernel
theorem dX8_deed_6 : decode cX8_deed 6 = .ok (.ifCond .ne 12, 3) := by decide +kernel
theorem dX8_deed_9 : decode cX8_deed 9 = .ok (.aload_n 0, 1) := by decide +kernel
theorem dX8_deed_10 : decode cX8_deed 10 = .ok (.ldc 176, 2) := by decide +kernel
theorem dX8_deed_12 : decode cX8_deed 12 = .ok (.invokevirtual 172, 3) := by decide +kernel
theorem dX8_deed_15 : decode cX8_deed 15 = .ok (.ifCond .eq 18, 3) := by decide +kernel
theorem dX8_deed_18 : decode cX8_deed 18 = .ok (.aload_n 0, 1) := by decide +kernel
theorem dX8_deed_19 : decode cX8_deed 19 = .ok (.ldc 170, 2) := by decide +kernel
theorem dX8_deed_21 : decode cX8_deed 21 = .ok (.invokevirtual 172, 3) := by decide +kernel
theorem dX8_deed_24 : decode cX8_deed 24 = .ok (.ifCond .eq 7, 3) := by decide +kernel
theorem dX8_deed_27 : decode cX8_deed 27 = .ok (.iconst 0, 1) := by decide +kernel
theorem dX8_deed_28 : decode cX8_deed 28 = .ok (.goto 4, 3) := by decide +kernel
theorem dX8_deed_31 : decode cX8_deed 31 = .ok (.iconst 1, 1) := by decide +kernel
theorem dX8_deed_32 : decode cX8_deed 32 = .ok (.ireturn, 1) := by decide +kernel
theorem dX8_deed_33 : decode cX8_deed 33 = .ok (.aload_n 0, 1) := by decide +kernel
theorem dX8_deed_34 : decode cX8_deed 34 = .ok (.ldc 178, 2) := by decide +kernel
theorem dX8_deed_36 : decode cX8_deed 36 = .ok (.invokevirtual 172, 3) := by decide +kernel
theorem dX8_deed_39 : decode cX8_deed 39 = .ok (.ifCond .ne 12, 3) := by decide +kernel
theorem dX8_deed_42 : decode cX8_deed 42 = .ok (.aload_n 0, 1) := by decide +kernel
theorem dX8_deed_43 : decode cX8_deed 43 = .ok (.ldc 180, 2) := by decide +kernel
theorem dX8_deed_45 : decode cX8_deed 45 = .ok (.invokevirtual 172, 3) := by decide +kernel
theorem dX8_deed_48 : decode cX8_deed 48 = .ok (.ifCond .eq 18, 3) := by decide +kernel
theorem dX8_deed_51 : decode cX8_deed 51 = .ok (.aload_n 0, 1) := by decide +kernel
theorem dX8_deed_52 : decode cX8_deed 52 = .ok (.ldc 180, 2) := by decide +kernel
theorem dX8_deed_54 : decode cX8_deed 54 = .ok (.invokevirtual 172, 3) := by decide +kernel
theorem dX8_deed_57 : decode cX8_deed 57 = .ok (.ifCond .eq 7, 3) := by decide +kernel
theorem dX8_deed_60 : decode cX8_deed 60 = .ok (.iconst 3, 1) := by decide +kernel
theorem dX8_deed_61 : decode cX8_deed 61 = .ok (.goto 4, 3) := by decide +kernel
theorem dX8_deed_64 : decode cX8_deed 64 = .ok (.iconst 2, 1) := by decide +kernel
theorem dX8_deed_65 : decode cX8_deed 65 = .ok (.ireturn, 1) := by decide +kernel
theorem dX8_deed_66 : decode cX8_deed 66 = .ok (.aload_n 0, 1) := by decide +kernel
theorem dX8_deed_67 : decode cX8_deed 67 = .ok (.ldc 182, 2) := by decide +kernel
theorem dX8_deed_69 : decode cX8_deed 69 = .ok (.invokevirtual 172, 3) := by decide +kernel
theorem dX8_deed_72 : decode cX8_deed 72 = .ok (.ifCond .ne 12, 3) := by decide +kernel
theorem dX8_deed_75 : decode cX8_deed 75 = .ok (.aload_n 0, 1) := by decide +kernel
theorem dX8_deed_76 : decode cX8_deed 76 = .ok (.ldc 184, 2) := by decide +kernel
theorem dX8_deed_78 : decode cX8_deed 78 = .ok (.invokevirtual 172, 3) := by decide +kernel
theorem dX8_deed_81 : decode cX8_deed 81 = .ok (.ifCond .eq 18, 3) := by decide +kernel
theorem dX8_deed_84 : decode cX8_deed 84 = .ok (.aload_n 0, 1) := by decide +kernel
theorem dX8_deed_85 : decode cX8_deed 85 = .ok (.ldc 182, 2) := by decide +kernel
theorem dX8_deed_87 : decode cX8_deed 87 = .ok (.invokevirtual 172, 3) := by decide +kernel
theorem dX8_deed_90 : decode cX8_deed 90 = .ok (.ifCond .eq 7, 3) := by decide +kernel
theorem dX8_deed_93 : decode cX8_deed 93 = .ok (.iconst 4, 1) := by decide +kernel
theorem dX8_deed_94 : decode cX8_deed 94 = .ok (.goto 4, 3) := by decide +kernel
theorem dX8_deed_97 : decode cX8_deed 97 = .ok (.iconst 5, 1) := by decide +kernel
theorem dX8_deed_98 : decode cX8_deed 98 = .ok (.ireturn, 1) := by decide +kernel
theorem dX8_deed_99 : decode cX8_deed 99 = .ok (.aload_n 0, 1) := by decide +kernel
theorem dX8_deed_100 : decode cX8_deed 100 = .ok (.ldc 186, 2) := by decide +kernel
theorem dX8_deed_102 : decode cX8_deed 102 = .ok (.invokevirtual 172, 3) := by decide +kernel
theorem dX8_deed_105 : decode cX8_deed 105 = .ok (.ifCond .ne 12, 3) := by decide +kernel
theorem dX8_deed_108 : decode cX8_deed 108 = .ok (.aload_n 0, 1) := by decide +kernel
theorem dX8_deed_109 : decode cX8_deed 109 = .ok (.ldc 188, 2) := by decide +kernel
theorem dX8_deed_111 : decode cX8_deed 111 = .ok (.invokevirtual 172, 3) := by decide +kernel
theorem dX8_deed_114 : decode cX8_deed 114 = .ok (.ifCond .eq 20, 3) := by decide +kernel
theorem dX8_deed_117 : decode cX8_deed 117 = .ok (.aload_n 0, 1) := by decide +kernel
theorem dX8_deed_118 : decode cX8_deed 118 = .ok (.ldc 188, 2) := by decide +kernel
theorem dX8_deed_120 : decode cX8_deed 120 = .ok (.invokevirtual 172, 3) := by decide +kernel
theorem dX8_deed_123 : decode cX8_deed 123 = .ok (.ifCond .eq 8, 3) := by decide +kernel
theorem dX8_deed_126 : decode cX8_deed 126 = .ok (.bipush 7, 2) := by decide +kernel
theorem dX8_deed_128 : decode cX8_deed 128 = .ok (.goto 5, 3) := by decide +kernel
theorem dX8_deed_131 : decode cX8_deed 131 = .ok (.bipush 6, 2) := by decide +kernel
theorem dX8_deed_133 : decode cX8_deed 133 = .ok (.ireturn, 1) := by decide +kernel
theorem dX8_deed_134 : decode cX8_deed 134 = .ok (.aload_n 0, 1) := by decide +kernel
theorem dX8_deed_135 : decode cX8_deed 135 = .ok (.ldc 190, 2) := by decide +kernel
theorem dX8_deed_137 : decode cX8_deed 137 = .ok (.invokevirtual 172, 3) := by decide +kernel
theorem dX8_deed_140 : decode cX8_deed 140 = .ok (.ifCond .ne 12, 3) := by decide +kernel
theorem dX8_deed_143 : decode cX8_deed 143 = .ok (.aload_n 0, 1) := by decide +kernel
theorem dX8_deed_144 : decode cX8_deed 144 = .ok (.ldc 192, 2) := by decide +kernel
theorem dX8_deed_146 : decode cX8_deed 146 = .ok (.invokevirtual 172, 3) := by decide +kernel
theorem dX8_deed_149 : decode cX8_deed 149 = .ok (.ifCond .eq 20, 3) := by decide +kernel
theorem dX8_deed_152 : decode cX8_deed 152 = .ok (.aload_n 0, 1) := by decide +kernel
theorem dX8_deed_153 : decode cX8_deed 153 = .ok (.ldc 192, 2) := by decide +kernel
theorem dX8_deed_155 : decode cX8_deed 155 = .ok (.invokevirtual 172, 3) := by decide +kernel
theorem dX8_deed_158 : decode cX8_deed 158 = .ok (.ifCond .eq 8, 3) := by decide +kernel
theorem dX8_deed_161 : decode cX8_deed 161 = .ok (.bipush 9, 2) := by decide +kernel
theorem dX8_deed_163 : decode cX8_deed 163 = .ok (.goto 5, 3) := by decide +kernel
theorem dX8_deed_166 : decode cX8_deed 166 = .ok (.bipush 8, 2) := by decide +kernel
theorem dX8_deed_168 : decode cX8_deed 168 = .ok (.ireturn, 1) := by decide +kernel
theorem dX8_deed_169 : decode cX8_deed 169 = .ok (.aload_n 0, 1) := by decide +kernel
theorem dX8_deed_170 : decode cX8_deed 170 = .ok (.ldc 194, 2) := by decide +kernel
theorem dX8_deed_172 : decode cX8_deed 172 = .ok (.invokevirtual 172, 3) := by decide +kernel
theorem dX8_deed_175 : decode cX8_deed 175 = .ok (.ifCond .eq 8, 3) := by decide +kernel
theorem dX8_deed_178 : decode cX8_deed 178 = .ok (.bipush 10, 2) := by decide +kernel
theorem dX8_deed_180 : decode cX8_deed 180 = .ok (.goto 32, 3) := by decide +kernel
theorem dX8_deed_183 : decode cX8_deed 183 = .ok (.aload_n 0, 1) := by decide +kernel
theorem dX8_deed_184 : decode cX8_deed 184 = .ok (.ldc 196, 2) := by decide +kernel
theorem dX8_deed_186 : decode cX8_deed 186 = .ok (.invokevirtual 172, 3) := by decide +kernel
theorem dX8_deed_189 : decode cX8_deed 189 = .ok (.ifCond .eq 8, 3) := by decide +kernel
theorem dX8_deed_192 : decode cX8_deed 192 = .ok (.bipush 11, 2) := by decide +kernel
theorem dX8_deed_194 : decode cX8_deed 194 = .ok (.goto 18, 3) := by decide +kernel
theorem dX8_deed_197 : decode cX8_deed 197 = .ok (.aload_n 0, 1) := by decide +kernel
theorem dX8_deed_198 : decode cX8_deed 198 = .ok (.ldc 198, 2) := by decide +kernel
theorem dX8_deed_200 : decode cX8_deed 200 = .ok (.invokevirtual 172, 3) := by decide +kernel
theorem dX8_deed_203 : decode cX8_deed 203 = .ok (.ifCond .eq 8, 3) := by decide +kernel
theorem dX8_deed_206 : decode cX8_deed 206 = .ok (.bipush 12, 2) := by decide +kernel
theorem dX8_deed_208 : decode cX8_deed 208 = .ok (.goto 4, 3) := by decide +kernel
theorem dX8_deed_211 : decode cX8_deed 211 = .ok (.iconst (-1), 1) := by decide +kernel
theorem dX8_deed_212 : decode cX8_deed 212 = .ok (.ireturn, 1) := by decide +kernel
theorem dX8_leastOf_0 : decode cX8_leastOf 0 = .ok (.iload_n 0, 1) := by decide +kernel
theorem dX8_leastOf_1 : decode cX8_leastOf 1 = .ok (.bipush 10, 2) := by decide +kernel
theorem dX8_leastOf_3 : decode cX8_leastOf 3 = .ok (.if_icmp .eq 9, 3) := by decide +kernel
theorem dX8_leastOf_6 : decode cX8_leastOf 6 = .ok (.iload_n 0, 1) := by decide +kernel
theorem dX8_leastOf_7 : decode cX8_leastOf 7 = .ok (.bipush 12, 2) := by decide +kernel
theorem dX8_leastOf_9 : decode cX8_leastOf 9 = .ok (.if_icmp .ne 7, 3) := by decide +kernel
theorem dX8_leastOf_12 : decode cX8_leastOf 12 = .ok (.iconst 1, 1) := by decide +kernel
theorem dX8_leastOf_13 : decode cX8_leastOf 13 = .ok (.goto 4, 3) := by decide +kernel
theorem dX8_leastOf_16 : decode cX8_leastOf 16 = .ok (.iconst 0, 1) := by decide +kernel
theorem dX8_leastOf_17 : decode cX8_leastOf 17 = .ok (.ireturn, 1) := by decide +kernel
theorem dX8_mostOf_0 : decode cX8_mostOf 0 = .ok (.iload_n 0, 1) := by decide +kernel
theorem dX8_mostOf_1 : decode cX8_mostOf 1 = .ok (.bipush 7, 2) := by decide +kernel
theorem dX8_mostOf_3 : decode cX8_mostOf 3 = .ok (.if_icmp .ge 8, 3) := by decide +kernel
theorem dX8_mostOf_6 : decode cX8_mostOf 6 = .ok (.bipush 11, 2) := by decide +kernel
theorem dX8_mostOf_8 : decode cX8_mostOf 8 = .ok (.goto 28, 3) := by decide +kernel
theorem dX8_mostOf_11 : decode cX8_mostOf 11 = .ok (.iload_n 0, 1) := by decide +kernel
theorem dX8_mostOf_12 : decode cX8_mostOf 12 = .ok (.bipush 11, 2) := by decide +kernel
theorem dX8_mostOf_14 : decode cX8_mostOf 14 = .ok (.if_icmp .ne 9, 3) := by decide +kernel
theorem dX8_mostOf_17 : decode cX8_mostOf 17 = .ok (.sipush 200, 3) := by decide +kernel
theorem dX8_mostOf_20 : decode cX8_mostOf 20 = .ok (.goto 16, 3) := by decide +kernel
theorem dX8_mostOf_23 : decode cX8_mostOf 23 = .ok (.iload_n 0, 1) := by decide +kernel
theorem dX8_mostOf_24 : decode cX8_mostOf 24 = .ok (.bipush 12, 2) := by decide +kernel
theorem dX8_mostOf_26 : decode cX8_mostOf 26 = .ok (.if_icmp .ne 8, 3) := by decide +kernel
theorem dX8_mostOf_29 : decode cX8_mostOf 29 = .ok (.bipush 50, 2) := by decide +kernel
theorem dX8_mostOf_31 : decode cX8_mostOf 31 = .ok (.goto 5, 3) := by decide +kernel
theorem dX8_mostOf_34 : decode cX8_mostOf 34 = .ok (.bipush 99, 2) := by decide +kernel
theorem dX8_mostOf_36 : decode cX8_mostOf 36 = .ok (.ireturn, 1) := by decide +kernel
theorem dX8_must_0 : decode cX8_must 0 = .ok (.aload_n 0, 1) := by decide +kernel
theorem dX8_must_1 : decode cX8_must 1 = .ok (.aload_n 0, 1) := by decide +kernel
theorem dX8_must_2 : decode cX8_must 2 = .ok (.getfield 200, 3) := by decide +kernel
theorem dX8_must_5 : decode cX8_must 5 = .ok (.ifCond .ne 7, 3) := by decide +kernel
theorem dX8_must_8 : decode cX8_must 8 = .ok (.iload_n 1, 1) := by decide +kernel
theorem dX8_must_9 : decode cX8_must 9 = .ok (.ifCond .ne 7, 3) := by decide +kernel
theorem dX8_must_12 : decode cX8_must 12 = .ok (.iconst 1, 1) := by decide +kernel
theorem dX8_must_13 : decode cX8_must 13 = .ok (.goto 4, 3) := by decide +kernel
theorem dX8_must_16 : decode cX8_must 16 = .ok (.iconst 0, 1) := by decide +kernel
theorem dX8_must_17 : decode cX8_must 17 = .ok (.putfield 200, 3) := by decide +kernel
theorem dX8_must_20 : decode cX8_must 20 = .ok (.return_, 1) := by decide +kernel
theorem dX8_reads_0 : decode cX8_reads 0 = .ok (.aload_n 0, 1) := by decide +kernel
theorem dX8_reads_1 : decode cX8_reads 1 = .ok (.invokevirtual 204, 3) := by decide +kernel
theorem dX8_reads_4 : decode cX8_reads 4 = .ok (.istore_n 2, 1) := by decide +kernel
theorem dX8_reads_5 : decode cX8_reads 5 = .ok (.aload_n 0, 1) := by decide +kernel
theorem dX8_reads_6 : decode cX8_reads 6 = .ok (.iload_n 2, 1) := by decide +kernel
theorem dX8_reads_7 : decode cX8_reads 7 = .ok (.ifCond .lt 18, 3) := by decide +kernel
theorem dX8_reads_10 : decode cX8_reads 10 = .ok (.aload_n 0, 1) := by decide +kernel
theorem dX8_reads_11 : decode cX8_reads 11 = .ok (.getfield 9, 3) := by decide +kernel
theorem dX8_reads_14 : decode cX8_reads 14 = .ok (.iload_n 1, 1) := by decide +kernel
theorem dX8_reads_15 : decode cX8_reads 15 = .ok (.iaload, 1) := by decide +kernel
theorem dX8_reads_16 : decode cX8_reads 16 = .ok (.bipush 12, 2) := by decide +kernel
theorem dX8_reads_18 : decode cX8_reads 18 = .ok (.if_icmp .ge 7, 3) := by decide +kernel
theorem dX8_reads_21 : decode cX8_reads 21 = .ok (.iconst 1, 1) := by decide +kernel
theorem dX8_reads_22 : decode cX8_reads 22 = .ok (.goto 4, 3) := by decide +kernel
theorem dX8_reads_25 : decode cX8_reads 25 = .ok (.iconst 0, 1) := by decide +kernel
theorem dX8_reads_26 : decode cX8_reads 26 = .ok (.invokevirtual 207, 3) := by decide +kernel
theorem dX8_reads_29 : decode cX8_reads 29 = .ok (.aload_n 0, 1) := by decide +kernel
theorem dX8_reads_30 : decode cX8_reads 30 = .ok (.getfield 200, 3) := by decide +kernel
theorem dX8_reads_33 : decode cX8_reads 33 = .ok (.ifCond .eq 4, 3) := by decide +kernel
theorem dX8_reads_36 : decode cX8_reads 36 = .ok (.return_, 1) := by decide +kernel
theorem dX8_reads_37 : decode cX8_reads 37 = .ok (.aload_n 0, 1) := by decide +kernel
theorem dX8_reads_38 : decode cX8_reads 38 = .ok (.invokevirtual 211, 3) := by decide +kernel
theorem dX8_reads_41 : decode cX8_reads 41 = .ok (.iconst 1, 1) := by decide +kernel
theorem dX8_reads_42 : decode cX8_reads 42 = .ok (.istore_n 3, 1) := by decide +kernel
theorem dX8_reads_43 : decode cX8_reads 43 = .ok (.iload_n 2, 1) := by decide +kernel
theorem dX8_reads_44 : decode cX8_reads 44 = .ok (.bipush 11, 2) := by decide +kernel
theorem dX8_reads_46 : decode cX8_reads 46 = .ok (.if_icmp .ne 26, 3) := by decide +kernel
theorem dX8_reads_49 : decode cX8_reads 49 = .ok (.aload_n 0, 1) := by decide +kernel
theorem dX8_reads_50 : decode cX8_reads 50 = .ok (.getfield 146, 3) := by decide +kernel
theorem dX8_reads_53 : decode cX8_reads 53 = .ok (.iconst 3, 1) := by decide +kernel
theorem dX8_reads_54 : decode cX8_reads 54 = .ok (.if_icmp .ne 18, 3) := by decide +kernel
theorem dX8_reads_57 : decode cX8_reads 57 = .ok (.aload_n 0, 1) := by decide +kernel
theorem dX8_reads_58 : decode cX8_reads 58 = .ok (.getfield 143, 3) := by decide +kernel
theorem dX8_reads_61 : decode cX8_reads 61 = .ok (.bipush 45, 2) := by decide +kernel
theorem dX8_reads_63 : decode cX8_reads 63 = .ok (.if_icmp .ne 9, 3) := by decide +kernel
theorem dX8_reads_66 : decode cX8_reads 66 = .ok (.iconst (-1), 1) := by decide +kernel
theorem dX8_reads_67 : decode cX8_reads 67 = .ok (.istore_n 3, 1) := by decide +kernel
theorem dX8_reads_68 : decode cX8_reads 68 = .ok (.aload_n 0, 1) := by decide +kernel
theorem dX8_reads_69 : decode cX8_reads 69 = .ok (.invokevirtual 211, 3) := by decide +kernel
theorem dX8_reads_72 : decode cX8_reads 72 = .ok (.aload_n 0, 1) := by decide +kernel
theorem dX8_reads_73 : decode cX8_reads 73 = .ok (.aload_n 0, 1) := by decide +kernel
theorem dX8_reads_74 : decode cX8_reads 74 = .ok (.getfield 146, 3) := by decide +kernel
theorem dX8_reads_77 : decode cX8_reads 77 = .ok (.iconst 2, 1) := by decide +kernel
theorem dX8_reads_78 : decode cX8_reads 78 = .ok (.if_icmp .ne 28, 3) := by decide +kernel
theorem dX8_reads_81 : decode cX8_reads 81 = .ok (.aload_n 0, 1) := by decide +kernel
theorem dX8_reads_82 : decode cX8_reads 82 = .ok (.getfield 143, 3) := by decide +kernel
theorem dX8_reads_85 : decode cX8_reads 85 = .ok (.i2l, 1) := by decide +kernel
theorem dX8_reads_86 : decode cX8_reads 86 = .ok (.iload_n 2, 1) := by decide +kernel
theorem dX8_reads_87 : decode cX8_reads 87 = .ok (.invokestatic 214, 3) := by decide +kernel
theorem dX8_reads_90 : decode cX8_reads 90 = .ok (.i2l, 1) := by decide +kernel
theorem dX8_reads_91 : decode cX8_reads 91 = .ok (.iload_n 2, 1) := by decide +kernel
theorem dX8_reads_92 : decode cX8_reads 92 = .ok (.invokestatic 217, 3) := by decide +kernel
theorem dX8_reads_95 : decode cX8_reads 95 = .ok (.i2l, 1) := by decide +kernel
theorem dX8_reads_96 : decode cX8_reads 96 = .ok (.invokestatic 49, 3) := by decide +kernel
theorem dX8_reads_99 : decode cX8_reads 99 = .ok (.ifCond .eq 7, 3) := by decide +kernel
theorem dX8_reads_102 : decode cX8_reads 102 = .ok (.iconst 1, 1) := by decide +kernel
theorem dX8_reads_103 : decode cX8_reads 103 = .ok (.goto 4, 3) := by decide +kernel
theorem dX8_reads_106 : decode cX8_reads 106 = .ok (.iconst 0, 1) := by decide +kernel
theorem dX8_reads_107 : decode cX8_reads 107 = .ok (.invokevirtual 207, 3) := by decide +kernel
theorem dX8_reads_110 : decode cX8_reads 110 = .ok (.aload_n 0, 1) := by decide +kernel
theorem dX8_reads_111 : decode cX8_reads 111 = .ok (.getfield 200, 3) := by decide +kernel
theorem dX8_reads_114 : decode cX8_reads 114 = .ok (.ifCond .eq 4, 3) := by decide +kernel
theorem dX8_reads_117 : decode cX8_reads 117 = .ok (.return_, 1) := by decide +kernel
theorem dX8_reads_118 : decode cX8_reads 118 = .ok (.aload_n 0, 1) := by decide +kernel
theorem dX8_reads_119 : decode cX8_reads 119 = .ok (.getfield 9, 3) := by decide +kernel
theorem dX8_reads_122 : decode cX8_reads 122 = .ok (.iload_n 1, 1) := by decide +kernel
theorem dX8_reads_123 : decode cX8_reads 123 = .ok (.iconst 1, 1) := by decide +kernel
theorem dX8_reads_124 : decode cX8_reads 124 = .ok (.iadd, 1) := by decide +kernel
theorem dX8_reads_125 : decode cX8_reads 125 = .ok (.iconst 2, 1) := by decide +kernel
theorem dX8_reads_126 : decode cX8_reads 126 = .ok (.aload_n 0, 1) := by decide +kernel
theorem dX8_reads_127 : decode cX8_reads 127 = .ok (.getfield 9, 3) := by decide +kernel
theorem dX8_reads_130 : decode cX8_reads 130 = .ok (.iload_n 1, 1) := by decide +kernel
theorem dX8_reads_131 : decode cX8_reads 131 = .ok (.iaload, 1) := by decide +kernel
theorem dX8_reads_132 : decode cX8_reads 132 = .ok (.imul, 1) := by decide +kernel
theorem dX8_reads_133 : decode cX8_reads 133 = .ok (.iadd, 1) := by decide +kernel
theorem dX8_reads_134 : decode cX8_reads 134 = .ok (.iload_n 2, 1) := by decide +kernel
theorem dX8_reads_135 : decode cX8_reads 135 = .ok (.iastore, 1) := by decide +kernel
theorem dX8_reads_136 : decode cX8_reads 136 = .ok (.aload_n 0, 1) := by decide +kernel
theorem dX8_reads_137 : decode cX8_reads 137 = .ok (.getfield 9, 3) := by decide +kernel
theorem dX8_reads_140 : decode cX8_reads 140 = .ok (.iload_n 1, 1) := by decide +kernel
theorem dX8_reads_141 : decode cX8_reads 141 = .ok (.iconst 2, 1) := by decide +kernel
theorem dX8_reads_142 : decode cX8_reads 142 = .ok (.iadd, 1) := by decide +kernel
theorem dX8_reads_143 : decode cX8_reads 143 = .ok (.iconst 2, 1) := by decide +kernel
theorem dX8_reads_144 : decode cX8_reads 144 = .ok (.aload_n 0, 1) := by decide +kernel
theorem dX8_reads_145 : decode cX8_reads 145 = .ok (.getfield 9, 3) := by decide +kernel
theorem dX8_reads_148 : decode cX8_reads 148 = .ok (.iload_n 1, 1) := by decide +kernel
theorem dX8_reads_149 : decode cX8_reads 149 = .ok (.iaload, 1) := by decide +kernel
theorem dX8_reads_150 : decode cX8_reads 150 = .ok (.imul, 1) := by decide +kernel
theorem dX8_reads_151 : decode cX8_reads 151 = .ok (.iadd, 1) := by decide +kernel
theorem dX8_reads_152 : decode cX8_reads 152 = .ok (.iload_n 3, 1) := by decide +kernel
theorem dX8_reads_153 : decode cX8_reads 153 = .ok (.aload_n 0, 1) := by decide +kernel
theorem dX8_reads_154 : decode cX8_reads 154 = .ok (.getfield 143, 3) := by decide +kernel
theorem dX8_reads_157 : decode cX8_reads 157 = .ok (.imul, 1) := by decide +kernel
theorem dX8_reads_158 : decode cX8_reads 158 = .ok (.iastore, 1) := by decide +kernel
theorem dX8_reads_159 : decode cX8_reads 159 = .ok (.aload_n 0, 1) := by decide +kernel
theorem dX8_reads_160 : decode cX8_reads 160 = .ok (.getfield 9, 3) := by decide +kernel
theorem dX8_reads_163 : decode cX8_reads 163 = .ok (.iload_n 1, 1) := by decide +kernel
theorem dX8_reads_164 : decode cX8_reads 164 = .ok (.dup2, 1) := by decide +kernel
theorem dX8_reads_165 : decode cX8_reads 165 = .ok (.iaload, 1) := by decide +kernel
theorem dX8_reads_166 : decode cX8_reads 166 = .ok (.iconst 1, 1) := by decide +kernel
theorem dX8_reads_167 : decode cX8_reads 167 = .ok (.iadd, 1) := by decide +kernel
theorem dX8_reads_168 : decode cX8_reads 168 = .ok (.iastore, 1) := by decide +kernel
theorem dX8_reads_169 : decode cX8_reads 169 = .ok (.aload_n 0, 1) := by decide +kernel
theorem dX8_reads_170 : decode cX8_reads 170 = .ok (.invokevirtual 211, 3) := by decide +kernel
theorem dX8_reads_173 : decode cX8_reads 173 = .ok (.return_, 1) := by decide +kernel
theorem dX8_program_0 : decode cX8_program 0 = .ok (.aload_n 0, 1) := by decide +kernel
theorem dX8_program_1 : decode cX8_program 1 = .ok (.getfield 9, 3) := by decide +kernel
theorem dX8_program_4 : decode cX8_program 4 = .ok (.bipush 13, 2) := by decide +kernel
theorem dX8_program_6 : decode cX8_program 6 = .ok (.iaload, 1) := by decide +kernel
end
section
/-! decode rows 2 -/
theorem dX8_program_7 : decode cX8_program 7 = .ok (.bipush 6, 2) := by decide +kernel
theorem dX8_program_9 : decode cX8_program 9 = .ok (.if_icmp .ne 10, 3) := by decide +kernel
theorem dX8_program_12 : decode cX8_program 12 = .ok (.aload_n 0, 1) := by decide +kernel
theorem dX8_program_13 : decode cX8_program 13 = .ok (.ldc 85, 2) := by decide +kernel
theorem dX8_program_15 : decode cX8_program 15 = .ok (.invokevirtual 61, 3) := by decide +kernel
theorem dX8_program_18 : decode cX8_program 18 = .ok (.ireturn, 1) := by decide +kernel
theorem dX8_program_19 : decode cX8_program 19 = .ok (.sipush 134, 3) := by decide +kernel
theorem dX8_program_22 : decode cX8_program 22 = .ok (.bipush 25, 2) := by decide +kernel
theorem dX8_program_24 : decode cX8_program 24 = .ok (.aload_n 0, 1) := by decide +kernel
theorem dX8_program_25 : decode cX8_program 25 = .ok (.getfield 9, 3) := by decide +kernel
theorem dX8_program_28 : decode cX8_program 28 = .ok (.bipush 13, 2) := by decide +kernel
theorem dX8_program_30 : decode cX8_program 30 = .ok (.iaload, 1) := by decide +kernel
theorem dX8_program_31 : decode cX8_program 31 = .ok (.imul, 1) := by decide +kernel
theorem dX8_program_32 : decode cX8_program 32 = .ok (.iadd, 1) := by decide +kernel
theorem dX8_program_33 : decode cX8_program 33 = .ok (.istore_n 1, 1) := by decide +kernel
theorem dX8_program_34 : decode cX8_program 34 = .ok (.aload_n 0, 1) := by decide +kernel
theorem dX8_program_35 : decode cX8_program 35 = .ok (.getfield 9, 3) := by decide +kernel
theorem dX8_program_38 : decode cX8_program 38 = .ok (.iload_n 1, 1) := by decide +kernel
theorem dX8_program_39 : decode cX8_program 39 = .ok (.iconst 0, 1) := by decide +kernel
theorem dX8_program_40 : decode cX8_program 40 = .ok (.iastore, 1) := by decide +kernel
theorem dX8_program_41 : decode cX8_program 41 = .ok (.aload_n 0, 1) := by decide +kernel
theorem dX8_program_42 : decode cX8_program 42 = .ok (.iconst 0, 1) := by decide +kernel
theorem dX8_program_43 : decode cX8_program 43 = .ok (.putfield 133, 3) := by decide +kernel
theorem dX8_program_46 : decode cX8_program 46 = .ok (.aload_n 0, 1) := by decide +kernel
theorem dX8_program_47 : decode cX8_program 47 = .ok (.iconst 0, 1) := by decide +kernel
theorem dX8_program_48 : decode cX8_program 48 = .ok (.putfield 200, 3) := by decide +kernel
theorem dX8_program_51 : decode cX8_program 51 = .ok (.aload_n 0, 1) := by decide +kernel
theorem dX8_program_52 : decode cX8_program 52 = .ok (.invokevirtual 211, 3) := by decide +kernel
theorem dX8_program_55 : decode cX8_program 55 = .ok (.aload_n 0, 1) := by decide +kernel
theorem dX8_program_56 : decode cX8_program 56 = .ok (.iload_n 1, 1) := by decide +kernel
theorem dX8_program_57 : decode cX8_program 57 = .ok (.invokevirtual 220, 3) := by decide +kernel
theorem dX8_program_60 : decode cX8_program 60 = .ok (.aload_n 0, 1) := by decide +kernel
theorem dX8_program_61 : decode cX8_program 61 = .ok (.getfield 200, 3) := by decide +kernel
theorem dX8_program_64 : decode cX8_program 64 = .ok (.ifCond .ne 55, 3) := by decide +kernel
theorem dX8_program_67 : decode cX8_program 67 = .ok (.aload_n 0, 1) := by decide +kernel
theorem dX8_program_68 : decode cX8_program 68 = .ok (.getfield 146, 3) := by decide +kernel
theorem dX8_program_71 : decode cX8_program 71 = .ok (.ifCond .eq 48, 3) := by decide +kernel
theorem dX8_program_74 : decode cX8_program 74 = .ok (.aload_n 0, 1) := by decide +kernel
theorem dX8_program_75 : decode cX8_program 75 = .ok (.aload_n 0, 1) := by decide +kernel
theorem dX8_program_76 : decode cX8_program 76 = .ok (.getfield 146, 3) := by decide +kernel
theorem dX8_program_79 : decode cX8_program 79 = .ok (.iconst 3, 1) := by decide +kernel
theorem dX8_program_80 : decode cX8_program 80 = .ok (.if_icmp .ne 16, 3) := by decide +kernel
theorem dX8_program_83 : decode cX8_program 83 = .ok (.aload_n 0, 1) := by decide +kernel
theorem dX8_program_84 : decode cX8_program 84 = .ok (.getfield 143, 3) := by decide +kernel
theorem dX8_program_87 : decode cX8_program 87 = .ok (.bipush 59, 2) := by decide +kernel
theorem dX8_program_89 : decode cX8_program 89 = .ok (.if_icmp .ne 7, 3) := by decide +kernel
theorem dX8_program_92 : decode cX8_program 92 = .ok (.iconst 1, 1) := by decide +kernel
theorem dX8_program_93 : decode cX8_program 93 = .ok (.goto 4, 3) := by decide +kernel
theorem dX8_program_96 : decode cX8_program 96 = .ok (.iconst 0, 1) := by decide +kernel
theorem dX8_program_97 : decode cX8_program 97 = .ok (.invokevirtual 207, 3) := by decide +kernel
theorem dX8_program_100 : decode cX8_program 100 = .ok (.aload_n 0, 1) := by decide +kernel
theorem dX8_program_101 : decode cX8_program 101 = .ok (.getfield 200, 3) := by decide +kernel
theorem dX8_program_104 : decode cX8_program 104 = .ok (.ifCond .ne (-44), 3) := by decide +kernel
theorem dX8_program_107 : decode cX8_program 107 = .ok (.aload_n 0, 1) := by decide +kernel
theorem dX8_program_108 : decode cX8_program 108 = .ok (.invokevirtual 211, 3) := by decide +kernel
theorem dX8_program_111 : decode cX8_program 111 = .ok (.aload_n 0, 1) := by decide +kernel
theorem dX8_program_112 : decode cX8_program 112 = .ok (.iload_n 1, 1) := by decide +kernel
theorem dX8_program_113 : decode cX8_program 113 = .ok (.invokevirtual 220, 3) := by decide +kernel
theorem dX8_program_116 : decode cX8_program 116 = .ok (.goto (-56), 3) := by decide +kernel
theorem dX8_program_119 : decode cX8_program 119 = .ok (.aload_n 0, 1) := by decide +kernel
theorem dX8_program_120 : decode cX8_program 120 = .ok (.iconst 0, 1) := by decide +kernel
theorem dX8_program_121 : decode cX8_program 121 = .ok (.putfield 129, 3) := by decide +kernel
theorem dX8_program_124 : decode cX8_program 124 = .ok (.aload_n 0, 1) := by decide +kernel
theorem dX8_program_125 : decode cX8_program 125 = .ok (.getfield 200, 3) := by decide +kernel
theorem dX8_program_128 : decode cX8_program 128 = .ok (.ifCond .eq 10, 3) := by decide +kernel
theorem dX8_program_131 : decode cX8_program 131 = .ok (.iconst (-1), 1) := by decide +kernel
theorem dX8_program_132 : decode cX8_program 132 = .ok (.aload_n 0, 1) := by decide +kernel
theorem dX8_program_133 : decode cX8_program 133 = .ok (.getfield 136, 3) := by decide +kernel
theorem dX8_program_136 : decode cX8_program 136 = .ok (.isub, 1) := by decide +kernel
theorem dX8_program_137 : decode cX8_program 137 = .ok (.ireturn, 1) := by decide +kernel
theorem dX8_program_138 : decode cX8_program 138 = .ok (.aload_n 0, 1) := by decide +kernel
theorem dX8_program_139 : decode cX8_program 139 = .ok (.getfield 9, 3) := by decide +kernel
theorem dX8_program_142 : decode cX8_program 142 = .ok (.bipush 13, 2) := by decide +kernel
theorem dX8_program_144 : decode cX8_program 144 = .ok (.dup2, 1) := by decide +kernel
theorem dX8_program_145 : decode cX8_program 145 = .ok (.iaload, 1) := by decide +kernel
theorem dX8_program_146 : decode cX8_program 146 = .ok (.iconst 1, 1) := by decide +kernel
theorem dX8_program_147 : decode cX8_program 147 = .ok (.iadd, 1) := by decide +kernel
theorem dX8_program_148 : decode cX8_program 148 = .ok (.iastore, 1) := by decide +kernel
theorem dX8_program_149 : decode cX8_program 149 = .ok (.aload_n 0, 1) := by decide +kernel
theorem dX8_program_150 : decode cX8_program 150 = .ok (.getfield 9, 3) := by decide +kernel
theorem dX8_program_153 : decode cX8_program 153 = .ok (.bipush 13, 2) := by decide +kernel
theorem dX8_program_155 : decode cX8_program 155 = .ok (.iaload, 1) := by decide +kernel
theorem dX8_program_156 : decode cX8_program 156 = .ok (.iconst 1, 1) := by decide +kernel
theorem dX8_program_157 : decode cX8_program 157 = .ok (.isub, 1) := by decide +kernel
theorem dX8_program_158 : decode cX8_program 158 = .ok (.ireturn, 1) := by decide +kernel
theorem dX8_isProgram_0 : decode cX8_isProgram 0 = .ok (.iload_n 1, 1) := by decide +kernel
theorem dX8_isProgram_1 : decode cX8_isProgram 1 = .ok (.i2l, 1) := by decide +kernel
theorem dX8_isProgram_2 : decode cX8_isProgram 2 = .ok (.lconst 0, 1) := by decide +kernel
theorem dX8_isProgram_3 : decode cX8_isProgram 3 = .ok (.aload_n 0, 1) := by decide +kernel
theorem dX8_isProgram_4 : decode cX8_isProgram 4 = .ok (.getfield 9, 3) := by decide +kernel
theorem dX8_isProgram_7 : decode cX8_isProgram 7 = .ok (.bipush 13, 2) := by decide +kernel
theorem dX8_isProgram_9 : decode cX8_isProgram 9 = .ok (.iaload, 1) := by decide +kernel
theorem dX8_isProgram_10 : decode cX8_isProgram 10 = .ok (.iconst 1, 1) := by decide +kernel
theorem dX8_isProgram_11 : decode cX8_isProgram 11 = .ok (.isub, 1) := by decide +kernel
theorem dX8_isProgram_12 : decode cX8_isProgram 12 = .ok (.i2l, 1) := by decide +kernel
theorem dX8_isProgram_13 : decode cX8_isProgram 13 = .ok (.invokestatic 49, 3) := by decide +kernel
theorem dX8_isProgram_16 : decode cX8_isProgram 16 = .ok (.ireturn, 1) := by decide +kernel
theorem dX8_programOf_0 : decode cX8_programOf 0 = .ok (.aload_n 0, 1) := by decide +kernel
theorem dX8_programOf_1 : decode cX8_programOf 1 = .ok (.iload_n 1, 1) := by decide +kernel
theorem dX8_programOf_2 : decode cX8_programOf 2 = .ok (.invokevirtual 224, 3) := by decide +kernel
theorem dX8_programOf_5 : decode cX8_programOf 5 = .ok (.ifCond .eq 13, 3) := by decide +kernel
theorem dX8_programOf_8 : decode cX8_programOf 8 = .ok (.iload_n 2, 1) := by decide +kernel
theorem dX8_programOf_9 : decode cX8_programOf 9 = .ok (.i2l, 1) := by decide +kernel
theorem dX8_programOf_10 : decode cX8_programOf 10 = .ok (.lconst 0, 1) := by decide +kernel
theorem dX8_programOf_11 : decode cX8_programOf 11 = .ok (.lconst 1, 1) := by decide +kernel
theorem dX8_programOf_12 : decode cX8_programOf 12 = .ok (.invokestatic 49, 3) := by decide +kernel
theorem dX8_programOf_15 : decode cX8_programOf 15 = .ok (.ifCond .ne 10, 3) := by decide +kernel
theorem dX8_programOf_18 : decode cX8_programOf 18 = .ok (.aload_n 0, 1) := by decide +kernel
theorem dX8_programOf_19 : decode cX8_programOf 19 = .ok (.ldc 46, 2) := by decide +kernel
theorem dX8_programOf_21 : decode cX8_programOf 21 = .ok (.invokevirtual 61, 3) := by decide +kernel
theorem dX8_programOf_24 : decode cX8_programOf 24 = .ok (.ireturn, 1) := by decide +kernel
theorem dX8_programOf_25 : decode cX8_programOf 25 = .ok (.sipush 134, 3) := by decide +kernel
theorem dX8_programOf_28 : decode cX8_programOf 28 = .ok (.bipush 25, 2) := by decide +kernel
theorem dX8_programOf_30 : decode cX8_programOf 30 = .ok (.iload_n 1, 1) := by decide +kernel
theorem dX8_programOf_31 : decode cX8_programOf 31 = .ok (.imul, 1) := by decide +kernel
theorem dX8_programOf_32 : decode cX8_programOf 32 = .ok (.iadd, 1) := by decide +kernel
theorem dX8_programOf_33 : decode cX8_programOf 33 = .ok (.istore_n 3, 1) := by decide +kernel
theorem dX8_programOf_34 : decode cX8_programOf 34 = .ok (.iconst 0, 1) := by decide +kernel
theorem dX8_programOf_35 : decode cX8_programOf 35 = .ok (.istore 4, 2) := by decide +kernel
theorem dX8_programOf_37 : decode cX8_programOf 37 = .ok (.iconst 0, 1) := by decide +kernel
theorem dX8_programOf_38 : decode cX8_programOf 38 = .ok (.istore 5, 2) := by decide +kernel
theorem dX8_programOf_40 : decode cX8_programOf 40 = .ok (.iload 5, 2) := by decide +kernel
theorem dX8_programOf_42 : decode cX8_programOf 42 = .ok (.aload_n 0, 1) := by decide +kernel
theorem dX8_programOf_43 : decode cX8_programOf 43 = .ok (.getfield 9, 3) := by decide +kernel
theorem dX8_programOf_46 : decode cX8_programOf 46 = .ok (.iload_n 3, 1) := by decide +kernel
theorem dX8_programOf_47 : decode cX8_programOf 47 = .ok (.iaload, 1) := by decide +kernel
theorem dX8_programOf_48 : decode cX8_programOf 48 = .ok (.if_icmp .ge 49, 3) := by decide +kernel
theorem dX8_programOf_51 : decode cX8_programOf 51 = .ok (.iload 4, 2) := by decide +kernel
theorem dX8_programOf_53 : decode cX8_programOf 53 = .ok (.aload_n 0, 1) := by decide +kernel
theorem dX8_programOf_54 : decode cX8_programOf 54 = .ok (.getfield 9, 3) := by decide +kernel
theorem dX8_programOf_57 : decode cX8_programOf 57 = .ok (.iload_n 3, 1) := by decide +kernel
theorem dX8_programOf_58 : decode cX8_programOf 58 = .ok (.iconst 1, 1) := by decide +kernel
theorem dX8_programOf_59 : decode cX8_programOf 59 = .ok (.iadd, 1) := by decide +kernel
theorem dX8_programOf_60 : decode cX8_programOf 60 = .ok (.iconst 2, 1) := by decide +kernel
theorem dX8_programOf_61 : decode cX8_programOf 61 = .ok (.iload 5, 2) := by decide +kernel
theorem dX8_programOf_63 : decode cX8_programOf 63 = .ok (.imul, 1) := by decide +kernel
theorem dX8_programOf_64 : decode cX8_programOf 64 = .ok (.iadd, 1) := by decide +kernel
theorem dX8_programOf_65 : decode cX8_programOf 65 = .ok (.iaload, 1) := by decide +kernel
theorem dX8_programOf_66 : decode cX8_programOf 66 = .ok (.bipush 12, 2) := by decide +kernel
theorem dX8_programOf_68 : decode cX8_programOf 68 = .ok (.if_icmp .ne 19, 3) := by decide +kernel
theorem dX8_programOf_71 : decode cX8_programOf 71 = .ok (.aload_n 0, 1) := by decide +kernel
theorem dX8_programOf_72 : decode cX8_programOf 72 = .ok (.getfield 9, 3) := by decide +kernel
theorem dX8_programOf_75 : decode cX8_programOf 75 = .ok (.iload_n 3, 1) := by decide +kernel
theorem dX8_programOf_76 : decode cX8_programOf 76 = .ok (.iconst 2, 1) := by decide +kernel
theorem dX8_programOf_77 : decode cX8_programOf 77 = .ok (.iadd, 1) := by decide +kernel
theorem dX8_programOf_78 : decode cX8_programOf 78 = .ok (.iconst 2, 1) := by decide +kernel
theorem dX8_programOf_79 : decode cX8_programOf 79 = .ok (.iload 5, 2) := by decide +kernel
theorem dX8_programOf_81 : decode cX8_programOf 81 = .ok (.imul, 1) := by decide +kernel
theorem dX8_programOf_82 : decode cX8_programOf 82 = .ok (.iadd, 1) := by decide +kernel
theorem dX8_programOf_83 : decode cX8_programOf 83 = .ok (.iaload, 1) := by decide +kernel
theorem dX8_programOf_84 : decode cX8_programOf 84 = .ok (.goto 4, 3) := by decide +kernel
theorem dX8_programOf_87 : decode cX8_programOf 87 = .ok (.iconst 0, 1) := by decide +kernel
theorem dX8_programOf_88 : decode cX8_programOf 88 = .ok (.iadd, 1) := by decide +kernel
theorem dX8_programOf_89 : decode cX8_programOf 89 = .ok (.istore 4, 2) := by decide +kernel
theorem dX8_programOf_91 : decode cX8_programOf 91 = .ok (.iinc 5 1, 3) := by decide +kernel
theorem dX8_programOf_94 : decode cX8_programOf 94 = .ok (.goto (-54), 3) := by decide +kernel
theorem dX8_programOf_97 : decode cX8_programOf 97 = .ok (.iload_n 2, 1) := by decide +kernel
theorem dX8_programOf_98 : decode cX8_programOf 98 = .ok (.ifCond .ne 12, 3) := by decide +kernel
theorem dX8_programOf_101 : decode cX8_programOf 101 = .ok (.aload_n 0, 1) := by decide +kernel
theorem dX8_programOf_102 : decode cX8_programOf 102 = .ok (.getfield 9, 3) := by decide +kernel
theorem dX8_programOf_105 : decode cX8_programOf 105 = .ok (.iload_n 3, 1) := by decide +kernel
theorem dX8_programOf_106 : decode cX8_programOf 106 = .ok (.iaload, 1) := by decide +kernel
theorem dX8_programOf_107 : decode cX8_programOf 107 = .ok (.goto 5, 3) := by decide +kernel
theorem dX8_programOf_110 : decode cX8_programOf 110 = .ok (.iload 4, 2) := by decide +kernel
theorem dX8_programOf_112 : decode cX8_programOf 112 = .ok (.ireturn, 1) := by decide +kernel
theorem dX8_plays_0 : decode cX8_plays 0 = .ok (.iload_n 1, 1) := by decide +kernel
theorem dX8_plays_1 : decode cX8_plays 1 = .ok (.bipush 7, 2) := by decide +kernel
theorem dX8_plays_3 : decode cX8_plays 3 = .ok (.if_icmp .ge 16, 3) := by decide +kernel
theorem dX8_plays_6 : decode cX8_plays 6 = .ok (.aload_n 0, 1) := by decide +kernel
theorem dX8_plays_7 : decode cX8_plays 7 = .ok (.getfield 9, 3) := by decide +kernel
theorem dX8_plays_10 : decode cX8_plays 10 = .ok (.bipush 32, 2) := by decide +kernel
theorem dX8_plays_12 : decode cX8_plays 12 = .ok (.iload_n 2, 1) := by decide +kernel
theorem dX8_plays_13 : decode cX8_plays 13 = .ok (.iadd, 1) := by decide +kernel
theorem dX8_plays_14 : decode cX8_plays 14 = .ok (.iload_n 1, 1) := by decide +kernel
theorem dX8_plays_15 : decode cX8_plays 15 = .ok (.iastore, 1) := by decide +kernel
theorem dX8_plays_16 : decode cX8_plays 16 = .ok (.goto 50, 3) := by decide +kernel
theorem dX8_plays_19 : decode cX8_plays 19 = .ok (.iload_n 1, 1) := by decide +kernel
theorem dX8_plays_20 : decode cX8_plays 20 = .ok (.bipush 11, 2) := by decide +kernel
theorem dX8_plays_22 : decode cX8_plays 22 = .ok (.if_icmp .ne 14, 3) := by decide +kernel
theorem dX8_plays_25 : decode cX8_plays 25 = .ok (.aload_n 0, 1) := by decide +kernel
theorem dX8_plays_26 : decode cX8_plays 26 = .ok (.getfield 9, 3) := by decide +kernel
theorem dX8_plays_29 : decode cX8_plays 29 = .ok (.iload_n 2, 1) := by decide +kernel
theorem dX8_plays_30 : decode cX8_plays 30 = .ok (.invokestatic 94, 3) := by decide +kernel
theorem dX8_plays_33 : decode cX8_plays 33 = .ok (.goto 33, 3) := by decide +kernel
theorem dX8_plays_36 : decode cX8_plays 36 = .ok (.iload_n 1, 1) := by decide +kernel
theorem dX8_plays_37 : decode cX8_plays 37 = .ok (.bipush 12, 2) := by decide +kernel
theorem dX8_plays_39 : decode cX8_plays 39 = .ok (.if_icmp .ne 15, 3) := by decide +kernel
theorem dX8_plays_42 : decode cX8_plays 42 = .ok (.aload_n 0, 1) := by decide +kernel
theorem dX8_plays_43 : decode cX8_plays 43 = .ok (.aload_n 0, 1) := by decide +kernel
theorem dX8_plays_44 : decode cX8_plays 44 = .ok (.getfield 9, 3) := by decide +kernel
theorem dX8_plays_47 : decode cX8_plays 47 = .ok (.iload_n 2, 1) := by decide +kernel
theorem dX8_plays_48 : decode cX8_plays 48 = .ok (.invokevirtual 113, 3) := by decide +kernel
theorem dX8_plays_51 : decode cX8_plays 51 = .ok (.goto 15, 3) := by decide +kernel
theorem dX8_plays_54 : decode cX8_plays 54 = .ok (.aload_n 0, 1) := by decide +kernel
theorem dX8_plays_55 : decode cX8_plays 55 = .ok (.getfield 9, 3) := by decide +kernel
theorem dX8_plays_58 : decode cX8_plays 58 = .ok (.iconst 0, 1) := by decide +kernel
theorem dX8_plays_59 : decode cX8_plays 59 = .ok (.iload_n 1, 1) := by decide +kernel
theorem dX8_plays_60 : decode cX8_plays 60 = .ok (.iadd, 1) := by decide +kernel
theorem dX8_plays_61 : decode cX8_plays 61 = .ok (.bipush 7, 2) := by decide +kernel
theorem dX8_plays_63 : decode cX8_plays 63 = .ok (.isub, 1) := by decide +kernel
theorem dX8_plays_64 : decode cX8_plays 64 = .ok (.iload_n 2, 1) := by decide +kernel
theorem dX8_plays_65 : decode cX8_plays 65 = .ok (.iastore, 1) := by decide +kernel
theorem dX8_plays_66 : decode cX8_plays 66 = .ok (.return_, 1) := by decide +kernel
theorem dX8_play_0 : decode cX8_play 0 = .ok (.aload_n 0, 1) := by decide +kernel
theorem dX8_play_1 : decode cX8_play 1 = .ok (.iload_n 1, 1) := by decide +kernel
theorem dX8_play_2 : decode cX8_play 2 = .ok (.invokevirtual 224, 3) := by decide +kernel
theorem dX8_play_5 : decode cX8_play 5 = .ok (.ifCond .ne 10, 3) := by decide +kernel
theorem dX8_play_8 : decode cX8_play 8 = .ok (.aload_n 0, 1) := by decide +kernel
theorem dX8_play_9 : decode cX8_play 9 = .ok (.ldc 46, 2) := by decide +kernel
theorem dX8_play_11 : decode cX8_play 11 = .ok (.invokevirtual 61, 3) := by decide +kernel
theorem dX8_play_14 : decode cX8_play 14 = .ok (.ireturn, 1) := by decide +kernel
theorem dX8_play_15 : decode cX8_play 15 = .ok (.sipush 134, 3) := by decide +kernel
theorem dX8_play_18 : decode cX8_play 18 = .ok (.bipush 25, 2) := by decide +kernel
theorem dX8_play_20 : decode cX8_play 20 = .ok (.iload_n 1, 1) := by decide +kernel
theorem dX8_play_21 : decode cX8_play 21 = .ok (.imul, 1) := by decide +kernel
theorem dX8_play_22 : decode cX8_play 22 = .ok (.iadd, 1) := by decide +kernel
theorem dX8_play_23 : decode cX8_play 23 = .ok (.istore_n 2, 1) := by decide +kernel
theorem dX8_play_24 : decode cX8_play 24 = .ok (.iconst 0, 1) := by decide +kernel
theorem dX8_play_25 : decode cX8_play 25 = .ok (.istore_n 3, 1) := by decide +kernel
theorem dX8_play_26 : decode cX8_play 26 = .ok (.iload_n 3, 1) := by decide +kernel
theorem dX8_play_27 : decode cX8_play 27 = .ok (.aload_n 0, 1) := by decide +kernel
theorem dX8_play_28 : decode cX8_play 28 = .ok (.getfield 9, 3) := by decide +kernel
theorem dX8_play_31 : decode cX8_play 31 = .ok (.iload_n 2, 1) := by decide +kernel
theorem dX8_play_32 : decode cX8_play 32 = .ok (.iaload, 1) := by decide +kernel
theorem dX8_play_33 : decode cX8_play 33 = .ok (.if_icmp .ge 37, 3) := by decide +kernel
theorem dX8_play_36 : decode cX8_play 36 = .ok (.aload_n 0, 1) := by decide +kernel
theorem dX8_play_37 : decode cX8_play 37 = .ok (.aload_n 0, 1) := by decide +kernel
theorem dX8_play_38 : decode cX8_play 38 = .ok (.getfield 9, 3) := by decide +kernel
theorem dX8_play_41 : decode cX8_play 41 = .ok (.iload_n 2, 1) := by decide +kernel
theorem dX8_play_42 : decode cX8_play 42 = .ok (.iconst 1, 1) := by decide +kernel
theorem dX8_play_43 : decode cX8_play 43 = .ok (.iadd, 1) := by decide +kernel
theorem dX8_play_44 : decode cX8_play 44 = .ok (.iconst 2, 1) := by decide +kernel
theorem dX8_play_45 : decode cX8_play 45 = .ok (.iload_n 3, 1) := by decide +kernel
theorem dX8_play_46 : decode cX8_play 46 = .ok (.imul, 1) := by decide +kernel
theorem dX8_play_47 : decode cX8_play 47 = .ok (.iadd, 1) := by decide +kernel
theorem dX8_play_48 : decode cX8_play 48 = .ok (.iaload, 1) := by decide +kernel
theorem dX8_play_49 : decode cX8_play 49 = .ok (.aload_n 0, 1) := by decide +kernel
theorem dX8_play_50 : decode cX8_play 50 = .ok (.getfield 9, 3) := by decide +kernel
theorem dX8_play_53 : decode cX8_play 53 = .ok (.iload_n 2, 1) := by decide +kernel
theorem dX8_play_54 : decode cX8_play 54 = .ok (.iconst 2, 1) := by decide +kernel
theorem dX8_play_55 : decode cX8_play 55 = .ok (.iadd, 1) := by decide +kernel
theorem dX8_play_56 : decode cX8_play 56 = .ok (.iconst 2, 1) := by decide +kernel
theorem dX8_play_57 : decode cX8_play 57 = .ok (.iload_n 3, 1) := by decide +kernel
theorem dX8_play_58 : decode cX8_play 58 = .ok (.imul, 1) := by decide +kernel
theorem dX8_play_59 : decode cX8_play 59 = .ok (.iadd, 1) := by decide +kernel
theorem dX8_play_60 : decode cX8_play 60 = .ok (.iaload, 1) := by decide +kernel
theorem dX8_play_61 : decode cX8_play 61 = .ok (.invokevirtual 227, 3) := by decide +kernel
theorem dX8_play_64 : decode cX8_play 64 = .ok (.iinc 3 1, 3) := by decide +kernel
theorem dX8_play_67 : decode cX8_play 67 = .ok (.goto (-41), 3) := by decide +kernel
theorem dX8_play_70 : decode cX8_play 70 = .ok (.aload_n 0, 1) := by decide +kernel
theorem dX8_play_71 : decode cX8_play 71 = .ok (.getfield 9, 3) := by decide +kernel
theorem dX8_play_74 : decode cX8_play 74 = .ok (.iconst 4, 1) := by decide +kernel
theorem dX8_play_75 : decode cX8_play 75 = .ok (.iaload, 1) := by decide +kernel
theorem dX8_play_76 : decode cX8_play 76 = .ok (.ireturn, 1) := by decide +kernel
theorem dX8_ahead_0 : decode cX8_ahead 0 = .ok (.iload_n 1, 1) := by decide +kernel
theorem dX8_ahead_1 : decode cX8_ahead 1 = .ok (.i2l, 1) := by decide +kernel
theorem dX8_ahead_2 : decode cX8_ahead 2 = .ok (.lconst 0, 1) := by decide +kernel
theorem dX8_ahead_3 : decode cX8_ahead 3 = .ok (.ldc2_w 231, 3) := by decide +kernel
theorem dX8_ahead_6 : decode cX8_ahead 6 = .ok (.invokestatic 49, 3) := by decide +kernel
theorem dX8_ahead_9 : decode cX8_ahead 9 = .ok (.ifCond .eq 15, 3) := by decide +kernel
theorem dX8_ahead_12 : decode cX8_ahead 12 = .ok (.iload_n 2, 1) := by decide +kernel
theorem dX8_ahead_13 : decode cX8_ahead 13 = .ok (.i2l, 1) := by decide +kernel
theorem dX8_ahead_14 : decode cX8_ahead 14 = .ok (.lconst 0, 1) := by decide +kernel
theorem dX8_ahead_15 : decode cX8_ahead 15 = .ok (.ldc2_w 233, 3) := by decide +kernel
theorem dX8_ahead_18 : decode cX8_ahead 18 = .ok (.invokestatic 49, 3) := by decide +kernel
theorem dX8_ahead_21 : decode cX8_ahead 21 = .ok (.ifCond .ne 10, 3) := by decide +kernel
theorem dX8_ahead_24 : decode cX8_ahead 24 = .ok (.aload_n 0, 1) := by decide +kernel
theorem dX8_ahead_25 : decode cX8_ahead 25 = .ok (.ldc 46, 2) := by decide +kernel
theorem dX8_ahead_27 : decode cX8_ahead 27 = .ok (.invokevirtual 61, 3) := by decide +kernel
theorem dX8_ahead_30 : decode cX8_ahead 30 = .ok (.ireturn, 1) := by decide +kernel
theorem dX8_ahead_31 : decode cX8_ahead 31 = .ok (.aload_n 0, 1) := by decide +kernel
theorem dX8_ahead_32 : decode cX8_ahead 32 = .ok (.getfield 9, 3) := by decide +kernel
theorem dX8_ahead_35 : decode cX8_ahead 35 = .ok (.aload_n 0, 1) := by decide +kernel
theorem dX8_ahead_36 : decode cX8_ahead 36 = .ok (.getfield 13, 3) := by decide +kernel
theorem dX8_ahead_39 : decode cX8_ahead 39 = .ok (.invokestatic 235, 3) := by decide +kernel
theorem dX8_ahead_42 : decode cX8_ahead 42 = .ok (.aload_n 0, 1) := by decide +kernel
theorem dX8_ahead_43 : decode cX8_ahead 43 = .ok (.aload_n 0, 1) := by decide +kernel
theorem dX8_ahead_44 : decode cX8_ahead 44 = .ok (.getfield 13, 3) := by decide +kernel
theorem dX8_ahead_47 : decode cX8_ahead 47 = .ok (.iload_n 1, 1) := by decide +kernel
theorem dX8_ahead_48 : decode cX8_ahead 48 = .ok (.invokevirtual 113, 3) := by decide +kernel
theorem dX8_ahead_51 : decode cX8_ahead 51 = .ok (.iload_n 2, 1) := by decide +kernel
theorem dX8_ahead_52 : decode cX8_ahead 52 = .ok (.ifCond .ne 12, 3) := by decide +kernel
theorem dX8_ahead_55 : decode cX8_ahead 55 = .ok (.aload_n 0, 1) := by decide +kernel
theorem dX8_ahead_56 : decode cX8_ahead 56 = .ok (.getfield 13, 3) := by decide +kernel
theorem dX8_ahead_59 : decode cX8_ahead 59 = .ok (.iconst 4, 1) := by decide +kernel
theorem dX8_ahead_60 : decode cX8_ahead 60 = .ok (.iaload, 1) := by decide +kernel
theorem dX8_ahead_61 : decode cX8_ahead 61 = .ok (.goto 47, 3) := by decide +kernel
theorem dX8_ahead_64 : decode cX8_ahead 64 = .ok (.iload_n 2, 1) := by decide +kernel
theorem dX8_ahead_65 : decode cX8_ahead 65 = .ok (.iconst 1, 1) := by decide +kernel
theorem dX8_ahead_66 : decode cX8_ahead 66 = .ok (.if_icmp .ne 12, 3) := by decide +kernel
theorem dX8_ahead_69 : decode cX8_ahead 69 = .ok (.aload_n 0, 1) := by decide +kernel
theorem dX8_ahead_70 : decode cX8_ahead 70 = .ok (.getfield 13, 3) := by decide +kernel
theorem dX8_ahead_73 : decode cX8_ahead 73 = .ok (.iconst 5, 1) := by decide +kernel
theorem dX8_ahead_74 : decode cX8_ahead 74 = .ok (.iaload, 1) := by decide +kernel
theorem dX8_ahead_75 : decode cX8_ahead 75 = .ok (.goto 33, 3) := by decide +kernel
theorem dX8_ahead_78 : decode cX8_ahead 78 = .ok (.iload_n 2, 1) := by decide +kernel
theorem dX8_ahead_79 : decode cX8_ahead 79 = .ok (.iconst 2, 1) := by decide +kernel
theorem dX8_ahead_80 : decode cX8_ahead 80 = .ok (.if_icmp .ne 13, 3) := by decide +kernel
theorem dX8_ahead_83 : decode cX8_ahead 83 = .ok (.aload_n 0, 1) := by decide +kernel
theorem dX8_ahead_84 : decode cX8_ahead 84 = .ok (.getfield 13, 3) := by decide +kernel
theorem dX8_ahead_87 : decode cX8_ahead 87 = .ok (.invokestatic 116, 3) := by decide +kernel
theorem dX8_ahead_90 : decode cX8_ahead 90 = .ok (.goto 18, 3) := by decide +kernel
theorem dX8_ahead_93 : decode cX8_ahead 93 = .ok (.aload_n 0, 1) := by decide +kernel
theorem dX8_ahead_94 : decode cX8_ahead 94 = .ok (.getfield 13, 3) := by decide +kernel
theorem dX8_ahead_97 : decode cX8_ahead 97 = .ok (.bipush 10, 2) := by decide +kernel
theorem dX8_ahead_99 : decode cX8_ahead 99 = .ok (.iaload, 1) := by decide +kernel
theorem dX8_ahead_100 : decode cX8_ahead 100 = .ok (.aload_n 0, 1) := by decide +kernel
theorem dX8_ahead_101 : decode cX8_ahead 101 = .ok (.getfield 9, 3) := by decide +kernel
theorem dX8_ahead_104 : decode cX8_ahead 104 = .ok (.bipush 10, 2) := by decide +kernel
theorem dX8_ahead_106 : decode cX8_ahead 106 = .ok (.iaload, 1) := by decide +kernel
theorem dX8_ahead_107 : decode cX8_ahead 107 = .ok (.isub, 1) := by decide +kernel
theorem dX8_ahead_108 : decode cX8_ahead 108 = .ok (.ireturn, 1) := by decide +kernel
theorem dX8_differ_0 : decode cX8_differ 0 = .ok (.aload_n 0, 1) := by decide +kernel
theorem dX8_differ_1 : decode cX8_differ 1 = .ok (.iconst 4, 1) := by decide +kernel
theorem dX8_differ_2 : decode cX8_differ 2 = .ok (.iaload, 1) := by decide +kernel
theorem dX8_differ_3 : decode cX8_differ 3 = .ok (.aload_n 1, 1) := by decide +kernel
theorem dX8_differ_4 : decode cX8_differ 4 = .ok (.iconst 4, 1) := by decide +kernel
theorem dX8_differ_5 : decode cX8_differ 5 = .ok (.iaload, 1) := by decide +kernel
theorem dX8_differ_6 : decode cX8_differ 6 = .ok (.isub, 1) := by decide +kernel
theorem dX8_differ_7 : decode cX8_differ 7 = .ok (.istore_n 2, 1) := by decide +kernel
theorem dX8_differ_8 : decode cX8_differ 8 = .ok (.iload_n 2, 1) := by decide +kernel
theorem dX8_differ_9 : decode cX8_differ 9 = .ok (.ifCond .ge 8, 3) := by decide +kernel
theorem dX8_differ_12 : decode cX8_differ 12 = .ok (.iload_n 2, 1) := by decide +kernel
theorem dX8_differ_13 : decode cX8_differ 13 = .ok (.ineg, 1) := by decide +kernel
theorem dX8_differ_14 : decode cX8_differ 14 = .ok (.goto 4, 3) := by decide +kernel
theorem dX8_differ_17 : decode cX8_differ 17 = .ok (.iload_n 2, 1) := by decide +kernel
theorem dX8_differ_18 : decode cX8_differ 18 = .ok (.ireturn, 1) := by decide +kernel
theorem dX8_twoBegin_0 : decode cX8_twoBegin 0 = .ok (.aload_n 0, 1) := by decide +kernel
theorem dX8_twoBegin_1 : decode cX8_twoBegin 1 = .ok (.getfield 9, 3) := by decide +kernel
theorem dX8_twoBegin_4 : decode cX8_twoBegin 4 = .ok (.aload_n 0, 1) := by decide +kernel
theorem dX8_twoBegin_5 : decode cX8_twoBegin 5 = .ok (.getfield 13, 3) := by decide +kernel
theorem dX8_twoBegin_8 : decode cX8_twoBegin 8 = .ok (.invokestatic 235, 3) := by decide +kernel
theorem dX8_twoBegin_11 : decode cX8_twoBegin 11 = .ok (.aload_n 0, 1) := by decide +kernel
theorem dX8_twoBegin_12 : decode cX8_twoBegin 12 = .ok (.getfield 9, 3) := by decide +kernel
theorem dX8_twoBegin_15 : decode cX8_twoBegin 15 = .ok (.aload_n 0, 1) := by decide +kernel
theorem dX8_twoBegin_16 : decode cX8_twoBegin 16 = .ok (.getfield 16, 3) := by decide +kernel
theorem dX8_twoBegin_19 : decode cX8_twoBegin 19 = .ok (.invokestatic 235, 3) := by decide +kernel
theorem dX8_twoBegin_22 : decode cX8_twoBegin 22 = .ok (.aload_n 0, 1) := by decide +kernel
theorem dX8_twoBegin_23 : decode cX8_twoBegin 23 = .ok (.getfield 16, 3) := by decide +kernel
theorem dX8_twoBegin_26 : decode cX8_twoBegin 26 = .ok (.iload_n 1, 1) := by decide +kernel
theorem dX8_twoBegin_27 : decode cX8_twoBegin 27 = .ok (.invokestatic 94, 3) := by decide +kernel
theorem dX8_twoBegin_30 : decode cX8_twoBegin 30 = .ok (.return_, 1) := by decide +kernel
theorem dX8_apart_0 : decode cX8_apart 0 = .ok (.iload_n 1, 1) := by decide +kernel
theorem dX8_apart_1 : decode cX8_apart 1 = .ok (.i2l, 1) := by decide +kernel
theorem dX8_apart_2 : decode cX8_apart 2 = .ok (.ldc2_w 90, 3) := by decide +kernel
theorem dX8_apart_5 : decode cX8_apart 5 = .ok (.ldc2_w 92, 3) := by decide +kernel
theorem dX8_apart_8 : decode cX8_apart 8 = .ok (.invokestatic 49, 3) := by decide +kernel
theorem dX8_apart_11 : decode cX8_apart 11 = .ok (.ifCond .eq 15, 3) := by decide +kernel
theorem dX8_apart_14 : decode cX8_apart 14 = .ok (.iload_n 2, 1) := by decide +kernel
theorem dX8_apart_15 : decode cX8_apart 15 = .ok (.i2l, 1) := by decide +kernel
theorem dX8_apart_16 : decode cX8_apart 16 = .ok (.lconst 0, 1) := by decide +kernel
theorem dX8_apart_17 : decode cX8_apart 17 = .ok (.ldc2_w 231, 3) := by decide +kernel
theorem dX8_apart_20 : decode cX8_apart 20 = .ok (.invokestatic 49, 3) := by decide +kernel
theorem dX8_apart_23 : decode cX8_apart 23 = .ok (.ifCond .ne 10, 3) := by decide +kernel
theorem dX8_apart_26 : decode cX8_apart 26 = .ok (.aload_n 0, 1) := by decide +kernel
theorem dX8_apart_27 : decode cX8_apart 27 = .ok (.ldc 46, 2) := by decide +kernel
theorem dX8_apart_29 : decode cX8_apart 29 = .ok (.invokevirtual 61, 3) := by decide +kernel
theorem dX8_apart_32 : decode cX8_apart 32 = .ok (.ireturn, 1) := by decide +kernel
theorem dX8_apart_33 : decode cX8_apart 33 = .ok (.aload_n 0, 1) := by decide +kernel
theorem dX8_apart_34 : decode cX8_apart 34 = .ok (.iload_n 1, 1) := by decide +kernel
theorem dX8_apart_35 : decode cX8_apart 35 = .ok (.invokevirtual 239, 3) := by decide +kernel
theorem dX8_apart_38 : decode cX8_apart 38 = .ok (.aload_n 0, 1) := by decide +kernel
theorem dX8_apart_39 : decode cX8_apart 39 = .ok (.aload_n 0, 1) := by decide +kernel
theorem dX8_apart_40 : decode cX8_apart 40 = .ok (.getfield 13, 3) := by decide +kernel
theorem dX8_apart_43 : decode cX8_apart 43 = .ok (.iload_n 2, 1) := by decide +kernel
theorem dX8_apart_44 : decode cX8_apart 44 = .ok (.invokevirtual 113, 3) := by decide +kernel
theorem dX8_apart_47 : decode cX8_apart 47 = .ok (.aload_n 0, 1) := by decide +kernel
theorem dX8_apart_48 : decode cX8_apart 48 = .ok (.aload_n 0, 1) := by decide +kernel
theorem dX8_apart_49 : decode cX8_apart 49 = .ok (.getfield 16, 3) := by decide +kernel
theorem dX8_apart_52 : decode cX8_apart 52 = .ok (.iload_n 2, 1) := by decide +kernel
theorem dX8_apart_53 : decode cX8_apart 53 = .ok (.invokevirtual 113, 3) := by decide +kernel
theorem dX8_apart_56 : decode cX8_apart 56 = .ok (.aload_n 0, 1) := by decide +kernel
theorem dX8_apart_57 : decode cX8_apart 57 = .ok (.getfield 13, 3) := by decide +kernel
theorem dX8_apart_60 : decode cX8_apart 60 = .ok (.aload_n 0, 1) := by decide +kernel
theorem dX8_apart_61 : decode cX8_apart 61 = .ok (.getfield 16, 3) := by decide +kernel
theorem dX8_apart_64 : decode cX8_apart 64 = .ok (.invokestatic 242, 3) := by decide +kernel
theorem dX8_apart_67 : decode cX8_apart 67 = .ok (.ireturn, 1) := by decide +kernel
theorem dX8_parts_0 : decode cX8_parts 0 = .ok (.iload_n 1, 1) := by decide +kernel
theorem dX8_parts_1 : decode cX8_parts 1 = .ok (.i2l, 1) := by decide +kernel
theorem dX8_parts_2 : decode cX8_parts 2 = .ok (.ldc2_w 90, 3) := by decide +kernel
theorem dX8_parts_5 : decode cX8_parts 5 = .ok (.ldc2_w 92, 3) := by decide +kernel
theorem dX8_parts_8 : decode cX8_parts 8 = .ok (.invokestatic 49, 3) := by decide +kernel
theorem dX8_parts_11 : decode cX8_parts 11 = .ok (.ifCond .eq 15, 3) := by decide +kernel
theorem dX8_parts_14 : decode cX8_parts 14 = .ok (.iload_n 2, 1) := by decide +kernel
theorem dX8_parts_15 : decode cX8_parts 15 = .ok (.i2l, 1) := by decide +kernel
theorem dX8_parts_16 : decode cX8_parts 16 = .ok (.lconst 1, 1) := by decide +kernel
theorem dX8_parts_17 : decode cX8_parts 17 = .ok (.ldc2_w 246, 3) := by decide +kernel
theorem dX8_parts_20 : decode cX8_parts 20 = .ok (.invokestatic 49, 3) := by decide +kernel
theorem dX8_parts_23 : decode cX8_parts 23 = .ok (.ifCond .ne 10, 3) := by decide +kernel
theorem dX8_parts_26 : decode cX8_parts 26 = .ok (.aload_n 0, 1) := by decide +kernel
theorem dX8_parts_27 : decode cX8_parts 27 = .ok (.ldc 46, 2) := by decide +kernel
theorem dX8_parts_29 : decode cX8_parts 29 = .ok (.invokevirtual 61, 3) := by decide +kernel
theorem dX8_parts_32 : decode cX8_parts 32 = .ok (.ireturn, 1) := by decide +kernel
theorem dX8_parts_33 : decode cX8_parts 33 = .ok (.aload_n 0, 1) := by decide +kernel
theorem dX8_parts_34 : decode cX8_parts 34 = .ok (.iload_n 1, 1) := by decide +kernel
theorem dX8_parts_35 : decode cX8_parts 35 = .ok (.invokevirtual 239, 3) := by decide +kernel
theorem dX8_parts_38 : decode cX8_parts 38 = .ok (.iconst 0, 1) := by decide +kernel
theorem dX8_parts_39 : decode cX8_parts 39 = .ok (.istore_n 3, 1) := by decide +kernel
theorem dX8_parts_40 : decode cX8_parts 40 = .ok (.iload_n 3, 1) := by decide +kernel
theorem dX8_parts_41 : decode cX8_parts 41 = .ok (.sipush 400, 3) := by decide +kernel
theorem dX8_parts_44 : decode cX8_parts 44 = .ok (.if_icmp .gt 42, 3) := by decide +kernel
theorem dX8_parts_47 : decode cX8_parts 47 = .ok (.aload_n 0, 1) := by decide +kernel
theorem dX8_parts_48 : decode cX8_parts 48 = .ok (.getfield 13, 3) := by decide +kernel
theorem dX8_parts_51 : decode cX8_parts 51 = .ok (.aload_n 0, 1) := by decide +kernel
theorem dX8_parts_52 : decode cX8_parts 52 = .ok (.getfield 16, 3) := by decide +kernel
theorem dX8_parts_55 : decode cX8_parts 55 = .ok (.invokestatic 242, 3) := by decide +kernel
theorem dX8_parts_58 : decode cX8_parts 58 = .ok (.iload_n 2, 1) := by decide +kernel
theorem dX8_parts_59 : decode cX8_parts 59 = .ok (.if_icmp .lt 5, 3) := by decide +kernel
theorem dX8_parts_62 : decode cX8_parts 62 = .ok (.iload_n 3, 1) := by decide +kernel
theorem dX8_parts_63 : decode cX8_parts 63 = .ok (.ireturn, 1) := by decide +kernel
theorem dX8_parts_64 : decode cX8_parts 64 = .ok (.aload_n 0, 1) := by decide +kernel
theorem dX8_parts_65 : decode cX8_parts 65 = .ok (.aload_n 0, 1) := by decide +kernel
theorem dX8_parts_66 : decode cX8_parts 66 = .ok (.getfield 13, 3) := by decide +kernel
theorem dX8_parts_69 : decode cX8_parts 69 = .ok (.invokevirtual 108, 3) := by decide +kernel
theorem dX8_parts_72 : decode cX8_parts 72 = .ok (.aload_n 0, 1) := by decide +kernel
theorem dX8_parts_73 : decode cX8_parts 73 = .ok (.aload_n 0, 1) := by decide +kernel
theorem dX8_parts_74 : decode cX8_parts 74 = .ok (.getfield 16, 3) := by decide +kernel
theorem dX8_parts_77 : decode cX8_parts 77 = .ok (.invokevirtual 108, 3) := by decide +kernel
theorem dX8_parts_80 : decode cX8_parts 80 = .ok (.iinc 3 1, 3) := by decide +kernel
theorem dX8_parts_83 : decode cX8_parts 83 = .ok (.goto (-43), 3) := by decide +kernel
theorem dX8_parts_86 : decode cX8_parts 86 = .ok (.aload_n 0, 1) := by decide +kernel
theorem dX8_parts_87 : decode cX8_parts 87 = .ok (.ldc 125, 2) := by decide +kernel
theorem dX8_parts_89 : decode cX8_parts 89 = .ok (.invokevirtual 61, 3) := by decide +kernel
theorem dX8_parts_92 : decode cX8_parts 92 = .ok (.ireturn, 1) := by decide +kernel
theorem dX8_goingOf_0 : decode cX8_goingOf 0 = .ok (.aload_n 0, 1) := by decide +kernel
theorem dX8_goingOf_1 : decode cX8_goingOf 1 = .ok (.getfield 13, 3) := by decide +kernel
theorem dX8_goingOf_4 : decode cX8_goingOf 4 = .ok (.bipush 10, 2) := by decide +kernel
theorem dX8_goingOf_6 : decode cX8_goingOf 6 = .ok (.iaload, 1) := by decide +kernel
theorem dX8_goingOf_7 : decode cX8_goingOf 7 = .ok (.istore_n 2, 1) := by decide +kernel
theorem dX8_goingOf_8 : decode cX8_goingOf 8 = .ok (.aload_n 0, 1) := by decide +kernel
theorem dX8_goingOf_9 : decode cX8_goingOf 9 = .ok (.getfield 13, 3) := by decide +kernel
theorem dX8_goingOf_12 : decode cX8_goingOf 12 = .ok (.bipush 10, 2) := by decide +kernel
theorem dX8_goingOf_14 : decode cX8_goingOf 14 = .ok (.iaload, 1) := by decide +kernel
theorem dX8_goingOf_15 : decode cX8_goingOf 15 = .ok (.istore_n 3, 1) := by decide +kernel
theorem dX8_goingOf_16 : decode cX8_goingOf 16 = .ok (.iconst 1, 1) := by decide +kernel
theorem dX8_goingOf_17 : decode cX8_goingOf 17 = .ok (.istore 4, 2) := by decide +kernel
theorem dX8_goingOf_19 : decode cX8_goingOf 19 = .ok (.iconst 1, 1) := by decide +kernel
theorem dX8_goingOf_20 : decode cX8_goingOf 20 = .ok (.istore 5, 2) := by decide +kernel
theorem dX8_goingOf_22 : decode cX8_goingOf 22 = .ok (.iload 5, 2) := by decide +kernel
theorem dX8_goingOf_24 : decode cX8_goingOf 24 = .ok (.iload_n 1, 1) := by decide +kernel
theorem dX8_goingOf_25 : decode cX8_goingOf 25 = .ok (.if_icmp .gt 66, 3) := by decide +kernel
theorem dX8_goingOf_28 : decode cX8_goingOf 28 = .ok (.aload_n 0, 1) := by decide +kernel
theorem dX8_goingOf_29 : decode cX8_goingOf 29 = .ok (.aload_n 0, 1) := by decide +kernel
theorem dX8_goingOf_30 : decode cX8_goingOf 30 = .ok (.getfield 13, 3) := by decide +kernel
theorem dX8_goingOf_33 : decode cX8_goingOf 33 = .ok (.invokevirtual 108, 3) := by decide +kernel
theorem dX8_goingOf_36 : decode cX8_goingOf 36 = .ok (.iload 5, 2) := by decide +kernel
theorem dX8_goingOf_38 : decode cX8_goingOf 38 = .ok (.iload_n 1, 1) := by decide +kernel
theorem dX8_goingOf_39 : decode cX8_goingOf 39 = .ok (.iconst 2, 1) := by decide +kernel
theorem dX8_goingOf_40 : decode cX8_goingOf 40 = .ok (.idiv, 1) := by decide +kernel
theorem dX8_goingOf_41 : decode cX8_goingOf 41 = .ok (.if_icmp .gt 13, 3) := by decide +kernel
theorem dX8_goingOf_44 : decode cX8_goingOf 44 = .ok (.aload_n 0, 1) := by decide +kernel
theorem dX8_goingOf_45 : decode cX8_goingOf 45 = .ok (.getfield 13, 3) := by decide +kernel
theorem dX8_goingOf_48 : decode cX8_goingOf 48 = .ok (.bipush 10, 2) := by decide +kernel
theorem dX8_goingOf_50 : decode cX8_goingOf 50 = .ok (.iaload, 1) := by decide +kernel
theorem dX8_goingOf_51 : decode cX8_goingOf 51 = .ok (.goto 4, 3) := by decide +kernel
theorem dX8_goingOf_54 : decode cX8_goingOf 54 = .ok (.iload_n 3, 1) := by decide +kernel
theorem dX8_goingOf_55 : decode cX8_goingOf 55 = .ok (.istore_n 3, 1) := by decide +kernel
theorem dX8_goingOf_56 : decode cX8_goingOf 56 = .ok (.iload 4, 2) := by decide +kernel
theorem dX8_goingOf_58 : decode cX8_goingOf 58 = .ok (.ifCond .eq 24, 3) := by decide +kernel
theorem dX8_goingOf_61 : decode cX8_goingOf 61 = .ok (.iload 5, 2) := by decide +kernel
theorem dX8_goingOf_63 : decode cX8_goingOf 63 = .ok (.iload_n 1, 1) := by decide +kernel
theorem dX8_goingOf_64 : decode cX8_goingOf 64 = .ok (.iconst 2, 1) := by decide +kernel
theorem dX8_goingOf_65 : decode cX8_goingOf 65 = .ok (.idiv, 1) := by decide +kernel
theorem dX8_goingOf_66 : decode cX8_goingOf 66 = .ok (.if_icmp .le 12, 3) := by decide +kernel
theorem dX8_goingOf_69 : decode cX8_goingOf 69 = .ok (.aload_n 0, 1) := by decide +kernel
theorem dX8_goingOf_70 : decode cX8_goingOf 70 = .ok (.getfield 13, 3) := by decide +kernel
theorem dX8_goingOf_73 : decode cX8_goingOf 73 = .ok (.iconst 4, 1) := by decide +kernel
theorem dX8_goingOf_74 : decode cX8_goingOf 74 = .ok (.iaload, 1) := by decide +kernel
theorem dX8_goingOf_75 : decode cX8_goingOf 75 = .ok (.ifCond .ne 7, 3) := by decide +kernel
theorem dX8_goingOf_78 : decode cX8_goingOf 78 = .ok (.iconst 1, 1) := by decide +kernel
theorem dX8_goingOf_79 : decode cX8_goingOf 79 = .ok (.goto 4, 3) := by decide +kernel
theorem dX8_goingOf_82 : decode cX8_goingOf 82 = .ok (.iconst 0, 1) := by decide +kernel
theorem dX8_goingOf_83 : decode cX8_goingOf 83 = .ok (.istore 4, 2) := by decide +kernel
theorem dX8_goingOf_85 : decode cX8_goingOf 85 = .ok (.iinc 5 1, 3) := by decide +kernel
theorem dX8_goingOf_88 : decode cX8_goingOf 88 = .ok (.goto (-66), 3) := by decide +kernel
theorem dX8_goingOf_91 : decode cX8_goingOf 91 = .ok (.iload 4, 2) := by decide +kernel
theorem dX8_goingOf_93 : decode cX8_goingOf 93 = .ok (.ifCond .eq 7, 3) := by decide +kernel
theorem dX8_goingOf_96 : decode cX8_goingOf 96 = .ok (.iconst 0, 1) := by decide +kernel
theorem dX8_goingOf_97 : decode cX8_goingOf 97 = .ok (.goto 34, 3) := by decide +kernel
theorem dX8_goingOf_100 : decode cX8_goingOf 100 = .ok (.aload_n 0, 1) := by decide +kernel
theorem dX8_goingOf_101 : decode cX8_goingOf 101 = .ok (.getfield 13, 3) := by decide +kernel
theorem dX8_goingOf_104 : decode cX8_goingOf 104 = .ok (.bipush 10, 2) := by decide +kernel
theorem dX8_goingOf_106 : decode cX8_goingOf 106 = .ok (.iaload, 1) := by decide +kernel
theorem dX8_goingOf_107 : decode cX8_goingOf 107 = .ok (.iload_n 2, 1) := by decide +kernel
theorem dX8_goingOf_108 : decode cX8_goingOf 108 = .ok (.if_icmp .ne 7, 3) := by decide +kernel
theorem dX8_goingOf_111 : decode cX8_goingOf 111 = .ok (.iconst 1, 1) := by decide +kernel
theorem dX8_goingOf_112 : decode cX8_goingOf 112 = .ok (.goto 19, 3) := by decide +kernel
theorem dX8_goingOf_115 : decode cX8_goingOf 115 = .ok (.aload_n 0, 1) := by decide +kernel
theorem dX8_goingOf_116 : decode cX8_goingOf 116 = .ok (.getfield 13, 3) := by decide +kernel
theorem dX8_goingOf_119 : decode cX8_goingOf 119 = .ok (.bipush 10, 2) := by decide +kernel
theorem dX8_goingOf_121 : decode cX8_goingOf 121 = .ok (.iaload, 1) := by decide +kernel
theorem dX8_goingOf_122 : decode cX8_goingOf 122 = .ok (.iload_n 3, 1) := by decide +kernel
theorem dX8_goingOf_123 : decode cX8_goingOf 123 = .ok (.if_icmp .ne 7, 3) := by decide +kernel
theorem dX8_goingOf_126 : decode cX8_goingOf 126 = .ok (.iconst 2, 1) := by decide +kernel
theorem dX8_goingOf_127 : decode cX8_goingOf 127 = .ok (.goto 4, 3) := by decide +kernel
theorem dX8_goingOf_130 : decode cX8_goingOf 130 = .ok (.iconst 3, 1) := by decide +kernel
theorem dX8_goingOf_131 : decode cX8_goingOf 131 = .ok (.ireturn, 1) := by decide +kernel
theorem dX8_going_0 : decode cX8_going 0 = .ok (.iload_n 1, 1) := by decide +kernel
theorem dX8_going_1 : decode cX8_going 1 = .ok (.i2l, 1) := by decide +kernel
theorem dX8_going_2 : decode cX8_going 2 = .ok (.ldc2_w 248, 3) := by decide +kernel
theorem dX8_going_5 : decode cX8_going 5 = .ok (.ldc2_w 231, 3) := by decide +kernel
theorem dX8_going_8 : decode cX8_going 8 = .ok (.invokestatic 49, 3) := by decide +kernel
theorem dX8_going_11 : decode cX8_going 11 = .ok (.ifCond .ne 10, 3) := by decide +kernel
theorem dX8_going_14 : decode cX8_going 14 = .ok (.aload_n 0, 1) := by decide +kernel
theorem dX8_going_15 : decode cX8_going 15 = .ok (.ldc 46, 2) := by decide +kernel
theorem dX8_going_17 : decode cX8_going 17 = .ok (.invokevirtual 61, 3) := by decide +kernel
theorem dX8_going_20 : decode cX8_going 20 = .ok (.ireturn, 1) := by decide +kernel
theorem dX8_going_21 : decode cX8_going 21 = .ok (.aload_n 0, 1) := by decide +kernel
theorem dX8_going_22 : decode cX8_going 22 = .ok (.getfield 9, 3) := by decide +kernel
theorem dX8_going_25 : decode cX8_going 25 = .ok (.aload_n 0, 1) := by decide +kernel
theorem dX8_going_26 : decode cX8_going 26 = .ok (.getfield 13, 3) := by decide +kernel
theorem dX8_going_29 : decode cX8_going 29 = .ok (.invokestatic 235, 3) := by decide +kernel
theorem dX8_going_32 : decode cX8_going 32 = .ok (.aload_n 0, 1) := by decide +kernel
theorem dX8_going_33 : decode cX8_going 33 = .ok (.iload_n 1, 1) := by decide +kernel
theorem dX8_going_34 : decode cX8_going 34 = .ok (.invokevirtual 250, 3) := by decide +kernel
theorem dX8_going_37 : decode cX8_going 37 = .ok (.ireturn, 1) := by decide +kernel
theorem dX8_tapFor_0 : decode cX8_tapFor 0 = .ok (.iload_n 1, 1) := by decide +kernel
theorem dX8_tapFor_1 : decode cX8_tapFor 1 = .ok (.i2l, 1) := by decide +kernel
theorem dX8_tapFor_2 : decode cX8_tapFor 2 = .ok (.lconst 0, 1) := by decide +kernel
theorem dX8_tapFor_3 : decode cX8_tapFor 3 = .ok (.ldc2_w 233, 3) := by decide +kernel
theorem dX8_tapFor_6 : decode cX8_tapFor 6 = .ok (.invokestatic 49, 3) := by decide +kernel
theorem dX8_tapFor_9 : decode cX8_tapFor 9 = .ok (.ifCond .eq 17, 3) := by decide +kernel
theorem dX8_tapFor_12 : decode cX8_tapFor 12 = .ok (.iload_n 2, 1) := by decide +kernel
theorem dX8_tapFor_13 : decode cX8_tapFor 13 = .ok (.i2l, 1) := by decide +kernel
theorem dX8_tapFor_14 : decode cX8_tapFor 14 = .ok (.ldc2_w 248, 3) := by decide +kernel
theorem dX8_tapFor_17 : decode cX8_tapFor 17 = .ok (.ldc2_w 231, 3) := by decide +kernel
theorem dX8_tapFor_20 : decode cX8_tapFor 20 = .ok (.invokestatic 49, 3) := by decide +kernel
theorem dX8_tapFor_23 : decode cX8_tapFor 23 = .ok (.ifCond .ne 10, 3) := by decide +kernel
theorem dX8_tapFor_26 : decode cX8_tapFor 26 = .ok (.aload_n 0, 1) := by decide +kernel
theorem dX8_tapFor_27 : decode cX8_tapFor 27 = .ok (.ldc 46, 2) := by decide +kernel
theorem dX8_tapFor_29 : decode cX8_tapFor 29 = .ok (.invokevirtual 61, 3) := by decide +kernel
theorem dX8_tapFor_32 : decode cX8_tapFor 32 = .ok (.ireturn, 1) := by decide +kernel
theorem dX8_tapFor_33 : decode cX8_tapFor 33 = .ok (.iconst 0, 1) := by decide +kernel
theorem dX8_tapFor_34 : decode cX8_tapFor 34 = .ok (.istore_n 3, 1) := by decide +kernel
theorem dX8_tapFor_35 : decode cX8_tapFor 35 = .ok (.iload_n 3, 1) := by decide +kernel
theorem dX8_tapFor_36 : decode cX8_tapFor 36 = .ok (.bipush 100, 2) := by decide +kernel
theorem dX8_tapFor_38 : decode cX8_tapFor 38 = .ok (.if_icmp .ge 38, 3) := by decide +kernel
theorem dX8_tapFor_41 : decode cX8_tapFor 41 = .ok (.aload_n 0, 1) := by decide +kernel
theorem dX8_tapFor_42 : decode cX8_tapFor 42 = .ok (.getfield 9, 3) := by decide +kernel
theorem dX8_tapFor_45 : decode cX8_tapFor 45 = .ok (.aload_n 0, 1) := by decide +kernel
theorem dX8_tapFor_46 : decode cX8_tapFor 46 = .ok (.getfield 13, 3) := by decide +kernel
theorem dX8_tapFor_49 : decode cX8_tapFor 49 = .ok (.invokestatic 235, 3) := by decide +kernel
theorem dX8_tapFor_52 : decode cX8_tapFor 52 = .ok (.aload_n 0, 1) := by decide +kernel
theorem dX8_tapFor_53 : decode cX8_tapFor 53 = .ok (.getfield 13, 3) := by decide +kernel
theorem dX8_tapFor_56 : decode cX8_tapFor 56 = .ok (.iconst 0, 1) := by decide +kernel
theorem dX8_tapFor_57 : decode cX8_tapFor 57 = .ok (.iload_n 3, 1) := by decide +kernel
theorem dX8_tapFor_58 : decode cX8_tapFor 58 = .ok (.iastore, 1) := by decide +kernel
theorem dX8_tapFor_59 : decode cX8_tapFor 59 = .ok (.aload_n 0, 1) := by decide +kernel
theorem dX8_tapFor_60 : decode cX8_tapFor 60 = .ok (.iload_n 2, 1) := by decide +kernel
theorem dX8_tapFor_61 : decode cX8_tapFor 61 = .ok (.invokevirtual 250, 3) := by decide +kernel
theorem dX8_tapFor_64 : decode cX8_tapFor 64 = .ok (.iload_n 1, 1) := by decide +kernel
theorem dX8_tapFor_65 : decode cX8_tapFor 65 = .ok (.if_icmp .ne 5, 3) := by decide +kernel
theorem dX8_tapFor_68 : decode cX8_tapFor 68 = .ok (.iload_n 3, 1) := by decide +kernel
theorem dX8_tapFor_69 : decode cX8_tapFor 69 = .ok (.ireturn, 1) := by decide +kernel
theorem dX8_tapFor_70 : decode cX8_tapFor 70 = .ok (.iinc 3 1, 3) := by decide +kernel
theorem dX8_tapFor_73 : decode cX8_tapFor 73 = .ok (.goto (-38), 3) := by decide +kernel
theorem dX8_tapFor_76 : decode cX8_tapFor 76 = .ok (.aload_n 0, 1) := by decide +kernel
theorem dX8_tapFor_77 : decode cX8_tapFor 77 = .ok (.ldc 125, 2) := by decide +kernel
theorem dX8_tapFor_79 : decode cX8_tapFor 79 = .ok (.invokevirtual 61, 3) := by decide +kernel
theorem dX8_tapFor_82 : decode cX8_tapFor 82 = .ok (.ireturn, 1) := by decide +kernel
theorem dX8_bounds_0 : decode cX8_bounds 0 = .ok (.iload_n 1, 1) := by decide +kernel
theorem dX8_bounds_1 : decode cX8_bounds 1 = .ok (.i2l, 1) := by decide +kernel
theorem dX8_bounds_2 : decode cX8_bounds 2 = .ok (.lconst 0, 1) := by decide +kernel
theorem dX8_bounds_3 : decode cX8_bounds 3 = .ok (.ldc2_w 231, 3) := by decide +kernel
theorem dX8_bounds_6 : decode cX8_bounds 6 = .ok (.invokestatic 49, 3) := by decide +kernel
theorem dX8_bounds_9 : decode cX8_bounds 9 = .ok (.ifCond .eq 13, 3) := by decide +kernel
theorem dX8_bounds_12 : decode cX8_bounds 12 = .ok (.iload_n 2, 1) := by decide +kernel
theorem dX8_bounds_13 : decode cX8_bounds 13 = .ok (.i2l, 1) := by decide +kernel
theorem dX8_bounds_14 : decode cX8_bounds 14 = .ok (.lconst 0, 1) := by decide +kernel
theorem dX8_bounds_15 : decode cX8_bounds 15 = .ok (.lconst 1, 1) := by decide +kernel
theorem dX8_bounds_16 : decode cX8_bounds 16 = .ok (.invokestatic 49, 3) := by decide +kernel
theorem dX8_bounds_19 : decode cX8_bounds 19 = .ok (.ifCond .ne 10, 3) := by decide +kernel
theorem dX8_bounds_22 : decode cX8_bounds 22 = .ok (.aload_n 0, 1) := by decide +kernel
theorem dX8_bounds_23 : decode cX8_bounds 23 = .ok (.ldc 46, 2) := by decide +kernel
theorem dX8_bounds_25 : decode cX8_bounds 25 = .ok (.invokevirtual 61, 3) := by decide +kernel
theorem dX8_bounds_28 : decode cX8_bounds 28 = .ok (.ireturn, 1) := by decide +kernel
theorem dX8_bounds_29 : decode cX8_bounds 29 = .ok (.aload_n 0, 1) := by decide +kernel
theorem dX8_bounds_30 : decode cX8_bounds 30 = .ok (.getfield 9, 3) := by decide +kernel
theorem dX8_bounds_33 : decode cX8_bounds 33 = .ok (.aload_n 0, 1) := by decide +kernel
theorem dX8_bounds_34 : decode cX8_bounds 34 = .ok (.getfield 13, 3) := by decide +kernel
theorem dX8_bounds_37 : decode cX8_bounds 37 = .ok (.invokestatic 235, 3) := by decide +kernel
theorem dX8_bounds_40 : decode cX8_bounds 40 = .ok (.aload_n 0, 1) := by decide +kernel
theorem dX8_bounds_41 : decode cX8_bounds 41 = .ok (.getfield 13, 3) := by decide +kernel
theorem dX8_bounds_44 : decode cX8_bounds 44 = .ok (.iconst 4, 1) := by decide +kernel
theorem dX8_bounds_45 : decode cX8_bounds 45 = .ok (.iaload, 1) := by decide +kernel
theorem dX8_bounds_46 : decode cX8_bounds 46 = .ok (.istore_n 3, 1) := by decide +kernel
theorem dX8_bounds_47 : decode cX8_bounds 47 = .ok (.iconst 0, 1) := by decide +kernel
theorem dX8_bounds_48 : decode cX8_bounds 48 = .ok (.istore 4, 2) := by decide +kernel
theorem dX8_bounds_50 : decode cX8_bounds 50 = .ok (.iload 4, 2) := by decide +kernel
theorem dX8_bounds_52 : decode cX8_bounds 52 = .ok (.iload_n 1, 1) := by decide +kernel
theorem dX8_bounds_53 : decode cX8_bounds 53 = .ok (.if_icmp .ge 55, 3) := by decide +kernel
theorem dX8_bounds_56 : decode cX8_bounds 56 = .ok (.aload_n 0, 1) := by decide +kernel
theorem dX8_bounds_57 : decode cX8_bounds 57 = .ok (.aload_n 0, 1) := by decide +kernel
theorem dX8_bounds_58 : decode cX8_bounds 58 = .ok (.getfield 13, 3) := by decide +kernel
theorem dX8_bounds_61 : decode cX8_bounds 61 = .ok (.invokevirtual 108, 3) := by decide +kernel
theorem dX8_bounds_64 : decode cX8_bounds 64 = .ok (.iload_n 2, 1) := by decide +kernel
theorem dX8_bounds_65 : decode cX8_bounds 65 = .ok (.ifCond .ne 16, 3) := by decide +kernel
theorem dX8_bounds_68 : decode cX8_bounds 68 = .ok (.aload_n 0, 1) := by decide +kernel
theorem dX8_bounds_69 : decode cX8_bounds 69 = .ok (.getfield 13, 3) := by decide +kernel
theorem dX8_bounds_72 : decode cX8_bounds 72 = .ok (.iconst 4, 1) := by decide +kernel
theorem dX8_bounds_73 : decode cX8_bounds 73 = .ok (.iaload, 1) := by decide +kernel
theorem dX8_bounds_74 : decode cX8_bounds 74 = .ok (.iload_n 3, 1) := by decide +kernel
theorem dX8_bounds_75 : decode cX8_bounds 75 = .ok (.if_icmp .ge 25, 3) := by decide +kernel
theorem dX8_bounds_78 : decode cX8_bounds 78 = .ok (.goto 13, 3) := by decide +kernel
theorem dX8_bounds_81 : decode cX8_bounds 81 = .ok (.aload_n 0, 1) := by decide +kernel
theorem dX8_bounds_82 : decode cX8_bounds 82 = .ok (.getfield 13, 3) := by decide +kernel
theorem dX8_bounds_85 : decode cX8_bounds 85 = .ok (.iconst 4, 1) := by decide +kernel
theorem dX8_bounds_86 : decode cX8_bounds 86 = .ok (.iaload, 1) := by decide +kernel
theorem dX8_bounds_87 : decode cX8_bounds 87 = .ok (.iload_n 3, 1) := by decide +kernel
theorem dX8_bounds_88 : decode cX8_bounds 88 = .ok (.if_icmp .le 12, 3) := by decide +kernel
theorem dX8_bounds_91 : decode cX8_bounds 91 = .ok (.aload_n 0, 1) := by decide +kernel
theorem dX8_bounds_92 : decode cX8_bounds 92 = .ok (.getfield 13, 3) := by decide +kernel
theorem dX8_bounds_95 : decode cX8_bounds 95 = .ok (.iconst 4, 1) := by decide +kernel
theorem dX8_bounds_96 : decode cX8_bounds 96 = .ok (.iaload, 1) := by decide +kernel
theorem dX8_bounds_97 : decode cX8_bounds 97 = .ok (.goto 4, 3) := by decide +kernel
theorem dX8_bounds_100 : decode cX8_bounds 100 = .ok (.iload_n 3, 1) := by decide +kernel
theorem dX8_bounds_101 : decode cX8_bounds 101 = .ok (.istore_n 3, 1) := by decide +kernel
theorem dX8_bounds_102 : decode cX8_bounds 102 = .ok (.iinc 4 1, 3) := by decide +kernel
theorem dX8_bounds_105 : decode cX8_bounds 105 = .ok (.goto (-55), 3) := by decide +kernel
theorem dX8_bounds_108 : decode cX8_bounds 108 = .ok (.iload_n 3, 1) := by decide +kernel
theorem dX8_bounds_109 : decode cX8_bounds 109 = .ok (.ireturn, 1) := by decide +kernel
theorem dX8_often_0 : decode cX8_often 0 = .ok (.iload_n 1, 1) := by decide +kernel
theorem dX8_often_1 : decode cX8_often 1 = .ok (.i2l, 1) := by decide +kernel
theorem dX8_often_2 : decode cX8_often 2 = .ok (.lconst 1, 1) := by decide +kernel
theorem dX8_often_3 : decode cX8_often 3 = .ok (.ldc2_w 231, 3) := by decide +kernel
theorem dX8_often_6 : decode cX8_often 6 = .ok (.invokestatic 49, 3) := by decide +kernel
theorem dX8_often_9 : decode cX8_often 9 = .ok (.ifCond .ne 10, 3) := by decide +kernel
theorem dX8_often_12 : decode cX8_often 12 = .ok (.aload_n 0, 1) := by decide +kernel
theorem dX8_often_13 : decode cX8_often 13 = .ok (.ldc 46, 2) := by decide +kernel
theorem dX8_often_15 : decode cX8_often 15 = .ok (.invokevirtual 61, 3) := by decide +kernel
theorem dX8_often_18 : decode cX8_often 18 = .ok (.ireturn, 1) := by decide +kernel
theorem dX8_often_19 : decode cX8_often 19 = .ok (.aload_n 0, 1) := by decide +kernel
theorem dX8_often_20 : decode cX8_often 20 = .ok (.getfield 9, 3) := by decide +kernel
theorem dX8_often_23 : decode cX8_often 23 = .ok (.aload_n 0, 1) := by decide +kernel
theorem dX8_often_24 : decode cX8_often 24 = .ok (.getfield 13, 3) := by decide +kernel
theorem dX8_often_27 : decode cX8_often 27 = .ok (.invokestatic 235, 3) := by decide +kernel
theorem dX8_often_30 : decode cX8_often 30 = .ok (.iconst 0, 1) := by decide +kernel
theorem dX8_often_31 : decode cX8_often 31 = .ok (.istore_n 2, 1) := by decide +kernel
theorem dX8_often_32 : decode cX8_often 32 = .ok (.iconst 0, 1) := by decide +kernel
theorem dX8_often_33 : decode cX8_often 33 = .ok (.istore_n 3, 1) := by decide +kernel
theorem dX8_often_34 : decode cX8_often 34 = .ok (.iload_n 3, 1) := by decide +kernel
theorem dX8_often_35 : decode cX8_often 35 = .ok (.iload_n 1, 1) := by decide +kernel
theorem dX8_often_36 : decode cX8_often 36 = .ok (.if_icmp .ge 34, 3) := by decide +kernel
theorem dX8_often_39 : decode cX8_often 39 = .ok (.aload_n 0, 1) := by decide +kernel
theorem dX8_often_40 : decode cX8_often 40 = .ok (.aload_n 0, 1) := by decide +kernel
theorem dX8_often_41 : decode cX8_often 41 = .ok (.getfield 13, 3) := by decide +kernel
theorem dX8_often_44 : decode cX8_often 44 = .ok (.invokevirtual 108, 3) := by decide +kernel
theorem dX8_often_47 : decode cX8_often 47 = .ok (.iload_n 2, 1) := by decide +kernel
theorem dX8_often_48 : decode cX8_often 48 = .ok (.aload_n 0, 1) := by decide +kernel
theorem dX8_often_49 : decode cX8_often 49 = .ok (.getfield 13, 3) := by decide +kernel
theorem dX8_often_52 : decode cX8_often 52 = .ok (.iconst 4, 1) := by decide +kernel
theorem dX8_often_53 : decode cX8_often 53 = .ok (.iaload, 1) := by decide +kernel
theorem dX8_often_54 : decode cX8_often 54 = .ok (.ifCond .le 7, 3) := by decide +kernel
theorem dX8_often_57 : decode cX8_often 57 = .ok (.iconst 1, 1) := by decide +kernel
theorem dX8_often_58 : decode cX8_often 58 = .ok (.goto 4, 3) := by decide +kernel
theorem dX8_often_61 : decode cX8_often 61 = .ok (.iconst 0, 1) := by decide +kernel
theorem dX8_often_62 : decode cX8_often 62 = .ok (.iadd, 1) := by decide +kernel
theorem dX8_often_63 : decode cX8_often 63 = .ok (.istore_n 2, 1) := by decide +kernel
theorem dX8_often_64 : decode cX8_often 64 = .ok (.iinc 3 1, 3) := by decide +kernel
theorem dX8_often_67 : decode cX8_often 67 = .ok (.goto (-33), 3) := by decide +kernel
theorem dX8_often_70 : decode cX8_often 70 = .ok (.iload_n 2, 1) := by decide +kernel
theorem dX8_often_71 : decode cX8_often 71 = .ok (.ireturn, 1) := by decide +kernel
theorem dX8_holds_0 : decode cX8_holds 0 = .ok (.iload_n 1, 1) := by decide +kernel
theorem dX8_holds_1 : decode cX8_holds 1 = .ok (.i2l, 1) := by decide +kernel
theorem dX8_holds_2 : decode cX8_holds 2 = .ok (.lconst 1, 1) := by decide +kernel
theorem dX8_holds_3 : decode cX8_holds 3 = .ok (.ldc2_w 231, 3) := by decide +kernel
theorem dX8_holds_6 : decode cX8_holds 6 = .ok (.invokestatic 49, 3) := by decide +kernel
theorem dX8_holds_9 : decode cX8_holds 9 = .ok (.ifCond .ne 10, 3) := by decide +kernel
theorem dX8_holds_12 : decode cX8_holds 12 = .ok (.aload_n 0, 1) := by decide +kernel
theorem dX8_holds_13 : decode cX8_holds 13 = .ok (.ldc 46, 2) := by decide +kernel
theorem dX8_holds_15 : decode cX8_holds 15 = .ok (.invokevirtual 61, 3) := by decide +kernel
theorem dX8_holds_18 : decode cX8_holds 18 = .ok (.ireturn, 1) := by decide +kernel
theorem dX8_holds_19 : decode cX8_holds 19 = .ok (.iconst 0, 1) := by decide +kernel
theorem dX8_holds_20 : decode cX8_holds 20 = .ok (.istore_n 2, 1) := by decide +kernel
theorem dX8_holds_21 : decode cX8_holds 21 = .ok (.iload_n 2, 1) := by decide +kernel
theorem dX8_holds_22 : decode cX8_holds 22 = .ok (.bipush 100, 2) := by decide +kernel
theorem dX8_holds_24 : decode cX8_holds 24 = .ok (.if_icmp .gt 76, 3) := by decide +kernel
theorem dX8_holds_27 : decode cX8_holds 27 = .ok (.iload_n 2, 1) := by decide +kernel
theorem dX8_holds_28 : decode cX8_holds 28 = .ok (.iconst 2, 1) := by decide +kernel
theorem dX8_holds_29 : decode cX8_holds 29 = .ok (.irem, 1) := by decide +kernel
theorem dX8_holds_30 : decode cX8_holds 30 = .ok (.iconst 1, 1) := by decide +kernel
theorem dX8_holds_31 : decode cX8_holds 31 = .ok (.if_icmp .ne 11, 3) := by decide +kernel
theorem dX8_holds_34 : decode cX8_holds 34 = .ok (.iload_n 2, 1) := by decide +kernel
theorem dX8_holds_35 : decode cX8_holds 35 = .ok (.iconst 1, 1) := by decide +kernel
theorem dX8_holds_36 : decode cX8_holds 36 = .ok (.iadd, 1) := by decide +kernel
theorem dX8_holds_37 : decode cX8_holds 37 = .ok (.iconst 2, 1) := by decide +kernel
theorem dX8_holds_38 : decode cX8_holds 38 = .ok (.idiv, 1) := by decide +kernel
theorem dX8_holds_39 : decode cX8_holds 39 = .ok (.goto 7, 3) := by decide +kernel
theorem dX8_holds_42 : decode cX8_holds 42 = .ok (.iload_n 2, 1) := by decide +kernel
theorem dX8_holds_43 : decode cX8_holds 43 = .ok (.ineg, 1) := by decide +kernel
theorem dX8_holds_44 : decode cX8_holds 44 = .ok (.iconst 2, 1) := by decide +kernel
theorem dX8_holds_45 : decode cX8_holds 45 = .ok (.idiv, 1) := by decide +kernel
theorem dX8_holds_46 : decode cX8_holds 46 = .ok (.istore_n 3, 1) := by decide +kernel
theorem dX8_holds_47 : decode cX8_holds 47 = .ok (.aload_n 0, 1) := by decide +kernel
theorem dX8_holds_48 : decode cX8_holds 48 = .ok (.getfield 9, 3) := by decide +kernel
theorem dX8_holds_51 : decode cX8_holds 51 = .ok (.aload_n 0, 1) := by decide +kernel
theorem dX8_holds_52 : decode cX8_holds 52 = .ok (.getfield 13, 3) := by decide +kernel
theorem dX8_holds_55 : decode cX8_holds 55 = .ok (.invokestatic 235, 3) := by decide +kernel
theorem dX8_holds_58 : decode cX8_holds 58 = .ok (.aload_n 0, 1) := by decide +kernel
theorem dX8_holds_59 : decode cX8_holds 59 = .ok (.getfield 13, 3) := by decide +kernel
theorem dX8_holds_62 : decode cX8_holds 62 = .ok (.iload_n 3, 1) := by decide +kernel
theorem dX8_holds_63 : decode cX8_holds 63 = .ok (.invokestatic 94, 3) := by decide +kernel
theorem dX8_holds_66 : decode cX8_holds 66 = .ok (.aload_n 0, 1) := by decide +kernel
theorem dX8_holds_67 : decode cX8_holds 67 = .ok (.aload_n 0, 1) := by decide +kernel
theorem dX8_holds_68 : decode cX8_holds 68 = .ok (.getfield 13, 3) := by decide +kernel
theorem dX8_holds_71 : decode cX8_holds 71 = .ok (.iload_n 1, 1) := by decide +kernel
theorem dX8_holds_72 : decode cX8_holds 72 = .ok (.invokevirtual 113, 3) := by decide +kernel
theorem dX8_holds_75 : decode cX8_holds 75 = .ok (.aload_n 0, 1) := by decide +kernel
theorem dX8_holds_76 : decode cX8_holds 76 = .ok (.getfield 13, 3) := by decide +kernel
theorem dX8_holds_79 : decode cX8_holds 79 = .ok (.bipush 10, 2) := by decide +kernel
theorem dX8_holds_81 : decode cX8_holds 81 = .ok (.iaload, 1) := by decide +kernel
theorem dX8_holds_82 : decode cX8_holds 82 = .ok (.aload_n 0, 1) := by decide +kernel
theorem dX8_holds_83 : decode cX8_holds 83 = .ok (.getfield 9, 3) := by decide +kernel
theorem dX8_holds_86 : decode cX8_holds 86 = .ok (.bipush 10, 2) := by decide +kernel
theorem dX8_holds_88 : decode cX8_holds 88 = .ok (.iaload, 1) := by decide +kernel
theorem dX8_holds_89 : decode cX8_holds 89 = .ok (.if_icmp .ne 5, 3) := by decide +kernel
theorem dX8_holds_92 : decode cX8_holds 92 = .ok (.iload_n 3, 1) := by decide +kernel
theorem dX8_holds_93 : decode cX8_holds 93 = .ok (.ireturn, 1) := by decide +kernel
theorem dX8_holds_94 : decode cX8_holds 94 = .ok (.iinc 2 1, 3) := by decide +kernel
theorem dX8_holds_97 : decode cX8_holds 97 = .ok (.goto (-76), 3) := by decide +kernel
theorem dX8_holds_100 : decode cX8_holds 100 = .ok (.aload_n 0, 1) := by decide +kernel
theorem dX8_holds_101 : decode cX8_holds 101 = .ok (.ldc 125, 2) := by decide +kernel
theorem dX8_holds_103 : decode cX8_holds 103 = .ok (.invokevirtual 61, 3) := by decide +kernel
theorem dX8_holds_106 : decode cX8_holds 106 = .ok (.ireturn, 1) := by decide +kernel
theorem dX8_drawn_0 : decode cX8_drawn 0 = .ok (.aload_n 0, 1) := by decide +kernel
theorem dX8_drawn_1 : decode cX8_drawn 1 = .ok (.getfield 9, 3) := by decide +kernel
theorem dX8_drawn_4 : decode cX8_drawn 4 = .ok (.bipush 12, 2) := by decide +kernel
theorem dX8_drawn_6 : decode cX8_drawn 6 = .ok (.aload_n 0, 1) := by decide +kernel
theorem dX8_drawn_7 : decode cX8_drawn 7 = .ok (.getfield 9, 3) := by decide +kernel
theorem dX8_drawn_10 : decode cX8_drawn 10 = .ok (.bipush 12, 2) := by decide +kernel
theorem dX8_drawn_12 : decode cX8_drawn 12 = .ok (.iaload, 1) := by decide +kernel
theorem dX8_drawn_13 : decode cX8_drawn 13 = .ok (.ldc 253, 2) := by decide +kernel
theorem dX8_drawn_15 : decode cX8_drawn 15 = .ok (.imul, 1) := by decide +kernel
theorem dX8_drawn_16 : decode cX8_drawn 16 = .ok (.sipush 12345, 3) := by decide +kernel
theorem dX8_drawn_19 : decode cX8_drawn 19 = .ok (.iadd, 1) := by decide +kernel
theorem dX8_drawn_20 : decode cX8_drawn 20 = .ok (.iastore, 1) := by decide +kernel
theorem dX8_drawn_21 : decode cX8_drawn 21 = .ok (.aload_n 0, 1) := by decide +kernel
theorem dX8_drawn_22 : decode cX8_drawn 22 = .ok (.getfield 9, 3) := by decide +kernel
theorem dX8_drawn_25 : decode cX8_drawn 25 = .ok (.bipush 12, 2) := by decide +kernel
theorem dX8_drawn_27 : decode cX8_drawn 27 = .ok (.iaload, 1) := by decide +kernel
theorem dX8_drawn_28 : decode cX8_drawn 28 = .ok (.bipush 8, 2) := by decide +kernel
theorem dX8_drawn_30 : decode cX8_drawn 30 = .ok (.iushr, 1) := by decide +kernel
theorem dX8_drawn_31 : decode cX8_drawn 31 = .ok (.ireturn, 1) := by decide +kernel
theorem dX8_chance_0 : decode cX8_chance 0 = .ok (.iload_n 1, 1) := by decide +kernel
theorem dX8_chance_1 : decode cX8_chance 1 = .ok (.i2l, 1) := by decide +kernel
theorem dX8_chance_2 : decode cX8_chance 2 = .ok (.lconst 1, 1) := by decide +kernel
theorem dX8_chance_3 : decode cX8_chance 3 = .ok (.ldc2_w 254, 3) := by decide +kernel
theorem dX8_chance_6 : decode cX8_chance 6 = .ok (.invokestatic 49, 3) := by decide +kernel
theorem dX8_chance_9 : decode cX8_chance 9 = .ok (.ifCond .eq 15, 3) := by decide +kernel
theorem dX8_chance_12 : decode cX8_chance 12 = .ok (.iload_n 2, 1) := by decide +kernel
theorem dX8_chance_13 : decode cX8_chance 13 = .ok (.i2l, 1) := by decide +kernel
theorem dX8_chance_14 : decode cX8_chance 14 = .ok (.lconst 1, 1) := by decide +kernel
theorem dX8_chance_15 : decode cX8_chance 15 = .ok (.ldc2_w 92, 3) := by decide +kernel
theorem dX8_chance_18 : decode cX8_chance 18 = .ok (.invokestatic 49, 3) := by decide +kernel
theorem dX8_chance_21 : decode cX8_chance 21 = .ok (.ifCond .ne 10, 3) := by decide +kernel
theorem dX8_chance_24 : decode cX8_chance 24 = .ok (.aload_n 0, 1) := by decide +kernel
theorem dX8_chance_25 : decode cX8_chance 25 = .ok (.ldc 46, 2) := by decide +kernel
theorem dX8_chance_27 : decode cX8_chance 27 = .ok (.invokevirtual 61, 3) := by decide +kernel
theorem dX8_chance_30 : decode cX8_chance 30 = .ok (.ireturn, 1) := by decide +kernel
theorem dX8_chance_31 : decode cX8_chance 31 = .ok (.iconst 0, 1) := by decide +kernel
theorem dX8_chance_32 : decode cX8_chance 32 = .ok (.istore_n 3, 1) := by decide +kernel
theorem dX8_chance_33 : decode cX8_chance 33 = .ok (.iconst 0, 1) := by decide +kernel
theorem dX8_chance_34 : decode cX8_chance 34 = .ok (.istore 4, 2) := by decide +kernel
theorem dX8_chance_36 : decode cX8_chance 36 = .ok (.iload 4, 2) := by decide +kernel
theorem dX8_chance_38 : decode cX8_chance 38 = .ok (.iload_n 1, 1) := by decide +kernel
theorem dX8_chance_39 : decode cX8_chance 39 = .ok (.if_icmp .ge 67, 3) := by decide +kernel
theorem dX8_chance_42 : decode cX8_chance 42 = .ok (.aload_n 0, 1) := by decide +kernel
theorem dX8_chance_43 : decode cX8_chance 43 = .ok (.invokevirtual 256, 3) := by decide +kernel
theorem dX8_chance_46 : decode cX8_chance 46 = .ok (.bipush 21, 2) := by decide +kernel
theorem dX8_chance_48 : decode cX8_chance 48 = .ok (.irem, 1) := by decide +kernel
theorem dX8_chance_49 : decode cX8_chance 49 = .ok (.bipush 10, 2) := by decide +kernel
theorem dX8_chance_51 : decode cX8_chance 51 = .ok (.isub, 1) := by decide +kernel
theorem dX8_chance_52 : decode cX8_chance 52 = .ok (.istore 5, 2) := by decide +kernel
theorem dX8_chance_54 : decode cX8_chance 54 = .ok (.aload_n 0, 1) := by decide +kernel
theorem dX8_chance_55 : decode cX8_chance 55 = .ok (.getfield 9, 3) := by decide +kernel
theorem dX8_chance_58 : decode cX8_chance 58 = .ok (.aload_n 0, 1) := by decide +kernel
theorem dX8_chance_59 : decode cX8_chance 59 = .ok (.getfield 13, 3) := by decide +kernel
theorem dX8_chance_62 : decode cX8_chance 62 = .ok (.invokestatic 235, 3) := by decide +kernel
theorem dX8_chance_65 : decode cX8_chance 65 = .ok (.aload_n 0, 1) := by decide +kernel
theorem dX8_chance_66 : decode cX8_chance 66 = .ok (.getfield 13, 3) := by decide +kernel
theorem dX8_chance_69 : decode cX8_chance 69 = .ok (.iload 5, 2) := by decide +kernel
theorem dX8_chance_71 : decode cX8_chance 71 = .ok (.invokestatic 94, 3) := by decide +kernel
theorem dX8_chance_74 : decode cX8_chance 74 = .ok (.aload_n 0, 1) := by decide +kernel
theorem dX8_chance_75 : decode cX8_chance 75 = .ok (.aload_n 0, 1) := by decide +kernel
theorem dX8_chance_76 : decode cX8_chance 76 = .ok (.getfield 13, 3) := by decide +kernel
theorem dX8_chance_79 : decode cX8_chance 79 = .ok (.iload_n 2, 1) := by decide +kernel
theorem dX8_chance_80 : decode cX8_chance 80 = .ok (.invokevirtual 113, 3) := by decide +kernel
theorem dX8_chance_83 : decode cX8_chance 83 = .ok (.iload_n 3, 1) := by decide +kernel
theorem dX8_chance_84 : decode cX8_chance 84 = .ok (.aload_n 0, 1) := by decide +kernel
theorem dX8_chance_85 : decode cX8_chance 85 = .ok (.getfield 13, 3) := by decide +kernel
theorem dX8_chance_88 : decode cX8_chance 88 = .ok (.iconst 4, 1) := by decide +kernel
theorem dX8_chance_89 : decode cX8_chance 89 = .ok (.iaload, 1) := by decide +kernel
theorem dX8_chance_90 : decode cX8_chance 90 = .ok (.ifCond .le 7, 3) := by decide +kernel
theorem dX8_chance_93 : decode cX8_chance 93 = .ok (.iconst 1, 1) := by decide +kernel
theorem dX8_chance_94 : decode cX8_chance 94 = .ok (.goto 4, 3) := by decide +kernel
theorem dX8_chance_97 : decode cX8_chance 97 = .ok (.iconst 0, 1) := by decide +kernel
theorem dX8_chance_98 : decode cX8_chance 98 = .ok (.iadd, 1) := by decide +kernel
theorem dX8_chance_99 : decode cX8_chance 99 = .ok (.istore_n 3, 1) := by decide +kernel
theorem dX8_chance_100 : decode cX8_chance 100 = .ok (.iinc 4 1, 3) := by decide +kernel
theorem dX8_chance_103 : decode cX8_chance 103 = .ok (.goto (-67), 3) := by decide +kernel
theorem dX8_chance_106 : decode cX8_chance 106 = .ok (.iload_n 3, 1) := by decide +kernel
theorem dX8_chance_107 : decode cX8_chance 107 = .ok (.ireturn, 1) := by decide +kernel
theorem dX8_briefly_0 : decode cX8_briefly 0 = .ok (.aload_n 0, 1) := by decide +kernel
theorem dX8_briefly_1 : decode cX8_briefly 1 = .ok (.getfield 31, 3) := by decide +kernel
theorem dX8_briefly_4 : decode cX8_briefly 4 = .ok (.iconst 0, 1) := by decide +kernel
theorem dX8_briefly_5 : decode cX8_briefly 5 = .ok (.iaload, 1) := by decide +kernel
theorem dX8_briefly_6 : decode cX8_briefly 6 = .ok (.i2l, 1) := by decide +kernel
theorem dX8_briefly_7 : decode cX8_briefly 7 = .ok (.lstore_n 1, 1) := by decide +kernel
theorem dX8_briefly_8 : decode cX8_briefly 8 = .ok (.aload_n 0, 1) := by decide +kernel
theorem dX8_briefly_9 : decode cX8_briefly 9 = .ok (.getfield 31, 3) := by decide +kernel
theorem dX8_briefly_12 : decode cX8_briefly 12 = .ok (.iconst 1, 1) := by decide +kernel
theorem dX8_briefly_13 : decode cX8_briefly 13 = .ok (.iaload, 1) := by decide +kernel
theorem dX8_briefly_14 : decode cX8_briefly 14 = .ok (.i2l, 1) := by decide +kernel
theorem dX8_briefly_15 : decode cX8_briefly 15 = .ok (.lstore_n 3, 1) := by decide +kernel
theorem dX8_briefly_16 : decode cX8_briefly 16 = .ok (.aload_n 0, 1) := by decide +kernel
theorem dX8_briefly_17 : decode cX8_briefly 17 = .ok (.getfield 31, 3) := by decide +kernel
theorem dX8_briefly_20 : decode cX8_briefly 20 = .ok (.iconst 2, 1) := by decide +kernel
theorem dX8_briefly_21 : decode cX8_briefly 21 = .ok (.iaload, 1) := by decide +kernel
theorem dX8_briefly_22 : decode cX8_briefly 22 = .ok (.i2l, 1) := by decide +kernel
theorem dX8_briefly_23 : decode cX8_briefly 23 = .ok (.lstore 5, 2) := by decide +kernel
theorem dX8_briefly_25 : decode cX8_briefly 25 = .ok (.aload_n 0, 1) := by decide +kernel
theorem dX8_briefly_26 : decode cX8_briefly 26 = .ok (.getfield 31, 3) := by decide +kernel
theorem dX8_briefly_29 : decode cX8_briefly 29 = .ok (.iconst 0, 1) := by decide +kernel
theorem dX8_briefly_30 : decode cX8_briefly 30 = .ok (.lload_n 1, 1) := by decide +kernel
theorem dX8_briefly_31 : decode cX8_briefly 31 = .ok (.lload_n 3, 1) := by decide +kernel
theorem dX8_briefly_32 : decode cX8_briefly 32 = .ok (.lload_n 1, 1) := by decide +kernel
theorem dX8_briefly_33 : decode cX8_briefly 33 = .ok (.lsub, 1) := by decide +kernel
theorem dX8_briefly_34 : decode cX8_briefly 34 = .ok (.ldc2_w 248, 3) := by decide +kernel
theorem dX8_briefly_37 : decode cX8_briefly 37 = .ok (.ldiv, 1) := by decide +kernel
theorem dX8_briefly_38 : decode cX8_briefly 38 = .ok (.ladd, 1) := by decide +kernel
theorem dX8_briefly_39 : decode cX8_briefly 39 = .ok (.ldc_w 259, 3) := by decide +kernel
theorem dX8_briefly_42 : decode cX8_briefly 42 = .ok (.ldc_w 260, 3) := by decide +kernel
theorem dX8_briefly_45 : decode cX8_briefly 45 = .ok (.invokestatic 86, 3) := by decide +kernel
theorem dX8_briefly_48 : decode cX8_briefly 48 = .ok (.iastore, 1) := by decide +kernel
theorem dX8_briefly_49 : decode cX8_briefly 49 = .ok (.aload_n 0, 1) := by decide +kernel
theorem dX8_briefly_50 : decode cX8_briefly 50 = .ok (.getfield 31, 3) := by decide +kernel
theorem dX8_briefly_53 : decode cX8_briefly 53 = .ok (.iconst 1, 1) := by decide +kernel
theorem dX8_briefly_54 : decode cX8_briefly 54 = .ok (.lload_n 3, 1) := by decide +kernel
theorem dX8_briefly_55 : decode cX8_briefly 55 = .ok (.lload_n 1, 1) := by decide +kernel
theorem dX8_briefly_56 : decode cX8_briefly 56 = .ok (.ldc2_w 261, 3) := by decide +kernel
theorem dX8_briefly_59 : decode cX8_briefly 59 = .ok (.lload 5, 2) := by decide +kernel
theorem dX8_briefly_61 : decode cX8_briefly 61 = .ok (.lsub, 1) := by decide +kernel
theorem dX8_briefly_62 : decode cX8_briefly 62 = .ok (.lmul, 1) := by decide +kernel
theorem dX8_briefly_63 : decode cX8_briefly 63 = .ok (.ldc2_w 111, 3) := by decide +kernel
theorem dX8_briefly_66 : decode cX8_briefly 66 = .ok (.ldiv, 1) := by decide +kernel
theorem dX8_briefly_67 : decode cX8_briefly 67 = .ok (.lload_n 3, 1) := by decide +kernel
theorem dX8_briefly_68 : decode cX8_briefly 68 = .ok (.lsub, 1) := by decide +kernel
theorem dX8_briefly_69 : decode cX8_briefly 69 = .ok (.ldc2_w 111, 3) := by decide +kernel
theorem dX8_briefly_72 : decode cX8_briefly 72 = .ok (.ldiv, 1) := by decide +kernel
theorem dX8_briefly_73 : decode cX8_briefly 73 = .ok (.ladd, 1) := by decide +kernel
theorem dX8_briefly_74 : decode cX8_briefly 74 = .ok (.ldc_w 259, 3) := by decide +kernel
theorem dX8_briefly_77 : decode cX8_briefly 77 = .ok (.ldc_w 260, 3) := by decide +kernel
theorem dX8_briefly_80 : decode cX8_briefly 80 = .ok (.invokestatic 86, 3) := by decide +kernel
theorem dX8_briefly_83 : decode cX8_briefly 83 = .ok (.iastore, 1) := by decide +kernel
theorem dX8_briefly_84 : decode cX8_briefly 84 = .ok (.aload_n 0, 1) := by decide +kernel
theorem dX8_briefly_85 : decode cX8_briefly 85 = .ok (.getfield 31, 3) := by decide +kernel
theorem dX8_briefly_88 : decode cX8_briefly 88 = .ok (.iconst 2, 1) := by decide +kernel
theorem dX8_briefly_89 : decode cX8_briefly 89 = .ok (.lload 5, 2) := by decide +kernel
theorem dX8_briefly_91 : decode cX8_briefly 91 = .ok (.lload_n 1, 1) := by decide +kernel
theorem dX8_briefly_92 : decode cX8_briefly 92 = .ok (.lload_n 3, 1) := by decide +kernel
theorem dX8_briefly_93 : decode cX8_briefly 93 = .ok (.lmul, 1) := by decide +kernel
theorem dX8_briefly_94 : decode cX8_briefly 94 = .ok (.ldc2_w 111, 3) := by decide +kernel
theorem dX8_briefly_97 : decode cX8_briefly 97 = .ok (.ldiv, 1) := by decide +kernel
theorem dX8_briefly_98 : decode cX8_briefly 98 = .ok (.ldc2_w 263, 3) := by decide +kernel
theorem dX8_briefly_101 : decode cX8_briefly 101 = .ok (.lload 5, 2) := by decide +kernel
theorem dX8_briefly_103 : decode cX8_briefly 103 = .ok (.lmul, 1) := by decide +kernel
theorem dX8_briefly_104 : decode cX8_briefly 104 = .ok (.ldc2_w 233, 3) := by decide +kernel
theorem dX8_briefly_107 : decode cX8_briefly 107 = .ok (.ldiv, 1) := by decide +kernel
theorem dX8_briefly_108 : decode cX8_briefly 108 = .ok (.lsub, 1) := by decide +kernel
theorem dX8_briefly_109 : decode cX8_briefly 109 = .ok (.ldc2_w 111, 3) := by decide +kernel
theorem dX8_briefly_112 : decode cX8_briefly 112 = .ok (.ldiv, 1) := by decide +kernel
theorem dX8_briefly_113 : decode cX8_briefly 113 = .ok (.ladd, 1) := by decide +kernel
theorem dX8_briefly_114 : decode cX8_briefly 114 = .ok (.ldc_w 259, 3) := by decide +kernel
theorem dX8_briefly_117 : decode cX8_briefly 117 = .ok (.ldc_w 260, 3) := by decide +kernel
theorem dX8_briefly_120 : decode cX8_briefly 120 = .ok (.invokestatic 86, 3) := by decide +kernel
theorem dX8_briefly_123 : decode cX8_briefly 123 = .ok (.iastore, 1) := by decide +kernel
theorem dX8_briefly_124 : decode cX8_briefly 124 = .ok (.return_, 1) := by decide +kernel
theorem dX8_begins_0 : decode cX8_begins 0 = .ok (.aload_n 0, 1) := by decide +kernel
theorem dX8_begins_1 : decode cX8_begins 1 = .ok (.getfield 31, 3) := by decide +kernel
theorem dX8_begins_4 : decode cX8_begins 4 = .ok (.iconst 0, 1) := by decide +kernel
theorem dX8_begins_5 : decode cX8_begins 5 = .ok (.iload_n 1, 1) := by decide +kernel
theorem dX8_begins_6 : decode cX8_begins 6 = .ok (.iastore, 1) := by decide +kernel
theorem dX8_begins_7 : decode cX8_begins 7 = .ok (.aload_n 0, 1) := by decide +kernel
theorem dX8_begins_8 : decode cX8_begins 8 = .ok (.getfield 31, 3) := by decide +kernel
theorem dX8_begins_11 : decode cX8_begins 11 = .ok (.iconst 1, 1) := by decide +kernel
theorem dX8_begins_12 : decode cX8_begins 12 = .ok (.iload_n 2, 1) := by decide +kernel
theorem dX8_begins_13 : decode cX8_begins 13 = .ok (.iastore, 1) := by decide +kernel
theorem dX8_begins_14 : decode cX8_begins 14 = .ok (.aload_n 0, 1) := by decide +kernel
theorem dX8_begins_15 : decode cX8_begins 15 = .ok (.getfield 31, 3) := by decide +kernel
theorem dX8_begins_18 : decode cX8_begins 18 = .ok (.iconst 2, 1) := by decide +kernel
theorem dX8_begins_19 : decode cX8_begins 19 = .ok (.iconst 0, 1) := by decide +kernel
theorem dX8_begins_20 : decode cX8_begins 20 = .ok (.iastore, 1) := by decide +kernel
theorem dX8_begins_21 : decode cX8_begins 21 = .ok (.return_, 1) := by decide +kernel
theorem dX8_isBrief_0 : decode cX8_isBrief 0 = .ok (.iload_n 0, 1) := by decide +kernel
theorem dX8_isBrief_1 : decode cX8_isBrief 1 = .ok (.i2l, 1) := by decide +kernel
theorem dX8_isBrief_2 : decode cX8_isBrief 2 = .ok (.ldc2_w 265, 3) := by decide +kernel
theorem dX8_isBrief_5 : decode cX8_isBrief 5 = .ok (.ldc2_w 83, 3) := by decide +kernel
theorem dX8_isBrief_8 : decode cX8_isBrief 8 = .ok (.invokestatic 49, 3) := by decide +kernel
theorem dX8_isBrief_11 : decode cX8_isBrief 11 = .ok (.ifCond .eq 33, 3) := by decide +kernel
theorem dX8_isBrief_14 : decode cX8_isBrief 14 = .ok (.iload_n 1, 1) := by decide +kernel
theorem dX8_isBrief_15 : decode cX8_isBrief 15 = .ok (.i2l, 1) := by decide +kernel
theorem dX8_isBrief_16 : decode cX8_isBrief 16 = .ok (.ldc2_w 265, 3) := by decide +kernel
theorem dX8_isBrief_19 : decode cX8_isBrief 19 = .ok (.ldc2_w 83, 3) := by decide +kernel
theorem dX8_isBrief_22 : decode cX8_isBrief 22 = .ok (.invokestatic 49, 3) := by decide +kernel
theorem dX8_isBrief_25 : decode cX8_isBrief 25 = .ok (.ifCond .eq 19, 3) := by decide +kernel
theorem dX8_isBrief_28 : decode cX8_isBrief 28 = .ok (.iload_n 2, 1) := by decide +kernel
theorem dX8_isBrief_29 : decode cX8_isBrief 29 = .ok (.i2l, 1) := by decide +kernel
theorem dX8_isBrief_30 : decode cX8_isBrief 30 = .ok (.lconst 0, 1) := by decide +kernel
theorem dX8_isBrief_31 : decode cX8_isBrief 31 = .ok (.ldc2_w 92, 3) := by decide +kernel
theorem dX8_isBrief_34 : decode cX8_isBrief 34 = .ok (.invokestatic 49, 3) := by decide +kernel
theorem dX8_isBrief_37 : decode cX8_isBrief 37 = .ok (.ifCond .eq 7, 3) := by decide +kernel
theorem dX8_isBrief_40 : decode cX8_isBrief 40 = .ok (.iconst 1, 1) := by decide +kernel
theorem dX8_isBrief_41 : decode cX8_isBrief 41 = .ok (.goto 4, 3) := by decide +kernel
theorem dX8_isBrief_44 : decode cX8_isBrief 44 = .ok (.iconst 0, 1) := by decide +kernel
theorem dX8_isBrief_45 : decode cX8_isBrief 45 = .ok (.ireturn, 1) := by decide +kernel
theorem dX8_brief_0 : decode cX8_brief 0 = .ok (.iload_n 1, 1) := by decide +kernel
theorem dX8_brief_1 : decode cX8_brief 1 = .ok (.iload_n 2, 1) := by decide +kernel
theorem dX8_brief_2 : decode cX8_brief 2 = .ok (.iload_n 3, 1) := by decide +kernel
theorem dX8_brief_3 : decode cX8_brief 3 = .ok (.invokestatic 267, 3) := by decide +kernel
theorem dX8_brief_6 : decode cX8_brief 6 = .ok (.ifCond .eq 16, 3) := by decide +kernel
theorem dX8_brief_9 : decode cX8_brief 9 = .ok (.iload 4, 2) := by decide +kernel
theorem dX8_brief_11 : decode cX8_brief 11 = .ok (.i2l, 1) := by decide +kernel
theorem dX8_brief_12 : decode cX8_brief 12 = .ok (.lconst 0, 1) := by decide +kernel
theorem dX8_brief_13 : decode cX8_brief 13 = .ok (.ldc2_w 55, 3) := by decide +kernel
theorem dX8_brief_16 : decode cX8_brief 16 = .ok (.invokestatic 49, 3) := by decide +kernel
theorem dX8_brief_19 : decode cX8_brief 19 = .ok (.ifCond .ne 10, 3) := by decide +kernel
theorem dX8_brief_22 : decode cX8_brief 22 = .ok (.aload_n 0, 1) := by decide +kernel
theorem dX8_brief_23 : decode cX8_brief 23 = .ok (.ldc 46, 2) := by decide +kernel
theorem dX8_brief_25 : decode cX8_brief 25 = .ok (.invokevirtual 61, 3) := by decide +kernel
theorem dX8_brief_28 : decode cX8_brief 28 = .ok (.ireturn, 1) := by decide +kernel
theorem dX8_brief_29 : decode cX8_brief 29 = .ok (.aload_n 0, 1) := by decide +kernel
theorem dX8_brief_30 : decode cX8_brief 30 = .ok (.iload_n 1, 1) := by decide +kernel
theorem dX8_brief_31 : decode cX8_brief 31 = .ok (.iload_n 2, 1) := by decide +kernel
theorem dX8_brief_32 : decode cX8_brief 32 = .ok (.invokevirtual 271, 3) := by decide +kernel
theorem dX8_brief_35 : decode cX8_brief 35 = .ok (.iconst 0, 1) := by decide +kernel
theorem dX8_brief_36 : decode cX8_brief 36 = .ok (.istore 5, 2) := by decide +kernel
theorem dX8_brief_38 : decode cX8_brief 38 = .ok (.iload 5, 2) := by decide +kernel
theorem dX8_brief_40 : decode cX8_brief 40 = .ok (.iload_n 3, 1) := by decide +kernel
theorem dX8_brief_41 : decode cX8_brief 41 = .ok (.if_icmp .ge 13, 3) := by decide +kernel
theorem dX8_brief_44 : decode cX8_brief 44 = .ok (.aload_n 0, 1) := by decide +kernel
theorem dX8_brief_45 : decode cX8_brief 45 = .ok (.invokevirtual 274, 3) := by decide +kernel
theorem dX8_brief_48 : decode cX8_brief 48 = .ok (.iinc 5 1, 3) := by decide +kernel
theorem dX8_brief_51 : decode cX8_brief 51 = .ok (.goto (-13), 3) := by decide +kernel
theorem dX8_brief_54 : decode cX8_brief 54 = .ok (.aload_n 0, 1) := by decide +kernel
theorem dX8_brief_55 : decode cX8_brief 55 = .ok (.getfield 31, 3) := by decide +kernel
theorem dX8_brief_58 : decode cX8_brief 58 = .ok (.iload 4, 2) := by decide +kernel
theorem dX8_brief_60 : decode cX8_brief 60 = .ok (.iaload, 1) := by decide +kernel
theorem dX8_brief_61 : decode cX8_brief 61 = .ok (.ireturn, 1) := by decide +kernel
theorem dX8_flips_0 : decode cX8_flips 0 = .ok (.iload_n 1, 1) := by decide +kernel
theorem dX8_flips_1 : decode cX8_flips 1 = .ok (.iload_n 2, 1) := by decide +kernel
theorem dX8_flips_2 : decode cX8_flips 2 = .ok (.iload_n 3, 1) := by decide +kernel
theorem dX8_flips_3 : decode cX8_flips 3 = .ok (.invokestatic 267, 3) := by decide +kernel
theorem dX8_flips_6 : decode cX8_flips 6 = .ok (.ifCond .ne 10, 3) := by decide +kernel
theorem dX8_flips_9 : decode cX8_flips 9 = .ok (.aload_n 0, 1) := by decide +kernel
theorem dX8_flips_10 : decode cX8_flips 10 = .ok (.ldc 46, 2) := by decide +kernel
theorem dX8_flips_12 : decode cX8_flips 12 = .ok (.invokevirtual 61, 3) := by decide +kernel
theorem dX8_flips_15 : decode cX8_flips 15 = .ok (.ireturn, 1) := by decide +kernel
theorem dX8_flips_16 : decode cX8_flips 16 = .ok (.aload_n 0, 1) := by decide +kernel
theorem dX8_flips_17 : decode cX8_flips 17 = .ok (.iload_n 1, 1) := by decide +kernel
theorem dX8_flips_18 : decode cX8_flips 18 = .ok (.iload_n 2, 1) := by decide +kernel
theorem dX8_flips_19 : decode cX8_flips 19 = .ok (.invokevirtual 271, 3) := by decide +kernel
theorem dX8_flips_22 : decode cX8_flips 22 = .ok (.iload_n 1, 1) := by decide +kernel
theorem dX8_flips_23 : decode cX8_flips 23 = .ok (.ifCond .le 7, 3) := by decide +kernel
theorem dX8_flips_26 : decode cX8_flips 26 = .ok (.iconst 1, 1) := by decide +kernel
theorem dX8_flips_27 : decode cX8_flips 27 = .ok (.goto 12, 3) := by decide +kernel
theorem dX8_flips_30 : decode cX8_flips 30 = .ok (.iload_n 1, 1) := by decide +kernel
theorem dX8_flips_31 : decode cX8_flips 31 = .ok (.ifCond .ge 7, 3) := by decide +kernel
theorem dX8_flips_34 : decode cX8_flips 34 = .ok (.iconst (-1), 1) := by decide +kernel
theorem dX8_flips_35 : decode cX8_flips 35 = .ok (.goto 4, 3) := by decide +kernel
theorem dX8_flips_38 : decode cX8_flips 38 = .ok (.iconst 0, 1) := by decide +kernel
theorem dX8_flips_39 : decode cX8_flips 39 = .ok (.istore 4, 2) := by decide +kernel
theorem dX8_flips_41 : decode cX8_flips 41 = .ok (.iconst 0, 1) := by decide +kernel
theorem dX8_flips_42 : decode cX8_flips 42 = .ok (.istore 5, 2) := by decide +kernel
theorem dX8_flips_44 : decode cX8_flips 44 = .ok (.iconst 0, 1) := by decide +kernel
theorem dX8_flips_45 : decode cX8_flips 45 = .ok (.istore 6, 2) := by decide +kernel
theorem dX8_flips_47 : decode cX8_flips 47 = .ok (.iload 6, 2) := by decide +kernel
theorem dX8_flips_49 : decode cX8_flips 49 = .ok (.iload_n 3, 1) := by decide +kernel
theorem dX8_flips_50 : decode cX8_flips 50 = .ok (.if_icmp .ge 69, 3) := by decide +kernel
theorem dX8_flips_53 : decode cX8_flips 53 = .ok (.aload_n 0, 1) := by decide +kernel
theorem dX8_flips_54 : decode cX8_flips 54 = .ok (.invokevirtual 274, 3) := by decide +kernel
theorem dX8_flips_57 : decode cX8_flips 57 = .ok (.aload_n 0, 1) := by decide +kernel
theorem dX8_flips_58 : decode cX8_flips 58 = .ok (.getfield 31, 3) := by decide +kernel
theorem dX8_flips_61 : decode cX8_flips 61 = .ok (.iconst 0, 1) := by decide +kernel
theorem dX8_flips_62 : decode cX8_flips 62 = .ok (.iaload, 1) := by decide +kernel
theorem dX8_flips_63 : decode cX8_flips 63 = .ok (.ifCond .le 7, 3) := by decide +kernel
theorem dX8_flips_66 : decode cX8_flips 66 = .ok (.iconst 1, 1) := by decide +kernel
theorem dX8_flips_67 : decode cX8_flips 67 = .ok (.goto 18, 3) := by decide +kernel
theorem dX8_flips_70 : decode cX8_flips 70 = .ok (.aload_n 0, 1) := by decide +kernel
theorem dX8_flips_71 : decode cX8_flips 71 = .ok (.getfield 31, 3) := by decide +kernel
theorem dX8_flips_74 : decode cX8_flips 74 = .ok (.iconst 0, 1) := by decide +kernel
theorem dX8_flips_75 : decode cX8_flips 75 = .ok (.iaload, 1) := by decide +kernel
theorem dX8_flips_76 : decode cX8_flips 76 = .ok (.ifCond .ge 7, 3) := by decide +kernel
theorem dX8_flips_79 : decode cX8_flips 79 = .ok (.iconst (-1), 1) := by decide +kernel
theorem dX8_flips_80 : decode cX8_flips 80 = .ok (.goto 5, 3) := by decide +kernel
theorem dX8_flips_83 : decode cX8_flips 83 = .ok (.iload 4, 2) := by decide +kernel
theorem dX8_flips_85 : decode cX8_flips 85 = .ok (.istore 7, 2) := by decide +kernel
theorem dX8_flips_87 : decode cX8_flips 87 = .ok (.iload 5, 2) := by decide +kernel
theorem dX8_flips_89 : decode cX8_flips 89 = .ok (.iload 4, 2) := by decide +kernel
theorem dX8_flips_91 : decode cX8_flips 91 = .ok (.ifCond .eq 14, 3) := by decide +kernel
theorem dX8_flips_94 : decode cX8_flips 94 = .ok (.iload 7, 2) := by decide +kernel
theorem dX8_flips_96 : decode cX8_flips 96 = .ok (.iload 4, 2) := by decide +kernel
theorem dX8_flips_98 : decode cX8_flips 98 = .ok (.if_icmp .eq 7, 3) := by decide +kernel
theorem dX8_flips_101 : decode cX8_flips 101 = .ok (.iconst 1, 1) := by decide +kernel
theorem dX8_flips_102 : decode cX8_flips 102 = .ok (.goto 4, 3) := by decide +kernel
theorem dX8_flips_105 : decode cX8_flips 105 = .ok (.iconst 0, 1) := by decide +kernel
theorem dX8_flips_106 : decode cX8_flips 106 = .ok (.iadd, 1) := by decide +kernel
theorem dX8_flips_107 : decode cX8_flips 107 = .ok (.istore 5, 2) := by decide +kernel
theorem dX8_flips_109 : decode cX8_flips 109 = .ok (.iload 7, 2) := by decide +kernel
theorem dX8_flips_111 : decode cX8_flips 111 = .ok (.istore 4, 2) := by decide +kernel
theorem dX8_flips_113 : decode cX8_flips 113 = .ok (.iinc 6 1, 3) := by decide +kernel
theorem dX8_flips_116 : decode cX8_flips 116 = .ok (.goto (-69), 3) := by decide +kernel
theorem dX8_flips_119 : decode cX8_flips 119 = .ok (.iload 5, 2) := by decide +kernel
theorem dX8_flips_121 : decode cX8_flips 121 = .ok (.ireturn, 1) := by decide +kernel
theorem dX8_seed_0 : decode cX8_seed 0 = .ok (.aload_n 0, 1) := by decide +kernel
theorem dX8_seed_1 : decode cX8_seed 1 = .ok (.getfield 9, 3) := by decide +kernel
theorem dX8_seed_4 : decode cX8_seed 4 = .ok (.bipush 12, 2) := by decide +kernel
theorem dX8_seed_6 : decode cX8_seed 6 = .ok (.iaload, 1) := by decide +kernel
theorem dX8_seed_7 : decode cX8_seed 7 = .ok (.istore_n 2, 1) := by decide +kernel
theorem dX8_seed_8 : decode cX8_seed 8 = .ok (.aload_n 0, 1) := by decide +kernel
theorem dX8_seed_9 : decode cX8_seed 9 = .ok (.getfield 9, 3) := by decide +kernel
theorem dX8_seed_12 : decode cX8_seed 12 = .ok (.bipush 12, 2) := by decide +kernel
theorem dX8_seed_14 : decode cX8_seed 14 = .ok (.iload_n 1, 1) := by decide +kernel
theorem dX8_seed_15 : decode cX8_seed 15 = .ok (.iastore, 1) := by decide +kernel
theorem dX8_seed_16 : decode cX8_seed 16 = .ok (.iload_n 2, 1) := by decide +kernel
theorem dX8_seed_17 : decode cX8_seed 17 = .ok (.ireturn, 1) := by decide +kernel
theorem dX8_hold_0 : decode cX8_hold 0 = .ok (.iload_n 1, 1) := by decide +kernel
theorem dX8_hold_1 : decode cX8_hold 1 = .ok (.i2l, 1) := by decide +kernel
theorem dX8_hold_2 : decode cX8_hold 2 = .ok (.lconst 0, 1) := by decide +kernel
theorem dX8_hold_3 : decode cX8_hold 3 = .ok (.ldc2_w 277, 3) := by decide +kernel
theorem dX8_hold_6 : decode cX8_hold 6 = .ok (.invokestatic 49, 3) := by decide +kernel
theorem dX8_hold_9 : decode cX8_hold 9 = .ok (.ifCond .eq 15, 3) := by decide +kernel
theorem dX8_hold_12 : decode cX8_hold 12 = .ok (.iload_n 2, 1) := by decide +kernel
theorem dX8_hold_13 : decode cX8_hold 13 = .ok (.iconst (-1), 1) := by decide +kernel
theorem dX8_hold_14 : decode cX8_hold 14 = .ok (.if_icmp .eq 17, 3) := by decide +kernel
theorem dX8_hold_17 : decode cX8_hold 17 = .ok (.iload_n 2, 1) := by decide +kernel
theorem dX8_hold_18 : decode cX8_hold 18 = .ok (.invokestatic 65, 3) := by decide +kernel
theorem dX8_hold_21 : decode cX8_hold 21 = .ok (.ifCond .ne 10, 3) := by decide +kernel
theorem dX8_hold_24 : decode cX8_hold 24 = .ok (.aload_n 0, 1) := by decide +kernel
theorem dX8_hold_25 : decode cX8_hold 25 = .ok (.ldc 46, 2) := by decide +kernel
theorem dX8_hold_27 : decode cX8_hold 27 = .ok (.invokevirtual 61, 3) := by decide +kernel
theorem dX8_hold_30 : decode cX8_hold 30 = .ok (.ireturn, 1) := by decide +kernel
theorem dX8_hold_31 : decode cX8_hold 31 = .ok (.aload_n 0, 1) := by decide +kernel
theorem dX8_hold_32 : decode cX8_hold 32 = .ok (.getfield 9, 3) := by decide +kernel
theorem dX8_hold_35 : decode cX8_hold 35 = .ok (.bipush 124, 2) := by decide +kernel
theorem dX8_hold_37 : decode cX8_hold 37 = .ok (.iload_n 1, 1) := by decide +kernel
theorem dX8_hold_38 : decode cX8_hold 38 = .ok (.iadd, 1) := by decide +kernel
theorem dX8_hold_39 : decode cX8_hold 39 = .ok (.iload_n 2, 1) := by decide +kernel
theorem dX8_hold_40 : decode cX8_hold 40 = .ok (.iastore, 1) := by decide +kernel
theorem dX8_hold_41 : decode cX8_hold 41 = .ok (.iconst 1, 1) := by decide +kernel
theorem dX8_hold_42 : decode cX8_hold 42 = .ok (.ireturn, 1) := by decide +kernel
theorem dX8_isOf_0 : decode cX8_isOf 0 = .ok (.iload_n 1, 1) := by decide +kernel
theorem dX8_isOf_1 : decode cX8_isOf 1 = .ok (.ifCond .eq 45, 3) := by decide +kernel
theorem dX8_isOf_4 : decode cX8_isOf 4 = .ok (.iload_n 0, 1) := by decide +kernel
theorem dX8_isOf_5 : decode cX8_isOf 5 = .ok (.iload_n 1, 1) := by decide +kernel
theorem dX8_isOf_6 : decode cX8_isOf 6 = .ok (.if_icmp .eq 40, 3) := by decide +kernel
theorem dX8_isOf_9 : decode cX8_isOf 9 = .ok (.iload_n 1, 1) := by decide +kernel
theorem dX8_isOf_10 : decode cX8_isOf 10 = .ok (.iconst 2, 1) := by decide +kernel
theorem dX8_isOf_11 : decode cX8_isOf 11 = .ok (.if_icmp .ne 14, 3) := by decide +kernel
theorem dX8_isOf_14 : decode cX8_isOf 14 = .ok (.iload_n 0, 1) := by decide +kernel
theorem dX8_isOf_15 : decode cX8_isOf 15 = .ok (.iconst 4, 1) := by decide +kernel
theorem dX8_isOf_16 : decode cX8_isOf 16 = .ok (.if_icmp .eq 30, 3) := by decide +kernel
theorem dX8_isOf_19 : decode cX8_isOf 19 = .ok (.iload_n 0, 1) := by decide +kernel
theorem dX8_isOf_20 : decode cX8_isOf 20 = .ok (.bipush 6, 2) := by decide +kernel
theorem dX8_isOf_22 : decode cX8_isOf 22 = .ok (.if_icmp .eq 24, 3) := by decide +kernel
theorem dX8_isOf_25 : decode cX8_isOf 25 = .ok (.iload_n 1, 1) := by decide +kernel
theorem dX8_isOf_26 : decode cX8_isOf 26 = .ok (.iconst 4, 1) := by decide +kernel
theorem dX8_isOf_27 : decode cX8_isOf 27 = .ok (.if_icmp .ne 9, 3) := by decide +kernel
theorem dX8_isOf_30 : decode cX8_isOf 30 = .ok (.iload_n 0, 1) := by decide +kernel
theorem dX8_isOf_31 : decode cX8_isOf 31 = .ok (.bipush 6, 2) := by decide +kernel
theorem dX8_isOf_33 : decode cX8_isOf 33 = .ok (.if_icmp .eq 13, 3) := by decide +kernel
theorem dX8_isOf_36 : decode cX8_isOf 36 = .ok (.iload_n 1, 1) := by decide +kernel
theorem dX8_isOf_37 : decode cX8_isOf 37 = .ok (.iconst 3, 1) := by decide +kernel
theorem dX8_isOf_38 : decode cX8_isOf 38 = .ok (.if_icmp .ne 12, 3) := by decide +kernel
theorem dX8_isOf_41 : decode cX8_isOf 41 = .ok (.iload_n 0, 1) := by decide +kernel
theorem dX8_isOf_42 : decode cX8_isOf 42 = .ok (.iconst 5, 1) := by decide +kernel
theorem dX8_isOf_43 : decode cX8_isOf 43 = .ok (.if_icmp .ne 7, 3) := by decide +kernel
theorem dX8_isOf_46 : decode cX8_isOf 46 = .ok (.iconst 1, 1) := by decide +kernel
theorem dX8_isOf_47 : decode cX8_isOf 47 = .ok (.goto 4, 3) := by decide +kernel
theorem dX8_isOf_50 : decode cX8_isOf 50 = .ok (.iconst 0, 1) := by decide +kernel
theorem dX8_isOf_51 : decode cX8_isOf 51 = .ok (.ireturn, 1) := by decide +kernel
theorem dX8_as_0 : decode cX8_as 0 = .ok (.iload_n 1, 1) := by decide +kernel
theorem dX8_as_1 : decode cX8_as 1 = .ok (.i2l, 1) := by decide +kernel
theorem dX8_as_2 : decode cX8_as 2 = .ok (.lconst 0, 1) := by decide +kernel
theorem dX8_as_3 : decode cX8_as 3 = .ok (.ldc2_w 277, 3) := by decide +kernel
theorem dX8_as_6 : decode cX8_as 6 = .ok (.invokestatic 49, 3) := by decide +kernel
theorem dX8_as_9 : decode cX8_as 9 = .ok (.ifCond .eq 15, 3) := by decide +kernel
theorem dX8_as_12 : decode cX8_as 12 = .ok (.iload_n 2, 1) := by decide +kernel
theorem dX8_as_13 : decode cX8_as 13 = .ok (.i2l, 1) := by decide +kernel
theorem dX8_as_14 : decode cX8_as 14 = .ok (.lconst 0, 1) := by decide +kernel
theorem dX8_as_15 : decode cX8_as 15 = .ok (.ldc2_w 69, 3) := by decide +kernel
theorem dX8_as_18 : decode cX8_as 18 = .ok (.invokestatic 49, 3) := by decide +kernel
theorem dX8_as_21 : decode cX8_as 21 = .ok (.ifCond .ne 10, 3) := by decide +kernel
theorem dX8_as_24 : decode cX8_as 24 = .ok (.aload_n 0, 1) := by decide +kernel
theorem dX8_as_25 : decode cX8_as 25 = .ok (.ldc 46, 2) := by decide +kernel
theorem dX8_as_27 : decode cX8_as 27 = .ok (.invokevirtual 61, 3) := by decide +kernel
theorem dX8_as_30 : decode cX8_as 30 = .ok (.ireturn, 1) := by decide +kernel
theorem dX8_as_31 : decode cX8_as 31 = .ok (.aload_n 0, 1) := by decide +kernel
theorem dX8_as_32 : decode cX8_as 32 = .ok (.getfield 9, 3) := by decide +kernel
theorem dX8_as_35 : decode cX8_as 35 = .ok (.bipush 124, 2) := by decide +kernel
theorem dX8_as_37 : decode cX8_as 37 = .ok (.iload_n 1, 1) := by decide +kernel
theorem dX8_as_38 : decode cX8_as 38 = .ok (.iadd, 1) := by decide +kernel
theorem dX8_as_39 : decode cX8_as 39 = .ok (.iaload, 1) := by decide +kernel
theorem dX8_as_40 : decode cX8_as 40 = .ok (.istore_n 3, 1) := by decide +kernel
theorem dX8_as_41 : decode cX8_as 41 = .ok (.iload_n 3, 1) := by decide +kernel
theorem dX8_as_42 : decode cX8_as 42 = .ok (.ifCond .ge 11, 3) := by decide +kernel
theorem dX8_as_45 : decode cX8_as 45 = .ok (.aload_n 0, 1) := by decide +kernel
theorem dX8_as_46 : decode cX8_as 46 = .ok (.ldc_w 279, 3) := by decide +kernel
theorem dX8_as_49 : decode cX8_as 49 = .ok (.invokevirtual 61, 3) := by decide +kernel
theorem dX8_as_52 : decode cX8_as 52 = .ok (.ireturn, 1) := by decide +kernel
theorem dX8_as_53 : decode cX8_as 53 = .ok (.aload_n 0, 1) := by decide +kernel
theorem dX8_as_54 : decode cX8_as 54 = .ok (.getfield 9, 3) := by decide +kernel
theorem dX8_as_57 : decode cX8_as 57 = .ok (.bipush 32, 2) := by decide +kernel
theorem dX8_as_59 : decode cX8_as 59 = .ok (.iload_n 3, 1) := by decide +kernel
theorem dX8_as_60 : decode cX8_as 60 = .ok (.iadd, 1) := by decide +kernel
theorem dX8_as_61 : decode cX8_as 61 = .ok (.iaload, 1) := by decide +kernel
theorem dX8_as_62 : decode cX8_as 62 = .ok (.iload_n 2, 1) := by decide +kernel
theorem dX8_as_63 : decode cX8_as 63 = .ok (.invokestatic 280, 3) := by decide +kernel
theorem dX8_as_66 : decode cX8_as 66 = .ok (.ifCond .eq 7, 3) := by decide +kernel
theorem dX8_as_69 : decode cX8_as 69 = .ok (.iload_n 3, 1) := by decide +kernel
theorem dX8_as_70 : decode cX8_as 70 = .ok (.goto 10, 3) := by decide +kernel
theorem dX8_as_73 : decode cX8_as 73 = .ok (.aload_n 0, 1) := by decide +kernel
theorem dX8_as_74 : decode cX8_as 74 = .ok (.ldc_w 283, 3) := by decide +kernel
theorem dX8_as_77 : decode cX8_as 77 = .ok (.invokevirtual 61, 3) := by decide +kernel
theorem dX8_as_80 : decode cX8_as 80 = .ok (.ireturn, 1) := by decide +kernel
theorem dX8_isSheet_0 : decode cX8_isSheet 0 = .ok (.iload_n 0, 1) := by decide +kernel
theorem dX8_isSheet_1 : decode cX8_isSheet 1 = .ok (.i2l, 1) := by decide +kernel
theorem dX8_isSheet_2 : decode cX8_isSheet 2 = .ok (.lconst 0, 1) := by decide +kernel
theorem dX8_isSheet_3 : decode cX8_isSheet 3 = .ok (.ldc2_w 233, 3) := by decide +kernel
theorem dX8_isSheet_6 : decode cX8_isSheet 6 = .ok (.invokestatic 49, 3) := by decide +kernel
theorem dX8_isSheet_9 : decode cX8_isSheet 9 = .ok (.ireturn, 1) := by decide +kernel
theorem dX8_sheet_0 : decode cX8_sheet 0 = .ok (.iload_n 1, 1) := by decide +kernel
theorem dX8_sheet_1 : decode cX8_sheet 1 = .ok (.invokestatic 284, 3) := by decide +kernel
theorem dX8_sheet_4 : decode cX8_sheet 4 = .ok (.ifCond .eq 25, 3) := by decide +kernel
theorem dX8_sheet_7 : decode cX8_sheet 7 = .ok (.iload_n 2, 1) := by decide +kernel
theorem dX8_sheet_8 : decode cX8_sheet 8 = .ok (.ifCond .eq 28, 3) := by decide +kernel
theorem dX8_sheet_11 : decode cX8_sheet 11 = .ok (.iload_n 2, 1) := by decide +kernel
theorem dX8_sheet_12 : decode cX8_sheet 12 = .ok (.bipush 8, 2) := by decide +kernel
theorem dX8_sheet_14 : decode cX8_sheet 14 = .ok (.if_icmp .eq 22, 3) := by decide +kernel
theorem dX8_sheet_17 : decode cX8_sheet 17 = .ok (.iload_n 2, 1) := by decide +kernel
theorem dX8_sheet_18 : decode cX8_sheet 18 = .ok (.bipush 16, 2) := by decide +kernel
theorem dX8_sheet_20 : decode cX8_sheet 20 = .ok (.if_icmp .eq 16, 3) := by decide +kernel
theorem dX8_sheet_23 : decode cX8_sheet 23 = .ok (.iload_n 2, 1) := by decide +kernel
theorem dX8_sheet_24 : decode cX8_sheet 24 = .ok (.bipush 32, 2) := by decide +kernel
theorem dX8_sheet_26 : decode cX8_sheet 26 = .ok (.if_icmp .eq 10, 3) := by decide +kernel
theorem dX8_sheet_29 : decode cX8_sheet 29 = .ok (.aload_n 0, 1) := by decide +kernel
theorem dX8_sheet_30 : decode cX8_sheet 30 = .ok (.ldc 46, 2) := by decide +kernel
theorem dX8_sheet_32 : decode cX8_sheet 32 = .ok (.invokevirtual 61, 3) := by decide +kernel
theorem dX8_sheet_35 : decode cX8_sheet 35 = .ok (.ireturn, 1) := by decide +kernel
theorem dX8_sheet_36 : decode cX8_sheet 36 = .ok (.iload_n 3, 1) := by decide +kernel
theorem dX8_sheet_37 : decode cX8_sheet 37 = .ok (.ifCond .ge 11, 3) := by decide +kernel
theorem dX8_sheet_40 : decode cX8_sheet 40 = .ok (.aload_n 0, 1) := by decide +kernel
theorem dX8_sheet_41 : decode cX8_sheet 41 = .ok (.ldc_w 287, 3) := by decide +kernel
theorem dX8_sheet_44 : decode cX8_sheet 44 = .ok (.invokevirtual 61, 3) := by decide +kernel
theorem dX8_sheet_47 : decode cX8_sheet 47 = .ok (.ireturn, 1) := by decide +kernel
theorem dX8_sheet_48 : decode cX8_sheet 48 = .ok (.iload_n 3, 1) := by decide +kernel
theorem dX8_sheet_49 : decode cX8_sheet 49 = .ok (.bipush 40, 2) := by decide +kernel
theorem dX8_sheet_51 : decode cX8_sheet 51 = .ok (.if_icmp .le 10, 3) := by decide +kernel
theorem dX8_sheet_54 : decode cX8_sheet 54 = .ok (.aload_n 0, 1) := by decide +kernel
theorem dX8_sheet_55 : decode cX8_sheet 55 = .ok (.ldc 46, 2) := by decide +kernel
theorem dX8_sheet_57 : decode cX8_sheet 57 = .ok (.invokevirtual 61, 3) := by decide +kernel
theorem dX8_sheet_60 : decode cX8_sheet 60 = .ok (.ireturn, 1) := by decide +kernel
theorem dX8_sheet_61 : decode cX8_sheet 61 = .ok (.aload_n 0, 1) := by decide +kernel
theorem dX8_sheet_62 : decode cX8_sheet 62 = .ok (.getfield 34, 3) := by decide +kernel
theorem dX8_sheet_65 : decode cX8_sheet 65 = .ok (.iload_n 1, 1) := by decide +kernel
theorem dX8_sheet_66 : decode cX8_sheet 66 = .ok (.iload_n 2, 1) := by decide +kernel
theorem dX8_sheet_67 : decode cX8_sheet 67 = .ok (.iastore, 1) := by decide +kernel
theorem dX8_sheet_68 : decode cX8_sheet 68 = .ok (.aload_n 0, 1) := by decide +kernel
theorem dX8_sheet_69 : decode cX8_sheet 69 = .ok (.getfield 37, 3) := by decide +kernel
theorem dX8_sheet_72 : decode cX8_sheet 72 = .ok (.iload_n 1, 1) := by decide +kernel
theorem dX8_sheet_73 : decode cX8_sheet 73 = .ok (.iload_n 2, 1) := by decide +kernel
theorem dX8_sheet_74 : decode cX8_sheet 74 = .ok (.ifCond .ne 7, 3) := by decide +kernel
theorem dX8_sheet_77 : decode cX8_sheet 77 = .ok (.iconst 0, 1) := by decide +kernel
theorem dX8_sheet_78 : decode cX8_sheet 78 = .ok (.goto 4, 3) := by decide +kernel
theorem dX8_sheet_81 : decode cX8_sheet 81 = .ok (.iload_n 3, 1) := by decide +kernel
theorem dX8_sheet_82 : decode cX8_sheet 82 = .ok (.iastore, 1) := by decide +kernel
theorem dX8_sheet_83 : decode cX8_sheet 83 = .ok (.iconst 0, 1) := by decide +kernel
theorem dX8_sheet_84 : decode cX8_sheet 84 = .ok (.istore 4, 2) := by decide +kernel
theorem dX8_sheet_86 : decode cX8_sheet 86 = .ok (.iload 4, 2) := by decide +kernel
theorem dX8_sheet_88 : decode cX8_sheet 88 = .ok (.bipush 40, 2) := by decide +kernel
theorem dX8_sheet_90 : decode cX8_sheet 90 = .ok (.if_icmp .ge 22, 3) := by decide +kernel
theorem dX8_sheet_93 : decode cX8_sheet 93 = .ok (.aload_n 0, 1) := by decide +kernel
theorem dX8_sheet_94 : decode cX8_sheet 94 = .ok (.getfield 40, 3) := by decide +kernel
theorem dX8_sheet_97 : decode cX8_sheet 97 = .ok (.bipush 40, 2) := by decide +kernel
theorem dX8_sheet_99 : decode cX8_sheet 99 = .ok (.iload_n 1, 1) := by decide +kernel
theorem dX8_sheet_100 : decode cX8_sheet 100 = .ok (.imul, 1) := by decide +kernel
theorem dX8_sheet_101 : decode cX8_sheet 101 = .ok (.iload 4, 2) := by decide +kernel
theorem dX8_sheet_103 : decode cX8_sheet 103 = .ok (.iadd, 1) := by decide +kernel
theorem dX8_sheet_104 : decode cX8_sheet 104 = .ok (.iconst 0, 1) := by decide +kernel
theorem dX8_sheet_105 : decode cX8_sheet 105 = .ok (.iastore, 1) := by decide +kernel
theorem dX8_sheet_106 : decode cX8_sheet 106 = .ok (.iinc 4 1, 3) := by decide +kernel
theorem dX8_sheet_109 : decode cX8_sheet 109 = .ok (.goto (-23), 3) := by decide +kernel
theorem dX8_sheet_112 : decode cX8_sheet 112 = .ok (.aload_n 0, 1) := by decide +kernel
theorem dX8_sheet_113 : decode cX8_sheet 113 = .ok (.getfield 37, 3) := by decide +kernel
theorem dX8_sheet_116 : decode cX8_sheet 116 = .ok (.iload_n 1, 1) := by decide +kernel
theorem dX8_sheet_117 : decode cX8_sheet 117 = .ok (.iaload, 1) := by decide +kernel
theorem dX8_sheet_118 : decode cX8_sheet 118 = .ok (.ireturn, 1) := by decide +kernel
theorem dX8_write_0 : decode cX8_write 0 = .ok (.iload_n 1, 1) := by decide +kernel
theorem dX8_write_1 : decode cX8_write 1 = .ok (.invokestatic 284, 3) := by decide +kernel
theorem dX8_write_4 : decode cX8_write 4 = .ok (.ifCond .ne 10, 3) := by decide +kernel
theorem dX8_write_7 : decode cX8_write 7 = .ok (.aload_n 0, 1) := by decide +kernel
theorem dX8_write_8 : decode cX8_write 8 = .ok (.ldc 46, 2) := by decide +kernel
theorem dX8_write_10 : decode cX8_write 10 = .ok (.invokevirtual 61, 3) := by decide +kernel
theorem dX8_write_13 : decode cX8_write 13 = .ok (.ireturn, 1) := by decide +kernel
theorem dX8_write_14 : decode cX8_write 14 = .ok (.aload_n 0, 1) := by decide +kernel
theorem dX8_write_15 : decode cX8_write 15 = .ok (.getfield 34, 3) := by decide +kernel
theorem dX8_write_18 : decode cX8_write 18 = .ok (.iload_n 1, 1) := by decide +kernel
theorem dX8_write_19 : decode cX8_write 19 = .ok (.iaload, 1) := by decide +kernel
theorem dX8_write_20 : decode cX8_write 20 = .ok (.ifCond .ne 11, 3) := by decide +kernel
theorem dX8_write_23 : decode cX8_write 23 = .ok (.aload_n 0, 1) := by decide +kernel
theorem dX8_write_24 : decode cX8_write 24 = .ok (.ldc_w 279, 3) := by decide +kernel
theorem dX8_write_27 : decode cX8_write 27 = .ok (.invokevirtual 61, 3) := by decide +kernel
theorem dX8_write_30 : decode cX8_write 30 = .ok (.ireturn, 1) := by decide +kernel
theorem dX8_write_31 : decode cX8_write 31 = .ok (.iload_n 2, 1) := by decide +kernel
theorem dX8_write_32 : decode cX8_write 32 = .ok (.i2l, 1) := by decide +kernel
theorem dX8_write_33 : decode cX8_write 33 = .ok (.lconst 0, 1) := by decide +kernel
theorem dX8_write_34 : decode cX8_write 34 = .ok (.aload_n 0, 1) := by decide +kernel
theorem dX8_write_35 : decode cX8_write 35 = .ok (.getfield 37, 3) := by decide +kernel
theorem dX8_write_38 : decode cX8_write 38 = .ok (.iload_n 1, 1) := by decide +kernel
theorem dX8_write_39 : decode cX8_write 39 = .ok (.iaload, 1) := by decide +kernel
theorem dX8_write_40 : decode cX8_write 40 = .ok (.iconst 1, 1) := by decide +kernel
theorem dX8_write_41 : decode cX8_write 41 = .ok (.isub, 1) := by decide +kernel
theorem dX8_write_42 : decode cX8_write 42 = .ok (.i2l, 1) := by decide +kernel
theorem dX8_write_43 : decode cX8_write 43 = .ok (.invokestatic 49, 3) := by decide +kernel
theorem dX8_write_46 : decode cX8_write 46 = .ok (.ifCond .ne 10, 3) := by decide +kernel
theorem dX8_write_49 : decode cX8_write 49 = .ok (.aload_n 0, 1) := by decide +kernel
theorem dX8_write_50 : decode cX8_write 50 = .ok (.ldc 46, 2) := by decide +kernel
theorem dX8_write_52 : decode cX8_write 52 = .ok (.invokevirtual 61, 3) := by decide +kernel
theorem dX8_write_55 : decode cX8_write 55 = .ok (.ireturn, 1) := by decide +kernel
theorem dX8_write_56 : decode cX8_write 56 = .ok (.aload_n 0, 1) := by decide +kernel
theorem dX8_write_57 : decode cX8_write 57 = .ok (.getfield 40, 3) := by decide +kernel
theorem dX8_write_60 : decode cX8_write 60 = .ok (.bipush 40, 2) := by decide +kernel
theorem dX8_write_62 : decode cX8_write 62 = .ok (.iload_n 1, 1) := by decide +kernel
theorem dX8_write_63 : decode cX8_write 63 = .ok (.imul, 1) := by decide +kernel
theorem dX8_write_64 : decode cX8_write 64 = .ok (.iload_n 2, 1) := by decide +kernel
theorem dX8_write_65 : decode cX8_write 65 = .ok (.iadd, 1) := by decide +kernel
theorem dX8_write_66 : decode cX8_write 66 = .ok (.aload_n 0, 1) := by decide +kernel
theorem dX8_write_67 : decode cX8_write 67 = .ok (.getfield 34, 3) := by decide +kernel
theorem dX8_write_70 : decode cX8_write 70 = .ok (.iload_n 1, 1) := by decide +kernel
theorem dX8_write_71 : decode cX8_write 71 = .ok (.iaload, 1) := by decide +kernel
theorem dX8_write_72 : decode cX8_write 72 = .ok (.bipush 8, 2) := by decide +kernel
theorem dX8_write_74 : decode cX8_write 74 = .ok (.if_icmp .ne 8, 3) := by decide +kernel
theorem dX8_write_77 : decode cX8_write 77 = .ok (.iload_n 3, 1) := by decide +kernel
theorem dX8_write_78 : decode cX8_write 78 = .ok (.i2b, 1) := by decide +kernel
theorem dX8_write_79 : decode cX8_write 79 = .ok (.goto 20, 3) := by decide +kernel
theorem dX8_write_82 : decode cX8_write 82 = .ok (.aload_n 0, 1) := by decide +kernel
theorem dX8_write_83 : decode cX8_write 83 = .ok (.getfield 34, 3) := by decide +kernel
theorem dX8_write_86 : decode cX8_write 86 = .ok (.iload_n 1, 1) := by decide +kernel
theorem dX8_write_87 : decode cX8_write 87 = .ok (.iaload, 1) := by decide +kernel
theorem dX8_write_88 : decode cX8_write 88 = .ok (.bipush 16, 2) := by decide +kernel
theorem dX8_write_90 : decode cX8_write 90 = .ok (.if_icmp .ne 8, 3) := by decide +kernel
theorem dX8_write_93 : decode cX8_write 93 = .ok (.iload_n 3, 1) := by decide +kernel
theorem dX8_write_94 : decode cX8_write 94 = .ok (.i2s, 1) := by decide +kernel
theorem dX8_write_95 : decode cX8_write 95 = .ok (.goto 4, 3) := by decide +kernel
theorem dX8_write_98 : decode cX8_write 98 = .ok (.iload_n 3, 1) := by decide +kernel
theorem dX8_write_99 : decode cX8_write 99 = .ok (.iastore, 1) := by decide +kernel
theorem dX8_write_100 : decode cX8_write 100 = .ok (.iconst 1, 1) := by decide +kernel
theorem dX8_write_101 : decode cX8_write 101 = .ok (.ireturn, 1) := by decide +kernel
theorem dX8_copy_0 : decode cX8_copy 0 = .ok (.iload_n 1, 1) := by decide +kernel
theorem dX8_copy_1 : decode cX8_copy 1 = .ok (.invokestatic 284, 3) := by decide +kernel
theorem dX8_copy_4 : decode cX8_copy 4 = .ok (.ifCond .eq 10, 3) := by decide +kernel
theorem dX8_copy_7 : decode cX8_copy 7 = .ok (.iload_n 3, 1) := by decide +kernel
theorem dX8_copy_8 : decode cX8_copy 8 = .ok (.invokestatic 284, 3) := by decide +kernel
theorem dX8_copy_11 : decode cX8_copy 11 = .ok (.ifCond .ne 10, 3) := by decide +kernel
theorem dX8_copy_14 : decode cX8_copy 14 = .ok (.aload_n 0, 1) := by decide +kernel
theorem dX8_copy_15 : decode cX8_copy 15 = .ok (.ldc 46, 2) := by decide +kernel
theorem dX8_copy_17 : decode cX8_copy 17 = .ok (.invokevirtual 61, 3) := by decide +kernel
theorem dX8_copy_20 : decode cX8_copy 20 = .ok (.ireturn, 1) := by decide +kernel
theorem dX8_copy_21 : decode cX8_copy 21 = .ok (.aload_n 0, 1) := by decide +kernel
theorem dX8_copy_22 : decode cX8_copy 22 = .ok (.getfield 34, 3) := by decide +kernel
theorem dX8_copy_25 : decode cX8_copy 25 = .ok (.iload_n 1, 1) := by decide +kernel
theorem dX8_copy_26 : decode cX8_copy 26 = .ok (.iaload, 1) := by decide +kernel
theorem dX8_copy_27 : decode cX8_copy 27 = .ok (.ifCond .eq 12, 3) := by decide +kernel
theorem dX8_copy_30 : decode cX8_copy 30 = .ok (.aload_n 0, 1) := by decide +kernel
theorem dX8_copy_31 : decode cX8_copy 31 = .ok (.getfield 34, 3) := by decide +kernel
theorem dX8_copy_34 : decode cX8_copy 34 = .ok (.iload_n 3, 1) := by decide +kernel
theorem dX8_copy_35 : decode cX8_copy 35 = .ok (.iaload, 1) := by decide +kernel
theorem dX8_copy_36 : decode cX8_copy 36 = .ok (.ifCond .ne 11, 3) := by decide +kernel
theorem dX8_copy_39 : decode cX8_copy 39 = .ok (.aload_n 0, 1) := by decide +kernel
theorem dX8_copy_40 : decode cX8_copy 40 = .ok (.ldc_w 279, 3) := by decide +kernel
theorem dX8_copy_43 : decode cX8_copy 43 = .ok (.invokevirtual 61, 3) := by decide +kernel
theorem dX8_copy_46 : decode cX8_copy 46 = .ok (.ireturn, 1) := by decide +kernel
theorem dX8_copy_47 : decode cX8_copy 47 = .ok (.aload_n 0, 1) := by decide +kernel
theorem dX8_copy_48 : decode cX8_copy 48 = .ok (.getfield 34, 3) := by decide +kernel
theorem dX8_copy_51 : decode cX8_copy 51 = .ok (.iload_n 1, 1) := by decide +kernel
theorem dX8_copy_52 : decode cX8_copy 52 = .ok (.iaload, 1) := by decide +kernel
theorem dX8_copy_53 : decode cX8_copy 53 = .ok (.aload_n 0, 1) := by decide +kernel
theorem dX8_copy_54 : decode cX8_copy 54 = .ok (.getfield 34, 3) := by decide +kernel
theorem dX8_copy_57 : decode cX8_copy 57 = .ok (.iload_n 3, 1) := by decide +kernel
theorem dX8_copy_58 : decode cX8_copy 58 = .ok (.iaload, 1) := by decide +kernel
theorem dX8_copy_59 : decode cX8_copy 59 = .ok (.if_icmp .eq 11, 3) := by decide +kernel
theorem dX8_copy_62 : decode cX8_copy 62 = .ok (.aload_n 0, 1) := by decide +kernel
theorem dX8_copy_63 : decode cX8_copy 63 = .ok (.ldc_w 283, 3) := by decide +kernel
theorem dX8_copy_66 : decode cX8_copy 66 = .ok (.invokevirtual 61, 3) := by decide +kernel
theorem dX8_copy_69 : decode cX8_copy 69 = .ok (.ireturn, 1) := by decide +kernel
theorem dX8_copy_70 : decode cX8_copy 70 = .ok (.iload 5, 2) := by decide +kernel
theorem dX8_copy_72 : decode cX8_copy 72 = .ok (.ifCond .lt 39, 3) := by decide +kernel
theorem dX8_copy_75 : decode cX8_copy 75 = .ok (.iload_n 2, 1) := by decide +kernel
theorem dX8_copy_76 : decode cX8_copy 76 = .ok (.ifCond .lt 35, 3) := by decide +kernel
theorem dX8_copy_79 : decode cX8_copy 79 = .ok (.iload 4, 2) := by decide +kernel
theorem dX8_copy_81 : decode cX8_copy 81 = .ok (.ifCond .lt 30, 3) := by decide +kernel
theorem dX8_copy_84 : decode cX8_copy 84 = .ok (.iload 5, 2) := by decide +kernel
theorem dX8_copy_86 : decode cX8_copy 86 = .ok (.aload_n 0, 1) := by decide +kernel
theorem dX8_copy_87 : decode cX8_copy 87 = .ok (.getfield 37, 3) := by decide +kernel
theorem dX8_copy_90 : decode cX8_copy 90 = .ok (.iload_n 1, 1) := by decide +kernel
theorem dX8_copy_91 : decode cX8_copy 91 = .ok (.iaload, 1) := by decide +kernel
theorem dX8_copy_92 : decode cX8_copy 92 = .ok (.iload_n 2, 1) := by decide +kernel
theorem dX8_copy_93 : decode cX8_copy 93 = .ok (.isub, 1) := by decide +kernel
theorem dX8_copy_94 : decode cX8_copy 94 = .ok (.if_icmp .gt 17, 3) := by decide +kernel
theorem dX8_copy_97 : decode cX8_copy 97 = .ok (.iload 5, 2) := by decide +kernel
theorem dX8_copy_99 : decode cX8_copy 99 = .ok (.aload_n 0, 1) := by decide +kernel
theorem dX8_copy_100 : decode cX8_copy 100 = .ok (.getfield 37, 3) := by decide +kernel
theorem dX8_copy_103 : decode cX8_copy 103 = .ok (.iload_n 3, 1) := by decide +kernel
theorem dX8_copy_104 : decode cX8_copy 104 = .ok (.iaload, 1) := by decide +kernel
theorem dX8_copy_105 : decode cX8_copy 105 = .ok (.iload 4, 2) := by decide +kernel
theorem dX8_copy_107 : decode cX8_copy 107 = .ok (.isub, 1) := by decide +kernel
theorem dX8_copy_108 : decode cX8_copy 108 = .ok (.if_icmp .le 10, 3) := by decide +kernel
theorem dX8_copy_111 : decode cX8_copy 111 = .ok (.aload_n 0, 1) := by decide +kernel
theorem dX8_copy_112 : decode cX8_copy 112 = .ok (.ldc 46, 2) := by decide +kernel
theorem dX8_copy_114 : decode cX8_copy 114 = .ok (.invokevirtual 61, 3) := by decide +kernel
theorem dX8_copy_117 : decode cX8_copy 117 = .ok (.ireturn, 1) := by decide +kernel
theorem dX8_copy_118 : decode cX8_copy 118 = .ok (.iconst 0, 1) := by decide +kernel
theorem dX8_copy_119 : decode cX8_copy 119 = .ok (.istore 6, 2) := by decide +kernel
theorem dX8_copy_121 : decode cX8_copy 121 = .ok (.iload 6, 2) := by decide +kernel
theorem dX8_copy_123 : decode cX8_copy 123 = .ok (.iload 5, 2) := by decide +kernel
theorem dX8_copy_125 : decode cX8_copy 125 = .ok (.if_icmp .ge 30, 3) := by decide +kernel
theorem dX8_copy_128 : decode cX8_copy 128 = .ok (.aload_n 0, 1) := by decide +kernel
theorem dX8_copy_129 : decode cX8_copy 129 = .ok (.getfield 43, 3) := by decide +kernel
theorem dX8_copy_132 : decode cX8_copy 132 = .ok (.iload 6, 2) := by decide +kernel
theorem dX8_copy_134 : decode cX8_copy 134 = .ok (.aload_n 0, 1) := by decide +kernel
theorem dX8_copy_135 : decode cX8_copy 135 = .ok (.getfield 40, 3) := by decide +kernel
theorem dX8_copy_138 : decode cX8_copy 138 = .ok (.bipush 40, 2) := by decide +kernel
theorem dX8_copy_140 : decode cX8_copy 140 = .ok (.iload_n 1, 1) := by decide +kernel
theorem dX8_copy_141 : decode cX8_copy 141 = .ok (.imul, 1) := by decide +kernel
theorem dX8_copy_142 : decode cX8_copy 142 = .ok (.iload_n 2, 1) := by decide +kernel
theorem dX8_copy_143 : decode cX8_copy 143 = .ok (.iadd, 1) := by decide +kernel
theorem dX8_copy_144 : decode cX8_copy 144 = .ok (.iload 6, 2) := by decide +kernel
theorem dX8_copy_146 : decode cX8_copy 146 = .ok (.iadd, 1) := by decide +kernel
theorem dX8_copy_147 : decode cX8_copy 147 = .ok (.iaload, 1) := by decide +kernel
theorem dX8_copy_148 : decode cX8_copy 148 = .ok (.iastore, 1) := by decide +kernel
theorem dX8_copy_149 : decode cX8_copy 149 = .ok (.iinc 6 1, 3) := by decide +kernel
theorem dX8_copy_152 : decode cX8_copy 152 = .ok (.goto (-31), 3) := by decide +kernel
theorem dX8_copy_155 : decode cX8_copy 155 = .ok (.iconst 0, 1) := by decide +kernel
theorem dX8_copy_156 : decode cX8_copy 156 = .ok (.istore 6, 2) := by decide +kernel
theorem dX8_copy_158 : decode cX8_copy 158 = .ok (.iload 6, 2) := by decide +kernel
theorem dX8_copy_160 : decode cX8_copy 160 = .ok (.iload 5, 2) := by decide +kernel
theorem dX8_copy_162 : decode cX8_copy 162 = .ok (.if_icmp .ge 31, 3) := by decide +kernel
theorem dX8_copy_165 : decode cX8_copy 165 = .ok (.aload_n 0, 1) := by decide +kernel
theorem dX8_copy_166 : decode cX8_copy 166 = .ok (.getfield 40, 3) := by decide +kernel
theorem dX8_copy_169 : decode cX8_copy 169 = .ok (.bipush 40, 2) := by decide +kernel
theorem dX8_copy_171 : decode cX8_copy 171 = .ok (.iload_n 3, 1) := by decide +kernel
theorem dX8_copy_172 : decode cX8_copy 172 = .ok (.imul, 1) := by decide +kernel
theorem dX8_copy_173 : decode cX8_copy 173 = .ok (.iload 4, 2) := by decide +kernel
theorem dX8_copy_175 : decode cX8_copy 175 = .ok (.iadd, 1) := by decide +kernel
theorem dX8_copy_176 : decode cX8_copy 176 = .ok (.iload 6, 2) := by decide +kernel
theorem dX8_copy_178 : decode cX8_copy 178 = .ok (.iadd, 1) := by decide +kernel
theorem dX8_copy_179 : decode cX8_copy 179 = .ok (.aload_n 0, 1) := by decide +kernel
theorem dX8_copy_180 : decode cX8_copy 180 = .ok (.getfield 43, 3) := by decide +kernel
theorem dX8_copy_183 : decode cX8_copy 183 = .ok (.iload 6, 2) := by decide +kernel
theorem dX8_copy_185 : decode cX8_copy 185 = .ok (.iaload, 1) := by decide +kernel
theorem dX8_copy_186 : decode cX8_copy 186 = .ok (.iastore, 1) := by decide +kernel
theorem dX8_copy_187 : decode cX8_copy 187 = .ok (.iinc 6 1, 3) := by decide +kernel
theorem dX8_copy_190 : decode cX8_copy 190 = .ok (.goto (-32), 3) := by decide +kernel
theorem dX8_copy_193 : decode cX8_copy 193 = .ok (.iload 5, 2) := by decide +kernel
theorem dX8_copy_195 : decode cX8_copy 195 = .ok (.ireturn, 1) := by decide +kernel
theorem dX8_load_0 : decode cX8_load 0 = .ok (.iload_n 1, 1) := by decide +kernel
theorem dX8_load_1 : decode cX8_load 1 = .ok (.invokestatic 284, 3) := by decide +kernel
theorem dX8_load_4 : decode cX8_load 4 = .ok (.ifCond .ne 10, 3) := by decide +kernel
theorem dX8_load_7 : decode cX8_load 7 = .ok (.aload_n 0, 1) := by decide +kernel
theorem dX8_load_8 : decode cX8_load 8 = .ok (.ldc 46, 2) := by decide +kernel
theorem dX8_load_10 : decode cX8_load 10 = .ok (.invokevirtual 61, 3) := by decide +kernel
theorem dX8_load_13 : decode cX8_load 13 = .ok (.ireturn, 1) := by decide +kernel
theorem dX8_load_14 : decode cX8_load 14 = .ok (.aload_n 0, 1) := by decide +kernel
theorem dX8_load_15 : decode cX8_load 15 = .ok (.getfield 34, 3) := by decide +kernel
theorem dX8_load_18 : decode cX8_load 18 = .ok (.iload_n 1, 1) := by decide +kernel
theorem dX8_load_19 : decode cX8_load 19 = .ok (.iaload, 1) := by decide +kernel
theorem dX8_load_20 : decode cX8_load 20 = .ok (.ifCond .ne 11, 3) := by decide +kernel
theorem dX8_load_23 : decode cX8_load 23 = .ok (.aload_n 0, 1) := by decide +kernel
theorem dX8_load_24 : decode cX8_load 24 = .ok (.ldc_w 279, 3) := by decide +kernel
theorem dX8_load_27 : decode cX8_load 27 = .ok (.invokevirtual 61, 3) := by decide +kernel
theorem dX8_load_30 : decode cX8_load 30 = .ok (.ireturn, 1) := by decide +kernel
theorem dX8_load_31 : decode cX8_load 31 = .ok (.iconst 0, 1) := by decide +kernel
theorem dX8_load_32 : decode cX8_load 32 = .ok (.istore_n 2, 1) := by decide +kernel
theorem dX8_load_33 : decode cX8_load 33 = .ok (.iload_n 2, 1) := by decide +kernel
theorem dX8_load_34 : decode cX8_load 34 = .ok (.aload_n 0, 1) := by decide +kernel
theorem dX8_load_35 : decode cX8_load 35 = .ok (.getfield 37, 3) := by decide +kernel
theorem dX8_load_38 : decode cX8_load 38 = .ok (.iload_n 1, 1) := by decide +kernel
theorem dX8_load_39 : decode cX8_load 39 = .ok (.iaload, 1) := by decide +kernel
theorem dX8_load_40 : decode cX8_load 40 = .ok (.if_icmp .ge 63, 3) := by decide +kernel
theorem dX8_load_43 : decode cX8_load 43 = .ok (.iload_n 2, 1) := by decide +kernel
theorem dX8_load_44 : decode cX8_load 44 = .ok (.bipush 12, 2) := by decide +kernel
theorem dX8_load_46 : decode cX8_load 46 = .ok (.if_icmp .ge 57, 3) := by decide +kernel
theorem dX8_load_49 : decode cX8_load 49 = .ok (.aload_n 0, 1) := by decide +kernel
theorem dX8_load_50 : decode cX8_load 50 = .ok (.getfield 40, 3) := by decide +kernel
theorem dX8_load_53 : decode cX8_load 53 = .ok (.bipush 40, 2) := by decide +kernel
theorem dX8_load_55 : decode cX8_load 55 = .ok (.iload_n 1, 1) := by decide +kernel
theorem dX8_load_56 : decode cX8_load 56 = .ok (.imul, 1) := by decide +kernel
theorem dX8_load_57 : decode cX8_load 57 = .ok (.iload_n 2, 1) := by decide +kernel
theorem dX8_load_58 : decode cX8_load 58 = .ok (.iadd, 1) := by decide +kernel
theorem dX8_load_59 : decode cX8_load 59 = .ok (.iaload, 1) := by decide +kernel
theorem dX8_load_60 : decode cX8_load 60 = .ok (.i2l, 1) := by decide +kernel
theorem dX8_load_61 : decode cX8_load 61 = .ok (.lconst 0, 1) := by decide +kernel
theorem dX8_load_62 : decode cX8_load 62 = .ok (.aload_n 0, 1) := by decide +kernel
theorem dX8_load_63 : decode cX8_load 63 = .ok (.getfield 9, 3) := by decide +kernel
theorem dX8_load_66 : decode cX8_load 66 = .ok (.iload_n 2, 1) := by decide +kernel
theorem dX8_load_67 : decode cX8_load 67 = .ok (.invokestatic 77, 3) := by decide +kernel
theorem dX8_load_70 : decode cX8_load 70 = .ok (.i2l, 1) := by decide +kernel
theorem dX8_load_71 : decode cX8_load 71 = .ok (.invokestatic 49, 3) := by decide +kernel
theorem dX8_load_74 : decode cX8_load 74 = .ok (.ifCond .eq 29, 3) := by decide +kernel
theorem dX8_load_77 : decode cX8_load 77 = .ok (.aload_n 0, 1) := by decide +kernel
theorem dX8_load_78 : decode cX8_load 78 = .ok (.getfield 9, 3) := by decide +kernel
theorem dX8_load_81 : decode cX8_load 81 = .ok (.bipush 20, 2) := by decide +kernel
theorem dX8_load_83 : decode cX8_load 83 = .ok (.iload_n 2, 1) := by decide +kernel
theorem dX8_load_84 : decode cX8_load 84 = .ok (.iadd, 1) := by decide +kernel
theorem dX8_load_85 : decode cX8_load 85 = .ok (.aload_n 0, 1) := by decide +kernel
theorem dX8_load_86 : decode cX8_load 86 = .ok (.getfield 40, 3) := by decide +kernel
theorem dX8_load_89 : decode cX8_load 89 = .ok (.bipush 40, 2) := by decide +kernel
theorem dX8_load_91 : decode cX8_load 91 = .ok (.iload_n 1, 1) := by decide +kernel
theorem dX8_load_92 : decode cX8_load 92 = .ok (.imul, 1) := by decide +kernel
theorem dX8_load_93 : decode cX8_load 93 = .ok (.iload_n 2, 1) := by decide +kernel
theorem dX8_load_94 : decode cX8_load 94 = .ok (.iadd, 1) := by decide +kernel
theorem dX8_load_95 : decode cX8_load 95 = .ok (.iaload, 1) := by decide +kernel
theorem dX8_load_96 : decode cX8_load 96 = .ok (.iastore, 1) := by decide +kernel
theorem dX8_load_97 : decode cX8_load 97 = .ok (.iinc 2 1, 3) := by decide +kernel
theorem dX8_load_100 : decode cX8_load 100 = .ok (.goto (-67), 3) := by decide +kernel
theorem dX8_load_103 : decode cX8_load 103 = .ok (.iload_n 2, 1) := by decide +kernel
theorem dX8_load_104 : decode cX8_load 104 = .ok (.ireturn, 1) := by decide +kernel
theorem dX8_judge_0 : decode cX8_judge 0 = .ok (.iload_n 1, 1) := by decide +kernel
theorem dX8_judge_1 : decode cX8_judge 1 = .ok (.invokestatic 284, 3) := by decide +kernel
theorem dX8_judge_4 : decode cX8_judge 4 = .ok (.ifCond .ne 10, 3) := by decide +kernel
theorem dX8_judge_7 : decode cX8_judge 7 = .ok (.aload_n 0, 1) := by decide +kernel
theorem dX8_judge_8 : decode cX8_judge 8 = .ok (.ldc 46, 2) := by decide +kernel
theorem dX8_judge_10 : decode cX8_judge 10 = .ok (.invokevirtual 61, 3) := by decide +kernel
theorem dX8_judge_13 : decode cX8_judge 13 = .ok (.ireturn, 1) := by decide +kernel
theorem dX8_judge_14 : decode cX8_judge 14 = .ok (.aload_n 0, 1) := by decide +kernel
theorem dX8_judge_15 : decode cX8_judge 15 = .ok (.getfield 34, 3) := by decide +kernel
theorem dX8_judge_18 : decode cX8_judge 18 = .ok (.iload_n 1, 1) := by decide +kernel
theorem dX8_judge_19 : decode cX8_judge 19 = .ok (.iaload, 1) := by decide +kernel
theorem dX8_judge_20 : decode cX8_judge 20 = .ok (.ifCond .ne 11, 3) := by decide +kernel
theorem dX8_judge_23 : decode cX8_judge 23 = .ok (.aload_n 0, 1) := by decide +kernel
theorem dX8_judge_24 : decode cX8_judge 24 = .ok (.ldc_w 279, 3) := by decide +kernel
theorem dX8_judge_27 : decode cX8_judge 27 = .ok (.invokevirtual 61, 3) := by decide +kernel
theorem dX8_judge_30 : decode cX8_judge 30 = .ok (.ireturn, 1) := by decide +kernel
theorem dX8_judge_31 : decode cX8_judge 31 = .ok (.aload_n 0, 1) := by decide +kernel
theorem dX8_judge_32 : decode cX8_judge 32 = .ok (.getfield 9, 3) := by decide +kernel
theorem dX8_judge_35 : decode cX8_judge 35 = .ok (.aload_n 0, 1) := by decide +kernel
theorem dX8_judge_36 : decode cX8_judge 36 = .ok (.getfield 13, 3) := by decide +kernel
theorem dX8_judge_39 : decode cX8_judge 39 = .ok (.invokestatic 235, 3) := by decide +kernel
theorem dX8_judge_42 : decode cX8_judge 42 = .ok (.iconst 0, 1) := by decide +kernel
theorem dX8_judge_43 : decode cX8_judge 43 = .ok (.istore_n 2, 1) := by decide +kernel
theorem dX8_judge_44 : decode cX8_judge 44 = .ok (.iload_n 2, 1) := by decide +kernel
theorem dX8_judge_45 : decode cX8_judge 45 = .ok (.aload_n 0, 1) := by decide +kernel
theorem dX8_judge_46 : decode cX8_judge 46 = .ok (.getfield 37, 3) := by decide +kernel
theorem dX8_judge_49 : decode cX8_judge 49 = .ok (.iload_n 1, 1) := by decide +kernel
theorem dX8_judge_50 : decode cX8_judge 50 = .ok (.iaload, 1) := by decide +kernel
theorem dX8_judge_51 : decode cX8_judge 51 = .ok (.if_icmp .ge 41, 3) := by decide +kernel
theorem dX8_judge_54 : decode cX8_judge 54 = .ok (.aload_n 0, 1) := by decide +kernel
theorem dX8_judge_55 : decode cX8_judge 55 = .ok (.aload_n 0, 1) := by decide +kernel
theorem dX8_judge_56 : decode cX8_judge 56 = .ok (.getfield 13, 3) := by decide +kernel
theorem dX8_judge_59 : decode cX8_judge 59 = .ok (.invokevirtual 108, 3) := by decide +kernel
theorem dX8_judge_62 : decode cX8_judge 62 = .ok (.aload_n 0, 1) := by decide +kernel
theorem dX8_judge_63 : decode cX8_judge 63 = .ok (.getfield 13, 3) := by decide +kernel
theorem dX8_judge_66 : decode cX8_judge 66 = .ok (.iconst 4, 1) := by decide +kernel
theorem dX8_judge_67 : decode cX8_judge 67 = .ok (.iaload, 1) := by decide +kernel
theorem dX8_judge_68 : decode cX8_judge 68 = .ok (.aload_n 0, 1) := by decide +kernel
theorem dX8_judge_69 : decode cX8_judge 69 = .ok (.getfield 40, 3) := by decide +kernel
theorem dX8_judge_72 : decode cX8_judge 72 = .ok (.bipush 40, 2) := by decide +kernel
theorem dX8_judge_74 : decode cX8_judge 74 = .ok (.iload_n 1, 1) := by decide +kernel
theorem dX8_judge_75 : decode cX8_judge 75 = .ok (.imul, 1) := by decide +kernel
theorem dX8_judge_76 : decode cX8_judge 76 = .ok (.iload_n 2, 1) := by decide +kernel
theorem dX8_judge_77 : decode cX8_judge 77 = .ok (.iadd, 1) := by decide +kernel
theorem dX8_judge_78 : decode cX8_judge 78 = .ok (.iaload, 1) := by decide +kernel
theorem dX8_judge_79 : decode cX8_judge 79 = .ok (.if_icmp .eq 7, 3) := by decide +kernel
theorem dX8_judge_82 : decode cX8_judge 82 = .ok (.iconst 1, 1) := by decide +kernel
theorem dX8_judge_83 : decode cX8_judge 83 = .ok (.iload_n 2, 1) := by decide +kernel
theorem dX8_judge_84 : decode cX8_judge 84 = .ok (.iadd, 1) := by decide +kernel
theorem dX8_judge_85 : decode cX8_judge 85 = .ok (.ireturn, 1) := by decide +kernel
theorem dX8_judge_86 : decode cX8_judge 86 = .ok (.iinc 2 1, 3) := by decide +kernel
theorem dX8_judge_89 : decode cX8_judge 89 = .ok (.goto (-45), 3) := by decide +kernel
theorem dX8_judge_92 : decode cX8_judge 92 = .ok (.iconst 0, 1) := by decide +kernel
theorem dX8_judge_93 : decode cX8_judge 93 = .ok (.ireturn, 1) := by decide +kernel
theorem dX8_image_0 : decode cX8_image 0 = .ok (.aload_n 0, 1) := by decide +kernel
theorem dX8_image_1 : decode cX8_image 1 = .ok (.getfield 9, 3) := by decide +kernel
theorem dX8_image_4 : decode cX8_image 4 = .ok (.aload_n 0, 1) := by decide +kernel
theorem dX8_image_5 : decode cX8_image 5 = .ok (.getfield 19, 3) := by decide +kernel
theorem dX8_image_8 : decode cX8_image 8 = .ok (.invokestatic 235, 3) := by decide +kernel
theorem dX8_image_11 : decode cX8_image 11 = .ok (.aload_n 0, 1) := by decide +kernel
theorem dX8_image_12 : decode cX8_image 12 = .ok (.iconst 1, 1) := by decide +kernel
theorem dX8_image_13 : decode cX8_image 13 = .ok (.putfield 288, 3) := by decide +kernel
theorem dX8_image_16 : decode cX8_image 16 = .ok (.iconst 1, 1) := by decide +kernel
theorem dX8_image_17 : decode cX8_image 17 = .ok (.ireturn, 1) := by decide +kernel
theorem dX8_undo_0 : decode cX8_undo 0 = .ok (.aload_n 0, 1) := by decide +kernel
theorem dX8_undo_1 : decode cX8_undo 1 = .ok (.getfield 288, 3) := by decide +kernel
theorem dX8_undo_4 : decode cX8_undo 4 = .ok (.ifCond .ne 10, 3) := by decide +kernel
theorem dX8_undo_7 : decode cX8_undo 7 = .ok (.aload_n 0, 1) := by decide +kernel
theorem dX8_undo_8 : decode cX8_undo 8 = .ok (.ldc 125, 2) := by decide +kernel
theorem dX8_undo_10 : decode cX8_undo 10 = .ok (.invokevirtual 61, 3) := by decide +kernel
theorem dX8_undo_13 : decode cX8_undo 13 = .ok (.ireturn, 1) := by decide +kernel
theorem dX8_undo_14 : decode cX8_undo 14 = .ok (.aload_n 0, 1) := by decide +kernel
theorem dX8_undo_15 : decode cX8_undo 15 = .ok (.getfield 19, 3) := by decide +kernel
theorem dX8_undo_18 : decode cX8_undo 18 = .ok (.aload_n 0, 1) := by decide +kernel
theorem dX8_undo_19 : decode cX8_undo 19 = .ok (.getfield 9, 3) := by decide +kernel
theorem dX8_undo_22 : decode cX8_undo 22 = .ok (.invokestatic 235, 3) := by decide +kernel
theorem dX8_undo_25 : decode cX8_undo 25 = .ok (.aload_n 0, 1) := by decide +kernel
theorem dX8_undo_26 : decode cX8_undo 26 = .ok (.getfield 9, 3) := by decide +kernel
theorem dX8_undo_29 : decode cX8_undo 29 = .ok (.bipush 9, 2) := by decide +kernel
theorem dX8_undo_31 : decode cX8_undo 31 = .ok (.iaload, 1) := by decide +kernel
theorem dX8_undo_32 : decode cX8_undo 32 = .ok (.ireturn, 1) := by decide +kernel
theorem dX8_tear_0 : decode cX8_tear 0 = .ok (.aload_n 0, 1) := by decide +kernel
theorem dX8_tear_1 : decode cX8_tear 1 = .ok (.getfield 288, 3) := by decide +kernel
theorem dX8_tear_4 : decode cX8_tear 4 = .ok (.ifCond .eq 7, 3) := by decide +kernel
theorem dX8_tear_7 : decode cX8_tear 7 = .ok (.iconst 1, 1) := by decide +kernel
theorem dX8_tear_8 : decode cX8_tear 8 = .ok (.goto 4, 3) := by decide +kernel
theorem dX8_tear_11 : decode cX8_tear 11 = .ok (.iconst 0, 1) := by decide +kernel
theorem dX8_tear_12 : decode cX8_tear 12 = .ok (.istore_n 1, 1) := by decide +kernel
theorem dX8_tear_13 : decode cX8_tear 13 = .ok (.aload_n 0, 1) := by decide +kernel
theorem dX8_tear_14 : decode cX8_tear 14 = .ok (.iconst 0, 1) := by decide +kernel
theorem dX8_tear_15 : decode cX8_tear 15 = .ok (.putfield 288, 3) := by decide +kernel
theorem dX8_tear_18 : decode cX8_tear 18 = .ok (.iload_n 1, 1) := by decide +kernel
theorem dX8_tear_19 : decode cX8_tear 19 = .ok (.ireturn, 1) := by decide +kernel
theorem dX8_count_0 : decode cX8_count 0 = .ok (.iload_n 1, 1) := by decide +kernel
theorem dX8_count_1 : decode cX8_count 1 = .ok (.tableswitch 92 0 8 #[51, 51, 51, 51, 58, 63, 71, 79, 84], 51) := by decide +kernel
theorem dX8_count_52 : decode cX8_count 52 = .ok (.aload_n 0, 1) := by decide +kernel
theorem dX8_count_53 : decode cX8_count 53 = .ok (.getfield 9, 3) := by decide +kernel
theorem dX8_count_56 : decode cX8_count 56 = .ok (.iload_n 1, 1) := by decide +kernel
theorem dX8_count_57 : decode cX8_count 57 = .ok (.iaload, 1) := by decide +kernel
theorem dX8_count_58 : decode cX8_count 58 = .ok (.ireturn, 1) := by decide +kernel
theorem dX8_count_59 : decode cX8_count 59 = .ok (.aload_n 0, 1) := by decide +kernel
theorem dX8_count_60 : decode cX8_count 60 = .ok (.invokevirtual 119, 3) := by decide +kernel
theorem dX8_count_63 : decode cX8_count 63 = .ok (.ireturn, 1) := by decide +kernel
theorem dX8_count_64 : decode cX8_count 64 = .ok (.aload_n 0, 1) := by decide +kernel
theorem dX8_count_65 : decode cX8_count 65 = .ok (.getfield 9, 3) := by decide +kernel
theorem dX8_count_68 : decode cX8_count 68 = .ok (.bipush 10, 2) := by decide +kernel
theorem dX8_count_70 : decode cX8_count 70 = .ok (.iaload, 1) := by decide +kernel
theorem dX8_count_71 : decode cX8_count 71 = .ok (.ireturn, 1) := by decide +kernel
theorem dX8_count_72 : decode cX8_count 72 = .ok (.aload_n 0, 1) := by decide +kernel
theorem dX8_count_73 : decode cX8_count 73 = .ok (.getfield 9, 3) := by decide +kernel
theorem dX8_count_76 : decode cX8_count 76 = .ok (.bipush 13, 2) := by decide +kernel
theorem dX8_count_78 : decode cX8_count 78 = .ok (.iaload, 1) := by decide +kernel
theorem dX8_count_79 : decode cX8_count 79 = .ok (.ireturn, 1) := by decide +kernel
theorem dX8_count_80 : decode cX8_count 80 = .ok (.aload_n 0, 1) := by decide +kernel
theorem dX8_count_81 : decode cX8_count 81 = .ok (.getfield 129, 3) := by decide +kernel
theorem dX8_count_84 : decode cX8_count 84 = .ok (.ireturn, 1) := by decide +kernel
theorem dX8_count_85 : decode cX8_count 85 = .ok (.aload_n 0, 1) := by decide +kernel
theorem dX8_count_86 : decode cX8_count 86 = .ok (.getfield 9, 3) := by decide +kernel
theorem dX8_count_89 : decode cX8_count 89 = .ok (.bipush 12, 2) := by decide +kernel
theorem dX8_count_91 : decode cX8_count 91 = .ok (.iaload, 1) := by decide +kernel
theorem dX8_count_92 : decode cX8_count 92 = .ok (.ireturn, 1) := by decide +kernel
theorem dX8_count_93 : decode cX8_count 93 = .ok (.aload_n 0, 1) := by decide +kernel
theorem dX8_count_94 : decode cX8_count 94 = .ok (.ldc 46, 2) := by decide +kernel
theorem dX8_count_96 : decode cX8_count 96 = .ok (.invokevirtual 61, 3) := by decide +kernel
theorem dX8_count_99 : decode cX8_count 99 = .ok (.ireturn, 1) := by decide +kernel
theorem dX8_status_0 : decode cX8_status 0 = .ok (.iload_n 1, 1) := by decide +kernel
theorem dX8_status_1 : decode cX8_status 1 = .ok (.i2l, 1) := by decide +kernel
theorem dX8_status_2 : decode cX8_status 2 = .ok (.ldc2_w 159, 3) := by decide +kernel
theorem dX8_status_5 : decode cX8_status 5 = .ok (.ldc2_w 69, 3) := by decide +kernel
theorem dX8_status_8 : decode cX8_status 8 = .ok (.invokestatic 49, 3) := by decide +kernel
theorem dX8_status_11 : decode cX8_status 11 = .ok (.ifCond .ne 10, 3) := by decide +kernel
theorem dX8_status_14 : decode cX8_status 14 = .ok (.aload_n 0, 1) := by decide +kernel
theorem dX8_status_15 : decode cX8_status 15 = .ok (.ldc 46, 2) := by decide +kernel
theorem dX8_status_17 : decode cX8_status 17 = .ok (.invokevirtual 61, 3) := by decide +kernel
theorem dX8_status_20 : decode cX8_status 20 = .ok (.ireturn, 1) := by decide +kernel
theorem dX8_status_21 : decode cX8_status 21 = .ok (.iconst 0, 1) := by decide +kernel
theorem dX8_status_22 : decode cX8_status 22 = .ok (.istore_n 2, 1) := by decide +kernel
theorem dX8_status_23 : decode cX8_status 23 = .ok (.iconst 0, 1) := by decide +kernel
theorem dX8_status_24 : decode cX8_status 24 = .ok (.istore_n 3, 1) := by decide +kernel
theorem dX8_status_25 : decode cX8_status 25 = .ok (.iload_n 3, 1) := by decide +kernel
theorem dX8_status_26 : decode cX8_status 26 = .ok (.bipush 7, 2) := by decide +kernel
theorem dX8_status_28 : decode cX8_status 28 = .ok (.if_icmp .ge 32, 3) := by decide +kernel
theorem dX8_status_31 : decode cX8_status 31 = .ok (.iload_n 2, 1) := by decide +kernel
theorem dX8_status_32 : decode cX8_status 32 = .ok (.iload_n 1, 1) := by decide +kernel
theorem dX8_status_33 : decode cX8_status 33 = .ok (.iconst (-1), 1) := by decide +kernel
theorem dX8_status_34 : decode cX8_status 34 = .ok (.if_icmp .eq 8, 3) := by decide +kernel
theorem dX8_status_37 : decode cX8_status 37 = .ok (.iload_n 1, 1) := by decide +kernel
theorem dX8_status_38 : decode cX8_status 38 = .ok (.iload_n 3, 1) := by decide +kernel
theorem dX8_status_39 : decode cX8_status 39 = .ok (.if_icmp .ne 12, 3) := by decide +kernel
theorem dX8_status_42 : decode cX8_status 42 = .ok (.aload_n 0, 1) := by decide +kernel
theorem dX8_status_43 : decode cX8_status 43 = .ok (.getfield 22, 3) := by decide +kernel
theorem dX8_status_46 : decode cX8_status 46 = .ok (.iload_n 3, 1) := by decide +kernel
theorem dX8_status_47 : decode cX8_status 47 = .ok (.iaload, 1) := by decide +kernel
theorem dX8_status_48 : decode cX8_status 48 = .ok (.goto 4, 3) := by decide +kernel
theorem dX8_status_51 : decode cX8_status 51 = .ok (.iconst 0, 1) := by decide +kernel
theorem dX8_status_52 : decode cX8_status 52 = .ok (.iadd, 1) := by decide +kernel
theorem dX8_status_53 : decode cX8_status 53 = .ok (.istore_n 2, 1) := by decide +kernel
theorem dX8_status_54 : decode cX8_status 54 = .ok (.iinc 3 1, 3) := by decide +kernel
theorem dX8_status_57 : decode cX8_status 57 = .ok (.goto (-32), 3) := by decide +kernel
theorem dX8_status_60 : decode cX8_status 60 = .ok (.iload_n 2, 1) := by decide +kernel
theorem dX8_status_61 : decode cX8_status 61 = .ok (.ireturn, 1) := by decide +kernel
theorem dL_law_0 : decode cL_law 0 = .ok (.new 7, 3) := by decide +kernel
theorem dL_law_3 : decode cL_law 3 = .ok (.dup, 1) := by decide +kernel
theorem dL_law_4 : decode cL_law 4 = .ok (.invokespecial 9, 3) := by decide +kernel
theorem dL_law_7 : decode cL_law 7 = .ok (.astore_n 1, 1) := by decide +kernel
theorem dL_law_8 : decode cL_law 8 = .ok (.new 10, 3) := by decide +kernel
theorem dL_law_11 : decode cL_law 11 = .ok (.dup, 1) := by decide +kernel
theorem dL_law_12 : decode cL_law 12 = .ok (.invokespecial 12, 3) := by decide +kernel
theorem dL_law_15 : decode cL_law 15 = .ok (.astore_n 2, 1) := by decide +kernel
theorem dL_law_16 : decode cL_law 16 = .ok (.iconst 0, 1) := by decide +kernel
theorem dL_law_17 : decode cL_law 17 = .ok (.istore_n 3, 1) := by decide +kernel
theorem dL_law_18 : decode cL_law 18 = .ok (.iload_n 3, 1) := by decide +kernel
theorem dL_law_19 : decode cL_law 19 = .ok (.aload_n 0, 1) := by decide +kernel
theorem dL_law_20 : decode cL_law 20 = .ok (.arraylength, 1) := by decide +kernel
theorem dL_law_21 : decode cL_law 21 = .ok (.bipush 6, 2) := by decide +kernel
theorem dL_law_23 : decode cL_law 23 = .ok (.isub, 1) := by decide +kernel
theorem dL_law_24 : decode cL_law 24 = .ok (.if_icmp .gt 1391, 3) := by decide +kernel
theorem dL_law_27 : decode cL_law 27 = .ok (.aload_n 0, 1) := by decide +kernel
theorem dL_law_28 : decode cL_law 28 = .ok (.iload_n 3, 1) := by decide +kernel
theorem dL_law_29 : decode cL_law 29 = .ok (.iaload, 1) := by decide +kernel
theorem dL_law_30 : decode cL_law 30 = .ok (.bipush 63, 2) := by decide +kernel
theorem dL_law_32 : decode cL_law 32 = .ok (.iand, 1) := by decide +kernel
theorem dL_law_33 : decode cL_law 33 = .ok (.tableswitch 1376 0 42 #[187, 220, 253, 286, 319, 342, 365, 388, 411, 434, 447, 480, 503, 516, 529, 562, 575, 588, 621, 644, 677, 710, 743, 766, 799, 832, 855, 878, 911, 964, 1007, 1030, 1063, 1096, 1139, 1182, 1245, 1268, 1291, 1304, 1317, 1330, 1353], 187) := by decide +kernel
theorem dL_law_220 : decode cL_law 220 = .ok (.aload_n 1, 1) := by decide +kernel
theorem dL_law_221 : decode cL_law 221 = .ok (.aload_n 0, 1) := by decide +kernel
theorem dL_law_222 : decode cL_law 222 = .ok (.iload_n 3, 1) := by decide +kernel
theorem dL_law_223 : decode cL_law 223 = .ok (.iconst 1, 1) := by decide +kernel
theorem dL_law_224 : decode cL_law 224 = .ok (.iadd, 1) := by decide +kernel
theorem dL_law_225 : decode cL_law 225 = .ok (.iaload, 1) := by decide +kernel
theorem dL_law_226 : decode cL_law 226 = .ok (.aload_n 0, 1) := by decide +kernel
theorem dL_law_227 : decode cL_law 227 = .ok (.iload_n 3, 1) := by decide +kernel
theorem dL_law_228 : decode cL_law 228 = .ok (.iconst 2, 1) := by decide +kernel
theorem dL_law_229 : decode cL_law 229 = .ok (.iadd, 1) := by decide +kernel
theorem dL_law_230 : decode cL_law 230 = .ok (.iaload, 1) := by decide +kernel
theorem dL_law_231 : decode cL_law 231 = .ok (.invokevirtual 13, 3) := by decide +kernel
theorem dL_law_234 : decode cL_law 234 = .ok (.aload_n 2, 1) := by decide +kernel
theorem dL_law_235 : decode cL_law 235 = .ok (.aload_n 0, 1) := by decide +kernel
theorem dL_law_236 : decode cL_law 236 = .ok (.iload_n 3, 1) := by decide +kernel
theorem dL_law_237 : decode cL_law 237 = .ok (.iconst 1, 1) := by decide +kernel
theorem dL_law_238 : decode cL_law 238 = .ok (.iadd, 1) := by decide +kernel
theorem dL_law_239 : decode cL_law 239 = .ok (.iaload, 1) := by decide +kernel
theorem dL_law_240 : decode cL_law 240 = .ok (.aload_n 0, 1) := by decide +kernel
theorem dL_law_241 : decode cL_law 241 = .ok (.iload_n 3, 1) := by decide +kernel
theorem dL_law_242 : decode cL_law 242 = .ok (.iconst 2, 1) := by decide +kernel
theorem dL_law_243 : decode cL_law 243 = .ok (.iadd, 1) := by decide +kernel
theorem dL_law_244 : decode cL_law 244 = .ok (.iaload, 1) := by decide +kernel
theorem dL_law_245 : decode cL_law 245 = .ok (.invokevirtual 17, 3) := by decide +kernel
theorem dL_law_248 : decode cL_law 248 = .ok (.if_icmp .eq 1161, 3) := by decide +kernel
theorem dL_law_251 : decode cL_law 251 = .ok (.iconst 0, 1) := by decide +kernel
theorem dL_law_252 : decode cL_law 252 = .ok (.ireturn, 1) := by decide +kernel
theorem dL_law_253 : decode cL_law 253 = .ok (.aload_n 1, 1) := by decide +kernel
theorem dL_law_254 : decode cL_law 254 = .ok (.aload_n 0, 1) := by decide +kernel
theorem dL_law_255 : decode cL_law 255 = .ok (.iload_n 3, 1) := by decide +kernel
theorem dL_law_256 : decode cL_law 256 = .ok (.iconst 1, 1) := by decide +kernel
theorem dL_law_257 : decode cL_law 257 = .ok (.iadd, 1) := by decide +kernel
theorem dL_law_258 : decode cL_law 258 = .ok (.iaload, 1) := by decide +kernel
theorem dL_law_259 : decode cL_law 259 = .ok (.aload_n 0, 1) := by decide +kernel
theorem dL_law_260 : decode cL_law 260 = .ok (.iload_n 3, 1) := by decide +kernel
theorem dL_law_261 : decode cL_law 261 = .ok (.iconst 2, 1) := by decide +kernel
theorem dL_law_262 : decode cL_law 262 = .ok (.iadd, 1) := by decide +kernel
theorem dL_law_263 : decode cL_law 263 = .ok (.iaload, 1) := by decide +kernel
theorem dL_law_264 : decode cL_law 264 = .ok (.invokevirtual 18, 3) := by decide +kernel
theorem dL_law_267 : decode cL_law 267 = .ok (.aload_n 2, 1) := by decide +kernel
theorem dL_law_268 : decode cL_law 268 = .ok (.aload_n 0, 1) := by decide +kernel
theorem dL_law_269 : decode cL_law 269 = .ok (.iload_n 3, 1) := by decide +kernel
theorem dL_law_270 : decode cL_law 270 = .ok (.iconst 1, 1) := by decide +kernel
theorem dL_law_271 : decode cL_law 271 = .ok (.iadd, 1) := by decide +kernel
theorem dL_law_272 : decode cL_law 272 = .ok (.iaload, 1) := by decide +kernel
theorem dL_law_273 : decode cL_law 273 = .ok (.aload_n 0, 1) := by decide +kernel
theorem dL_law_274 : decode cL_law 274 = .ok (.iload_n 3, 1) := by decide +kernel
theorem dL_law_275 : decode cL_law 275 = .ok (.iconst 2, 1) := by decide +kernel
theorem dL_law_276 : decode cL_law 276 = .ok (.iadd, 1) := by decide +kernel
theorem dL_law_277 : decode cL_law 277 = .ok (.iaload, 1) := by decide +kernel
theorem dL_law_278 : decode cL_law 278 = .ok (.invokevirtual 21, 3) := by decide +kernel
theorem dL_law_281 : decode cL_law 281 = .ok (.if_icmp .eq 1128, 3) := by decide +kernel
theorem dL_law_284 : decode cL_law 284 = .ok (.iconst 0, 1) := by decide +kernel
theorem dL_law_285 : decode cL_law 285 = .ok (.ireturn, 1) := by decide +kernel
theorem dL_law_286 : decode cL_law 286 = .ok (.aload_n 1, 1) := by decide +kernel
theorem dL_law_287 : decode cL_law 287 = .ok (.aload_n 0, 1) := by decide +kernel
theorem dL_law_288 : decode cL_law 288 = .ok (.iload_n 3, 1) := by decide +kernel
theorem dL_law_289 : decode cL_law 289 = .ok (.iconst 1, 1) := by decide +kernel
theorem dL_law_290 : decode cL_law 290 = .ok (.iadd, 1) := by decide +kernel
theorem dL_law_291 : decode cL_law 291 = .ok (.iaload, 1) := by decide +kernel
theorem dL_law_292 : decode cL_law 292 = .ok (.aload_n 0, 1) := by decide +kernel
theorem dL_law_293 : decode cL_law 293 = .ok (.iload_n 3, 1) := by decide +kernel
theorem dL_law_294 : decode cL_law 294 = .ok (.iconst 2, 1) := by decide +kernel
theorem dL_law_295 : decode cL_law 295 = .ok (.iadd, 1) := by decide +kernel
theorem dL_law_296 : decode cL_law 296 = .ok (.iaload, 1) := by decide +kernel
theorem dL_law_297 : decode cL_law 297 = .ok (.invokevirtual 22, 3) := by decide +kernel
theorem dL_law_300 : decode cL_law 300 = .ok (.aload_n 2, 1) := by decide +kernel
theorem dL_law_301 : decode cL_law 301 = .ok (.aload_n 0, 1) := by decide +kernel
theorem dL_law_302 : decode cL_law 302 = .ok (.iload_n 3, 1) := by decide +kernel
theorem dL_law_303 : decode cL_law 303 = .ok (.iconst 1, 1) := by decide +kernel
theorem dL_law_304 : decode cL_law 304 = .ok (.iadd, 1) := by decide +kernel
theorem dL_law_305 : decode cL_law 305 = .ok (.iaload, 1) := by decide +kernel
theorem dL_law_306 : decode cL_law 306 = .ok (.aload_n 0, 1) := by decide +kernel
theorem dL_law_307 : decode cL_law 307 = .ok (.iload_n 3, 1) := by decide +kernel
theorem dL_law_308 : decode cL_law 308 = .ok (.iconst 2, 1) := by decide +kernel
theorem dL_law_309 : decode cL_law 309 = .ok (.iadd, 1) := by decide +kernel
theorem dL_law_310 : decode cL_law 310 = .ok (.iaload, 1) := by decide +kernel
theorem dL_law_311 : decode cL_law 311 = .ok (.invokevirtual 25, 3) := by decide +kernel
theorem dL_law_314 : decode cL_law 314 = .ok (.if_icmp .eq 1095, 3) := by decide +kernel
theorem dL_law_317 : decode cL_law 317 = .ok (.iconst 0, 1) := by decide +kernel
theorem dL_law_318 : decode cL_law 318 = .ok (.ireturn, 1) := by decide +kernel
theorem dL_law_319 : decode cL_law 319 = .ok (.aload_n 1, 1) := by decide +kernel
theorem dL_law_320 : decode cL_law 320 = .ok (.aload_n 0, 1) := by decide +kernel
theorem dL_law_321 : decode cL_law 321 = .ok (.iload_n 3, 1) := by decide +kernel
theorem dL_law_322 : decode cL_law 322 = .ok (.iconst 1, 1) := by decide +kernel
theorem dL_law_323 : decode cL_law 323 = .ok (.iadd, 1) := by decide +kernel
theorem dL_law_324 : decode cL_law 324 = .ok (.iaload, 1) := by decide +kernel
theorem dL_law_325 : decode cL_law 325 = .ok (.aload_n 0, 1) := by decide +kernel
theorem dL_law_326 : decode cL_law 326 = .ok (.iload_n 3, 1) := by decide +kernel
theorem dL_law_327 : decode cL_law 327 = .ok (.iconst 2, 1) := by decide +kernel
theorem dL_law_328 : decode cL_law 328 = .ok (.iadd, 1) := by decide +kernel
theorem dL_law_329 : decode cL_law 329 = .ok (.iaload, 1) := by decide +kernel
theorem dL_law_330 : decode cL_law 330 = .ok (.invokevirtual 26, 3) := by decide +kernel
theorem dL_law_333 : decode cL_law 333 = .ok (.aload_n 2, 1) := by decide +kernel
theorem dL_law_334 : decode cL_law 334 = .ok (.aload_n 0, 1) := by decide +kernel
theorem dL_law_335 : decode cL_law 335 = .ok (.iload_n 3, 1) := by decide +kernel
theorem dL_law_336 : decode cL_law 336 = .ok (.iconst 1, 1) := by decide +kernel
theorem dL_law_337 : decode cL_law 337 = .ok (.iadd, 1) := by decide +kernel
theorem dL_law_338 : decode cL_law 338 = .ok (.iaload, 1) := by decide +kernel
theorem dL_law_339 : decode cL_law 339 = .ok (.aload_n 0, 1) := by decide +kernel
theorem dL_law_340 : decode cL_law 340 = .ok (.iload_n 3, 1) := by decide +kernel
theorem dL_law_341 : decode cL_law 341 = .ok (.iconst 2, 1) := by decide +kernel
theorem dL_law_342 : decode cL_law 342 = .ok (.iadd, 1) := by decide +kernel
theorem dL_law_343 : decode cL_law 343 = .ok (.iaload, 1) := by decide +kernel
theorem dL_law_344 : decode cL_law 344 = .ok (.invokevirtual 29, 3) := by decide +kernel
theorem dL_law_347 : decode cL_law 347 = .ok (.if_icmp .eq 1062, 3) := by decide +kernel
theorem dL_law_350 : decode cL_law 350 = .ok (.iconst 0, 1) := by decide +kernel
theorem dL_law_351 : decode cL_law 351 = .ok (.ireturn, 1) := by decide +kernel
theorem dL_law_352 : decode cL_law 352 = .ok (.aload_n 1, 1) := by decide +kernel
theorem dL_law_353 : decode cL_law 353 = .ok (.aload_n 0, 1) := by decide +kernel
theorem dL_law_354 : decode cL_law 354 = .ok (.iload_n 3, 1) := by decide +kernel
theorem dL_law_355 : decode cL_law 355 = .ok (.iconst 1, 1) := by decide +kernel
theorem dL_law_356 : decode cL_law 356 = .ok (.iadd, 1) := by decide +kernel
theorem dL_law_357 : decode cL_law 357 = .ok (.iaload, 1) := by decide +kernel
theorem dL_law_358 : decode cL_law 358 = .ok (.invokevirtual 30, 3) := by decide +kernel
theorem dL_law_361 : decode cL_law 361 = .ok (.aload_n 2, 1) := by decide +kernel
theorem dL_law_362 : decode cL_law 362 = .ok (.aload_n 0, 1) := by decide +kernel
theorem dL_law_363 : decode cL_law 363 = .ok (.iload_n 3, 1) := by decide +kernel
theorem dL_law_364 : decode cL_law 364 = .ok (.iconst 1, 1) := by decide +kernel
theorem dL_law_365 : decode cL_law 365 = .ok (.iadd, 1) := by decide +kernel
theorem dL_law_366 : decode cL_law 366 = .ok (.iaload, 1) := by decide +kernel
theorem dL_law_367 : decode cL_law 367 = .ok (.invokevirtual 34, 3) := by decide +kernel
theorem dL_law_370 : decode cL_law 370 = .ok (.if_icmp .eq 1039, 3) := by decide +kernel
theorem dL_law_373 : decode cL_law 373 = .ok (.iconst 0, 1) := by decide +kernel
theorem dL_law_374 : decode cL_law 374 = .ok (.ireturn, 1) := by decide +kernel
theorem dL_law_375 : decode cL_law 375 = .ok (.aload_n 1, 1) := by decide +kernel
theorem dL_law_376 : decode cL_law 376 = .ok (.aload_n 0, 1) := by decide +kernel
theorem dL_law_377 : decode cL_law 377 = .ok (.iload_n 3, 1) := by decide +kernel
theorem dL_law_378 : decode cL_law 378 = .ok (.iconst 1, 1) := by decide +kernel
theorem dL_law_379 : decode cL_law 379 = .ok (.iadd, 1) := by decide +kernel
theorem dL_law_380 : decode cL_law 380 = .ok (.iaload, 1) := by decide +kernel
theorem dL_law_381 : decode cL_law 381 = .ok (.invokevirtual 35, 3) := by decide +kernel
theorem dL_law_384 : decode cL_law 384 = .ok (.aload_n 2, 1) := by decide +kernel
theorem dL_law_385 : decode cL_law 385 = .ok (.aload_n 0, 1) := by decide +kernel
theorem dL_law_386 : decode cL_law 386 = .ok (.iload_n 3, 1) := by decide +kernel
theorem dL_law_387 : decode cL_law 387 = .ok (.iconst 1, 1) := by decide +kernel
theorem dL_law_388 : decode cL_law 388 = .ok (.iadd, 1) := by decide +kernel
theorem dL_law_389 : decode cL_law 389 = .ok (.iaload, 1) := by decide +kernel
theorem dL_law_390 : decode cL_law 390 = .ok (.invokevirtual 38, 3) := by decide +kernel
theorem dL_law_393 : decode cL_law 393 = .ok (.if_icmp .eq 1016, 3) := by decide +kernel
theorem dL_law_396 : decode cL_law 396 = .ok (.iconst 0, 1) := by decide +kernel
theorem dL_law_397 : decode cL_law 397 = .ok (.ireturn, 1) := by decide +kernel
theorem dL_law_398 : decode cL_law 398 = .ok (.aload_n 1, 1) := by decide +kernel
theorem dL_law_399 : decode cL_law 399 = .ok (.aload_n 0, 1) := by decide +kernel
theorem dL_law_400 : decode cL_law 400 = .ok (.iload_n 3, 1) := by decide +kernel
theorem dL_law_401 : decode cL_law 401 = .ok (.iconst 1, 1) := by decide +kernel
theorem dL_law_402 : decode cL_law 402 = .ok (.iadd, 1) := by decide +kernel
theorem dL_law_403 : decode cL_law 403 = .ok (.iaload, 1) := by decide +kernel
theorem dL_law_404 : decode cL_law 404 = .ok (.invokevirtual 39, 3) := by decide +kernel
theorem dL_law_407 : decode cL_law 407 = .ok (.aload_n 2, 1) := by decide +kernel
theorem dL_law_408 : decode cL_law 408 = .ok (.aload_n 0, 1) := by decide +kernel
theorem dL_law_409 : decode cL_law 409 = .ok (.iload_n 3, 1) := by decide +kernel
theorem dL_law_410 : decode cL_law 410 = .ok (.iconst 1, 1) := by decide +kernel
theorem dL_law_411 : decode cL_law 411 = .ok (.iadd, 1) := by decide +kernel
theorem dL_law_412 : decode cL_law 412 = .ok (.iaload, 1) := by decide +kernel
theorem dL_law_413 : decode cL_law 413 = .ok (.invokevirtual 42, 3) := by decide +kernel
theorem dL_law_416 : decode cL_law 416 = .ok (.if_icmp .eq 993, 3) := by decide +kernel
theorem dL_law_419 : decode cL_law 419 = .ok (.iconst 0, 1) := by decide +kernel
theorem dL_law_420 : decode cL_law 420 = .ok (.ireturn, 1) := by decide +kernel
theorem dL_law_421 : decode cL_law 421 = .ok (.aload_n 1, 1) := by decide +kernel
theorem dL_law_422 : decode cL_law 422 = .ok (.aload_n 0, 1) := by decide +kernel
theorem dL_law_423 : decode cL_law 423 = .ok (.iload_n 3, 1) := by decide +kernel
theorem dL_law_424 : decode cL_law 424 = .ok (.iconst 1, 1) := by decide +kernel
theorem dL_law_425 : decode cL_law 425 = .ok (.iadd, 1) := by decide +kernel
theorem dL_law_426 : decode cL_law 426 = .ok (.iaload, 1) := by decide +kernel
theorem dL_law_427 : decode cL_law 427 = .ok (.invokevirtual 43, 3) := by decide +kernel
theorem dL_law_430 : decode cL_law 430 = .ok (.aload_n 2, 1) := by decide +kernel
theorem dL_law_431 : decode cL_law 431 = .ok (.aload_n 0, 1) := by decide +kernel
theorem dL_law_432 : decode cL_law 432 = .ok (.iload_n 3, 1) := by decide +kernel
theorem dL_law_433 : decode cL_law 433 = .ok (.iconst 1, 1) := by decide +kernel
theorem dL_law_434 : decode cL_law 434 = .ok (.iadd, 1) := by decide +kernel
theorem dL_law_435 : decode cL_law 435 = .ok (.iaload, 1) := by decide +kernel
theorem dL_law_436 : decode cL_law 436 = .ok (.invokevirtual 46, 3) := by decide +kernel
theorem dL_law_439 : decode cL_law 439 = .ok (.if_icmp .eq 970, 3) := by decide +kernel
theorem dL_law_442 : decode cL_law 442 = .ok (.iconst 0, 1) := by decide +kernel
theorem dL_law_443 : decode cL_law 443 = .ok (.ireturn, 1) := by decide +kernel
theorem dL_law_444 : decode cL_law 444 = .ok (.aload_n 1, 1) := by decide +kernel
theorem dL_law_445 : decode cL_law 445 = .ok (.aload_n 0, 1) := by decide +kernel
theorem dL_law_446 : decode cL_law 446 = .ok (.iload_n 3, 1) := by decide +kernel
theorem dL_law_447 : decode cL_law 447 = .ok (.iconst 1, 1) := by decide +kernel
theorem dL_law_448 : decode cL_law 448 = .ok (.iadd, 1) := by decide +kernel
theorem dL_law_449 : decode cL_law 449 = .ok (.iaload, 1) := by decide +kernel
theorem dL_law_450 : decode cL_law 450 = .ok (.invokevirtual 47, 3) := by decide +kernel
theorem dL_law_453 : decode cL_law 453 = .ok (.aload_n 2, 1) := by decide +kernel
theorem dL_law_454 : decode cL_law 454 = .ok (.aload_n 0, 1) := by decide +kernel
theorem dL_law_455 : decode cL_law 455 = .ok (.iload_n 3, 1) := by decide +kernel
theorem dL_law_456 : decode cL_law 456 = .ok (.iconst 1, 1) := by decide +kernel
theorem dL_law_457 : decode cL_law 457 = .ok (.iadd, 1) := by decide +kernel
theorem dL_law_458 : decode cL_law 458 = .ok (.iaload, 1) := by decide +kernel
theorem dL_law_459 : decode cL_law 459 = .ok (.invokevirtual 50, 3) := by decide +kernel
theorem dL_law_462 : decode cL_law 462 = .ok (.if_icmp .eq 947, 3) := by decide +kernel
theorem dL_law_465 : decode cL_law 465 = .ok (.iconst 0, 1) := by decide +kernel
theorem dL_law_466 : decode cL_law 466 = .ok (.ireturn, 1) := by decide +kernel
theorem dL_law_467 : decode cL_law 467 = .ok (.aload_n 1, 1) := by decide +kernel
theorem dL_law_468 : decode cL_law 468 = .ok (.invokevirtual 51, 3) := by decide +kernel
theorem dL_law_471 : decode cL_law 471 = .ok (.aload_n 2, 1) := by decide +kernel
theorem dL_law_472 : decode cL_law 472 = .ok (.invokevirtual 55, 3) := by decide +kernel
theorem dL_law_475 : decode cL_law 475 = .ok (.if_icmp .eq 934, 3) := by decide +kernel
theorem dL_law_478 : decode cL_law 478 = .ok (.iconst 0, 1) := by decide +kernel
theorem dL_law_479 : decode cL_law 479 = .ok (.ireturn, 1) := by decide +kernel
theorem dL_law_480 : decode cL_law 480 = .ok (.aload_n 1, 1) := by decide +kernel
theorem dL_law_481 : decode cL_law 481 = .ok (.aload_n 0, 1) := by decide +kernel
theorem dL_law_482 : decode cL_law 482 = .ok (.iload_n 3, 1) := by decide +kernel
theorem dL_law_483 : decode cL_law 483 = .ok (.iconst 1, 1) := by decide +kernel
theorem dL_law_484 : decode cL_law 484 = .ok (.iadd, 1) := by decide +kernel
theorem dL_law_485 : decode cL_law 485 = .ok (.iaload, 1) := by decide +kernel
theorem dL_law_486 : decode cL_law 486 = .ok (.aload_n 0, 1) := by decide +kernel
theorem dL_law_487 : decode cL_law 487 = .ok (.iload_n 3, 1) := by decide +kernel
theorem dL_law_488 : decode cL_law 488 = .ok (.iconst 2, 1) := by decide +kernel
theorem dL_law_489 : decode cL_law 489 = .ok (.iadd, 1) := by decide +kernel
theorem dL_law_490 : decode cL_law 490 = .ok (.iaload, 1) := by decide +kernel
theorem dL_law_491 : decode cL_law 491 = .ok (.invokevirtual 56, 3) := by decide +kernel
theorem dL_law_494 : decode cL_law 494 = .ok (.aload_n 2, 1) := by decide +kernel
theorem dL_law_495 : decode cL_law 495 = .ok (.aload_n 0, 1) := by decide +kernel
theorem dL_law_496 : decode cL_law 496 = .ok (.iload_n 3, 1) := by decide +kernel
theorem dL_law_497 : decode cL_law 497 = .ok (.iconst 1, 1) := by decide +kernel
theorem dL_law_498 : decode cL_law 498 = .ok (.iadd, 1) := by decide +kernel
theorem dL_law_499 : decode cL_law 499 = .ok (.iaload, 1) := by decide +kernel
theorem dL_law_500 : decode cL_law 500 = .ok (.aload_n 0, 1) := by decide +kernel
theorem dL_law_501 : decode cL_law 501 = .ok (.iload_n 3, 1) := by decide +kernel
theorem dL_law_502 : decode cL_law 502 = .ok (.iconst 2, 1) := by decide +kernel
theorem dL_law_503 : decode cL_law 503 = .ok (.iadd, 1) := by decide +kernel
theorem dL_law_504 : decode cL_law 504 = .ok (.iaload, 1) := by decide +kernel
theorem dL_law_505 : decode cL_law 505 = .ok (.invokevirtual 59, 3) := by decide +kernel
theorem dL_law_508 : decode cL_law 508 = .ok (.if_icmp .eq 901, 3) := by decide +kernel
theorem dL_law_511 : decode cL_law 511 = .ok (.iconst 0, 1) := by decide +kernel
theorem dL_law_512 : decode cL_law 512 = .ok (.ireturn, 1) := by decide +kernel
theorem dL_law_513 : decode cL_law 513 = .ok (.aload_n 1, 1) := by decide +kernel
theorem dL_law_514 : decode cL_law 514 = .ok (.aload_n 0, 1) := by decide +kernel
theorem dL_law_515 : decode cL_law 515 = .ok (.iload_n 3, 1) := by decide +kernel
theorem dL_law_516 : decode cL_law 516 = .ok (.iconst 1, 1) := by decide +kernel
theorem dL_law_517 : decode cL_law 517 = .ok (.iadd, 1) := by decide +kernel
theorem dL_law_518 : decode cL_law 518 = .ok (.iaload, 1) := by decide +kernel
theorem dL_law_519 : decode cL_law 519 = .ok (.invokevirtual 60, 3) := by decide +kernel
theorem dL_law_522 : decode cL_law 522 = .ok (.aload_n 2, 1) := by decide +kernel
theorem dL_law_523 : decode cL_law 523 = .ok (.aload_n 0, 1) := by decide +kernel
theorem dL_law_524 : decode cL_law 524 = .ok (.iload_n 3, 1) := by decide +kernel
theorem dL_law_525 : decode cL_law 525 = .ok (.iconst 1, 1) := by decide +kernel
theorem dL_law_526 : decode cL_law 526 = .ok (.iadd, 1) := by decide +kernel
theorem dL_law_527 : decode cL_law 527 = .ok (.iaload, 1) := by decide +kernel
theorem dL_law_528 : decode cL_law 528 = .ok (.invokevirtual 63, 3) := by decide +kernel
theorem dL_law_531 : decode cL_law 531 = .ok (.if_icmp .eq 878, 3) := by decide +kernel
theorem dL_law_534 : decode cL_law 534 = .ok (.iconst 0, 1) := by decide +kernel
theorem dL_law_535 : decode cL_law 535 = .ok (.ireturn, 1) := by decide +kernel
theorem dL_law_536 : decode cL_law 536 = .ok (.aload_n 1, 1) := by decide +kernel
theorem dL_law_537 : decode cL_law 537 = .ok (.invokevirtual 64, 3) := by decide +kernel
theorem dL_law_540 : decode cL_law 540 = .ok (.aload_n 2, 1) := by decide +kernel
theorem dL_law_541 : decode cL_law 541 = .ok (.invokevirtual 67, 3) := by decide +kernel
theorem dL_law_544 : decode cL_law 544 = .ok (.if_icmp .eq 865, 3) := by decide +kernel
theorem dL_law_547 : decode cL_law 547 = .ok (.iconst 0, 1) := by decide +kernel
theorem dL_law_548 : decode cL_law 548 = .ok (.ireturn, 1) := by decide +kernel
theorem dL_law_549 : decode cL_law 549 = .ok (.aload_n 1, 1) := by decide +kernel
theorem dL_law_550 : decode cL_law 550 = .ok (.invokevirtual 68, 3) := by decide +kernel
theorem dL_law_553 : decode cL_law 553 = .ok (.aload_n 2, 1) := by decide +kernel
theorem dL_law_554 : decode cL_law 554 = .ok (.invokevirtual 71, 3) := by decide +kernel
theorem dL_law_557 : decode cL_law 557 = .ok (.if_icmp .eq 852, 3) := by decide +kernel
theorem dL_law_560 : decode cL_law 560 = .ok (.iconst 0, 1) := by decide +kernel
theorem dL_law_561 : decode cL_law 561 = .ok (.ireturn, 1) := by decide +kernel
theorem dL_law_562 : decode cL_law 562 = .ok (.aload_n 1, 1) := by decide +kernel
theorem dL_law_563 : decode cL_law 563 = .ok (.aload_n 0, 1) := by decide +kernel
theorem dL_law_564 : decode cL_law 564 = .ok (.iload_n 3, 1) := by decide +kernel
theorem dL_law_565 : decode cL_law 565 = .ok (.iconst 1, 1) := by decide +kernel
theorem dL_law_566 : decode cL_law 566 = .ok (.iadd, 1) := by decide +kernel
theorem dL_law_567 : decode cL_law 567 = .ok (.iaload, 1) := by decide +kernel
theorem dL_law_568 : decode cL_law 568 = .ok (.aload_n 0, 1) := by decide +kernel
theorem dL_law_569 : decode cL_law 569 = .ok (.iload_n 3, 1) := by decide +kernel
theorem dL_law_570 : decode cL_law 570 = .ok (.iconst 2, 1) := by decide +kernel
theorem dL_law_571 : decode cL_law 571 = .ok (.iadd, 1) := by decide +kernel
theorem dL_law_572 : decode cL_law 572 = .ok (.iaload, 1) := by decide +kernel
theorem dL_law_573 : decode cL_law 573 = .ok (.invokevirtual 72, 3) := by decide +kernel
theorem dL_law_576 : decode cL_law 576 = .ok (.aload_n 2, 1) := by decide +kernel
theorem dL_law_577 : decode cL_law 577 = .ok (.aload_n 0, 1) := by decide +kernel
theorem dL_law_578 : decode cL_law 578 = .ok (.iload_n 3, 1) := by decide +kernel
theorem dL_law_579 : decode cL_law 579 = .ok (.iconst 1, 1) := by decide +kernel
theorem dL_law_580 : decode cL_law 580 = .ok (.iadd, 1) := by decide +kernel
theorem dL_law_581 : decode cL_law 581 = .ok (.iaload, 1) := by decide +kernel
theorem dL_law_582 : decode cL_law 582 = .ok (.aload_n 0, 1) := by decide +kernel
theorem dL_law_583 : decode cL_law 583 = .ok (.iload_n 3, 1) := by decide +kernel
theorem dL_law_584 : decode cL_law 584 = .ok (.iconst 2, 1) := by decide +kernel
theorem dL_law_585 : decode cL_law 585 = .ok (.iadd, 1) := by decide +kernel
theorem dL_law_586 : decode cL_law 586 = .ok (.iaload, 1) := by decide +kernel
theorem dL_law_587 : decode cL_law 587 = .ok (.invokevirtual 75, 3) := by decide +kernel
theorem dL_law_590 : decode cL_law 590 = .ok (.if_icmp .eq 819, 3) := by decide +kernel
theorem dL_law_593 : decode cL_law 593 = .ok (.iconst 0, 1) := by decide +kernel
theorem dL_law_594 : decode cL_law 594 = .ok (.ireturn, 1) := by decide +kernel
theorem dL_law_595 : decode cL_law 595 = .ok (.aload_n 1, 1) := by decide +kernel
theorem dL_law_596 : decode cL_law 596 = .ok (.invokevirtual 76, 3) := by decide +kernel
theorem dL_law_599 : decode cL_law 599 = .ok (.aload_n 2, 1) := by decide +kernel
theorem dL_law_600 : decode cL_law 600 = .ok (.invokevirtual 79, 3) := by decide +kernel
theorem dL_law_603 : decode cL_law 603 = .ok (.if_icmp .eq 806, 3) := by decide +kernel
theorem dL_law_606 : decode cL_law 606 = .ok (.iconst 0, 1) := by decide +kernel
theorem dL_law_607 : decode cL_law 607 = .ok (.ireturn, 1) := by decide +kernel
theorem dL_law_608 : decode cL_law 608 = .ok (.aload_n 1, 1) := by decide +kernel
theorem dL_law_609 : decode cL_law 609 = .ok (.invokevirtual 80, 3) := by decide +kernel
theorem dL_law_612 : decode cL_law 612 = .ok (.aload_n 2, 1) := by decide +kernel
theorem dL_law_613 : decode cL_law 613 = .ok (.invokevirtual 83, 3) := by decide +kernel
theorem dL_law_616 : decode cL_law 616 = .ok (.if_icmp .eq 793, 3) := by decide +kernel
theorem dL_law_619 : decode cL_law 619 = .ok (.iconst 0, 1) := by decide +kernel
theorem dL_law_620 : decode cL_law 620 = .ok (.ireturn, 1) := by decide +kernel
theorem dL_law_621 : decode cL_law 621 = .ok (.aload_n 1, 1) := by decide +kernel
theorem dL_law_622 : decode cL_law 622 = .ok (.aload_n 0, 1) := by decide +kernel
theorem dL_law_623 : decode cL_law 623 = .ok (.iload_n 3, 1) := by decide +kernel
theorem dL_law_624 : decode cL_law 624 = .ok (.iconst 1, 1) := by decide +kernel
theorem dL_law_625 : decode cL_law 625 = .ok (.iadd, 1) := by decide +kernel
theorem dL_law_626 : decode cL_law 626 = .ok (.iaload, 1) := by decide +kernel
theorem dL_law_627 : decode cL_law 627 = .ok (.aload_n 0, 1) := by decide +kernel
theorem dL_law_628 : decode cL_law 628 = .ok (.iload_n 3, 1) := by decide +kernel
theorem dL_law_629 : decode cL_law 629 = .ok (.iconst 2, 1) := by decide +kernel
theorem dL_law_630 : decode cL_law 630 = .ok (.iadd, 1) := by decide +kernel
theorem dL_law_631 : decode cL_law 631 = .ok (.iaload, 1) := by decide +kernel
theorem dL_law_632 : decode cL_law 632 = .ok (.invokevirtual 84, 3) := by decide +kernel
theorem dL_law_635 : decode cL_law 635 = .ok (.aload_n 2, 1) := by decide +kernel
theorem dL_law_636 : decode cL_law 636 = .ok (.aload_n 0, 1) := by decide +kernel
theorem dL_law_637 : decode cL_law 637 = .ok (.iload_n 3, 1) := by decide +kernel
theorem dL_law_638 : decode cL_law 638 = .ok (.iconst 1, 1) := by decide +kernel
theorem dL_law_639 : decode cL_law 639 = .ok (.iadd, 1) := by decide +kernel
theorem dL_law_640 : decode cL_law 640 = .ok (.iaload, 1) := by decide +kernel
theorem dL_law_641 : decode cL_law 641 = .ok (.aload_n 0, 1) := by decide +kernel
theorem dL_law_642 : decode cL_law 642 = .ok (.iload_n 3, 1) := by decide +kernel
theorem dL_law_643 : decode cL_law 643 = .ok (.iconst 2, 1) := by decide +kernel
theorem dL_law_644 : decode cL_law 644 = .ok (.iadd, 1) := by decide +kernel
theorem dL_law_645 : decode cL_law 645 = .ok (.iaload, 1) := by decide +kernel
theorem dL_law_646 : decode cL_law 646 = .ok (.invokevirtual 87, 3) := by decide +kernel
theorem dL_law_649 : decode cL_law 649 = .ok (.if_icmp .eq 760, 3) := by decide +kernel
theorem dL_law_652 : decode cL_law 652 = .ok (.iconst 0, 1) := by decide +kernel
theorem dL_law_653 : decode cL_law 653 = .ok (.ireturn, 1) := by decide +kernel
theorem dL_law_654 : decode cL_law 654 = .ok (.aload_n 1, 1) := by decide +kernel
theorem dL_law_655 : decode cL_law 655 = .ok (.aload_n 0, 1) := by decide +kernel
theorem dL_law_656 : decode cL_law 656 = .ok (.iload_n 3, 1) := by decide +kernel
theorem dL_law_657 : decode cL_law 657 = .ok (.iconst 1, 1) := by decide +kernel
theorem dL_law_658 : decode cL_law 658 = .ok (.iadd, 1) := by decide +kernel
theorem dL_law_659 : decode cL_law 659 = .ok (.iaload, 1) := by decide +kernel
theorem dL_law_660 : decode cL_law 660 = .ok (.invokevirtual 88, 3) := by decide +kernel
theorem dL_law_663 : decode cL_law 663 = .ok (.aload_n 2, 1) := by decide +kernel
theorem dL_law_664 : decode cL_law 664 = .ok (.aload_n 0, 1) := by decide +kernel
theorem dL_law_665 : decode cL_law 665 = .ok (.iload_n 3, 1) := by decide +kernel
theorem dL_law_666 : decode cL_law 666 = .ok (.iconst 1, 1) := by decide +kernel
theorem dL_law_667 : decode cL_law 667 = .ok (.iadd, 1) := by decide +kernel
theorem dL_law_668 : decode cL_law 668 = .ok (.iaload, 1) := by decide +kernel
theorem dL_law_669 : decode cL_law 669 = .ok (.invokevirtual 91, 3) := by decide +kernel
theorem dL_law_672 : decode cL_law 672 = .ok (.if_icmp .eq 737, 3) := by decide +kernel
theorem dL_law_675 : decode cL_law 675 = .ok (.iconst 0, 1) := by decide +kernel
theorem dL_law_676 : decode cL_law 676 = .ok (.ireturn, 1) := by decide +kernel
theorem dL_law_677 : decode cL_law 677 = .ok (.aload_n 1, 1) := by decide +kernel
theorem dL_law_678 : decode cL_law 678 = .ok (.aload_n 0, 1) := by decide +kernel
theorem dL_law_679 : decode cL_law 679 = .ok (.iload_n 3, 1) := by decide +kernel
theorem dL_law_680 : decode cL_law 680 = .ok (.iconst 1, 1) := by decide +kernel
theorem dL_law_681 : decode cL_law 681 = .ok (.iadd, 1) := by decide +kernel
theorem dL_law_682 : decode cL_law 682 = .ok (.iaload, 1) := by decide +kernel
theorem dL_law_683 : decode cL_law 683 = .ok (.aload_n 0, 1) := by decide +kernel
theorem dL_law_684 : decode cL_law 684 = .ok (.iload_n 3, 1) := by decide +kernel
theorem dL_law_685 : decode cL_law 685 = .ok (.iconst 2, 1) := by decide +kernel
theorem dL_law_686 : decode cL_law 686 = .ok (.iadd, 1) := by decide +kernel
theorem dL_law_687 : decode cL_law 687 = .ok (.iaload, 1) := by decide +kernel
theorem dL_law_688 : decode cL_law 688 = .ok (.invokevirtual 92, 3) := by decide +kernel
theorem dL_law_691 : decode cL_law 691 = .ok (.aload_n 2, 1) := by decide +kernel
theorem dL_law_692 : decode cL_law 692 = .ok (.aload_n 0, 1) := by decide +kernel
theorem dL_law_693 : decode cL_law 693 = .ok (.iload_n 3, 1) := by decide +kernel
theorem dL_law_694 : decode cL_law 694 = .ok (.iconst 1, 1) := by decide +kernel
theorem dL_law_695 : decode cL_law 695 = .ok (.iadd, 1) := by decide +kernel
theorem dL_law_696 : decode cL_law 696 = .ok (.iaload, 1) := by decide +kernel
theorem dL_law_697 : decode cL_law 697 = .ok (.aload_n 0, 1) := by decide +kernel
theorem dL_law_698 : decode cL_law 698 = .ok (.iload_n 3, 1) := by decide +kernel
theorem dL_law_699 : decode cL_law 699 = .ok (.iconst 2, 1) := by decide +kernel
theorem dL_law_700 : decode cL_law 700 = .ok (.iadd, 1) := by decide +kernel
theorem dL_law_701 : decode cL_law 701 = .ok (.iaload, 1) := by decide +kernel
theorem dL_law_702 : decode cL_law 702 = .ok (.invokevirtual 95, 3) := by decide +kernel
theorem dL_law_705 : decode cL_law 705 = .ok (.if_icmp .eq 704, 3) := by decide +kernel
theorem dL_law_708 : decode cL_law 708 = .ok (.iconst 0, 1) := by decide +kernel
theorem dL_law_709 : decode cL_law 709 = .ok (.ireturn, 1) := by decide +kernel
theorem dL_law_710 : decode cL_law 710 = .ok (.aload_n 1, 1) := by decide +kernel
theorem dL_law_711 : decode cL_law 711 = .ok (.aload_n 0, 1) := by decide +kernel
theorem dL_law_712 : decode cL_law 712 = .ok (.iload_n 3, 1) := by decide +kernel
theorem dL_law_713 : decode cL_law 713 = .ok (.iconst 1, 1) := by decide +kernel
theorem dL_law_714 : decode cL_law 714 = .ok (.iadd, 1) := by decide +kernel
theorem dL_law_715 : decode cL_law 715 = .ok (.iaload, 1) := by decide +kernel
theorem dL_law_716 : decode cL_law 716 = .ok (.aload_n 0, 1) := by decide +kernel
theorem dL_law_717 : decode cL_law 717 = .ok (.iload_n 3, 1) := by decide +kernel
theorem dL_law_718 : decode cL_law 718 = .ok (.iconst 2, 1) := by decide +kernel
theorem dL_law_719 : decode cL_law 719 = .ok (.iadd, 1) := by decide +kernel
theorem dL_law_720 : decode cL_law 720 = .ok (.iaload, 1) := by decide +kernel
theorem dL_law_721 : decode cL_law 721 = .ok (.invokevirtual 96, 3) := by decide +kernel
theorem dL_law_724 : decode cL_law 724 = .ok (.aload_n 2, 1) := by decide +kernel
theorem dL_law_725 : decode cL_law 725 = .ok (.aload_n 0, 1) := by decide +kernel
theorem dL_law_726 : decode cL_law 726 = .ok (.iload_n 3, 1) := by decide +kernel
theorem dL_law_727 : decode cL_law 727 = .ok (.iconst 1, 1) := by decide +kernel
theorem dL_law_728 : decode cL_law 728 = .ok (.iadd, 1) := by decide +kernel
theorem dL_law_729 : decode cL_law 729 = .ok (.iaload, 1) := by decide +kernel
theorem dL_law_730 : decode cL_law 730 = .ok (.aload_n 0, 1) := by decide +kernel
theorem dL_law_731 : decode cL_law 731 = .ok (.iload_n 3, 1) := by decide +kernel
theorem dL_law_732 : decode cL_law 732 = .ok (.iconst 2, 1) := by decide +kernel
theorem dL_law_733 : decode cL_law 733 = .ok (.iadd, 1) := by decide +kernel
theorem dL_law_734 : decode cL_law 734 = .ok (.iaload, 1) := by decide +kernel
theorem dL_law_735 : decode cL_law 735 = .ok (.invokevirtual 99, 3) := by decide +kernel
theorem dL_law_738 : decode cL_law 738 = .ok (.if_icmp .eq 671, 3) := by decide +kernel
theorem dL_law_741 : decode cL_law 741 = .ok (.iconst 0, 1) := by decide +kernel
theorem dL_law_742 : decode cL_law 742 = .ok (.ireturn, 1) := by decide +kernel
theorem dL_law_743 : decode cL_law 743 = .ok (.aload_n 1, 1) := by decide +kernel
theorem dL_law_744 : decode cL_law 744 = .ok (.aload_n 0, 1) := by decide +kernel
theorem dL_law_745 : decode cL_law 745 = .ok (.iload_n 3, 1) := by decide +kernel
theorem dL_law_746 : decode cL_law 746 = .ok (.iconst 1, 1) := by decide +kernel
theorem dL_law_747 : decode cL_law 747 = .ok (.iadd, 1) := by decide +kernel
theorem dL_law_748 : decode cL_law 748 = .ok (.iaload, 1) := by decide +kernel
theorem dL_law_749 : decode cL_law 749 = .ok (.aload_n 0, 1) := by decide +kernel
theorem dL_law_750 : decode cL_law 750 = .ok (.iload_n 3, 1) := by decide +kernel
theorem dL_law_751 : decode cL_law 751 = .ok (.iconst 2, 1) := by decide +kernel
theorem dL_law_752 : decode cL_law 752 = .ok (.iadd, 1) := by decide +kernel
theorem dL_law_753 : decode cL_law 753 = .ok (.iaload, 1) := by decide +kernel
theorem dL_law_754 : decode cL_law 754 = .ok (.invokevirtual 100, 3) := by decide +kernel
theorem dL_law_757 : decode cL_law 757 = .ok (.aload_n 2, 1) := by decide +kernel
theorem dL_law_758 : decode cL_law 758 = .ok (.aload_n 0, 1) := by decide +kernel
theorem dL_law_759 : decode cL_law 759 = .ok (.iload_n 3, 1) := by decide +kernel
theorem dL_law_760 : decode cL_law 760 = .ok (.iconst 1, 1) := by decide +kernel
theorem dL_law_761 : decode cL_law 761 = .ok (.iadd, 1) := by decide +kernel
theorem dL_law_762 : decode cL_law 762 = .ok (.iaload, 1) := by decide +kernel
theorem dL_law_763 : decode cL_law 763 = .ok (.aload_n 0, 1) := by decide +kernel
theorem dL_law_764 : decode cL_law 764 = .ok (.iload_n 3, 1) := by decide +kernel
theorem dL_law_765 : decode cL_law 765 = .ok (.iconst 2, 1) := by decide +kernel
theorem dL_law_766 : decode cL_law 766 = .ok (.iadd, 1) := by decide +kernel
theorem dL_law_767 : decode cL_law 767 = .ok (.iaload, 1) := by decide +kernel
theorem dL_law_768 : decode cL_law 768 = .ok (.invokevirtual 103, 3) := by decide +kernel
theorem dL_law_771 : decode cL_law 771 = .ok (.if_icmp .eq 638, 3) := by decide +kernel
theorem dL_law_774 : decode cL_law 774 = .ok (.iconst 0, 1) := by decide +kernel
theorem dL_law_775 : decode cL_law 775 = .ok (.ireturn, 1) := by decide +kernel
theorem dL_law_776 : decode cL_law 776 = .ok (.aload_n 1, 1) := by decide +kernel
theorem dL_law_777 : decode cL_law 777 = .ok (.aload_n 0, 1) := by decide +kernel
theorem dL_law_778 : decode cL_law 778 = .ok (.iload_n 3, 1) := by decide +kernel
theorem dL_law_779 : decode cL_law 779 = .ok (.iconst 1, 1) := by decide +kernel
theorem dL_law_780 : decode cL_law 780 = .ok (.iadd, 1) := by decide +kernel
theorem dL_law_781 : decode cL_law 781 = .ok (.iaload, 1) := by decide +kernel
theorem dL_law_782 : decode cL_law 782 = .ok (.invokevirtual 104, 3) := by decide +kernel
theorem dL_law_785 : decode cL_law 785 = .ok (.aload_n 2, 1) := by decide +kernel
theorem dL_law_786 : decode cL_law 786 = .ok (.aload_n 0, 1) := by decide +kernel
theorem dL_law_787 : decode cL_law 787 = .ok (.iload_n 3, 1) := by decide +kernel
theorem dL_law_788 : decode cL_law 788 = .ok (.iconst 1, 1) := by decide +kernel
theorem dL_law_789 : decode cL_law 789 = .ok (.iadd, 1) := by decide +kernel
theorem dL_law_790 : decode cL_law 790 = .ok (.iaload, 1) := by decide +kernel
theorem dL_law_791 : decode cL_law 791 = .ok (.invokevirtual 107, 3) := by decide +kernel
theorem dL_law_794 : decode cL_law 794 = .ok (.if_icmp .eq 615, 3) := by decide +kernel
theorem dL_law_797 : decode cL_law 797 = .ok (.iconst 0, 1) := by decide +kernel
theorem dL_law_798 : decode cL_law 798 = .ok (.ireturn, 1) := by decide +kernel
theorem dL_law_799 : decode cL_law 799 = .ok (.aload_n 1, 1) := by decide +kernel
theorem dL_law_800 : decode cL_law 800 = .ok (.aload_n 0, 1) := by decide +kernel
theorem dL_law_801 : decode cL_law 801 = .ok (.iload_n 3, 1) := by decide +kernel
theorem dL_law_802 : decode cL_law 802 = .ok (.iconst 1, 1) := by decide +kernel
theorem dL_law_803 : decode cL_law 803 = .ok (.iadd, 1) := by decide +kernel
theorem dL_law_804 : decode cL_law 804 = .ok (.iaload, 1) := by decide +kernel
theorem dL_law_805 : decode cL_law 805 = .ok (.aload_n 0, 1) := by decide +kernel
theorem dL_law_806 : decode cL_law 806 = .ok (.iload_n 3, 1) := by decide +kernel
theorem dL_law_807 : decode cL_law 807 = .ok (.iconst 2, 1) := by decide +kernel
theorem dL_law_808 : decode cL_law 808 = .ok (.iadd, 1) := by decide +kernel
theorem dL_law_809 : decode cL_law 809 = .ok (.iaload, 1) := by decide +kernel
theorem dL_law_810 : decode cL_law 810 = .ok (.invokevirtual 108, 3) := by decide +kernel
theorem dL_law_813 : decode cL_law 813 = .ok (.aload_n 2, 1) := by decide +kernel
theorem dL_law_814 : decode cL_law 814 = .ok (.aload_n 0, 1) := by decide +kernel
theorem dL_law_815 : decode cL_law 815 = .ok (.iload_n 3, 1) := by decide +kernel
theorem dL_law_816 : decode cL_law 816 = .ok (.iconst 1, 1) := by decide +kernel
theorem dL_law_817 : decode cL_law 817 = .ok (.iadd, 1) := by decide +kernel
theorem dL_law_818 : decode cL_law 818 = .ok (.iaload, 1) := by decide +kernel
theorem dL_law_819 : decode cL_law 819 = .ok (.aload_n 0, 1) := by decide +kernel
theorem dL_law_820 : decode cL_law 820 = .ok (.iload_n 3, 1) := by decide +kernel
theorem dL_law_821 : decode cL_law 821 = .ok (.iconst 2, 1) := by decide +kernel
theorem dL_law_822 : decode cL_law 822 = .ok (.iadd, 1) := by decide +kernel
theorem dL_law_823 : decode cL_law 823 = .ok (.iaload, 1) := by decide +kernel
theorem dL_law_824 : decode cL_law 824 = .ok (.invokevirtual 111, 3) := by decide +kernel
theorem dL_law_827 : decode cL_law 827 = .ok (.if_icmp .eq 582, 3) := by decide +kernel
theorem dL_law_830 : decode cL_law 830 = .ok (.iconst 0, 1) := by decide +kernel
theorem dL_law_831 : decode cL_law 831 = .ok (.ireturn, 1) := by decide +kernel
theorem dL_law_832 : decode cL_law 832 = .ok (.aload_n 1, 1) := by decide +kernel
theorem dL_law_833 : decode cL_law 833 = .ok (.aload_n 0, 1) := by decide +kernel
theorem dL_law_834 : decode cL_law 834 = .ok (.iload_n 3, 1) := by decide +kernel
theorem dL_law_835 : decode cL_law 835 = .ok (.iconst 1, 1) := by decide +kernel
theorem dL_law_836 : decode cL_law 836 = .ok (.iadd, 1) := by decide +kernel
theorem dL_law_837 : decode cL_law 837 = .ok (.iaload, 1) := by decide +kernel
theorem dL_law_838 : decode cL_law 838 = .ok (.aload_n 0, 1) := by decide +kernel
theorem dL_law_839 : decode cL_law 839 = .ok (.iload_n 3, 1) := by decide +kernel
theorem dL_law_840 : decode cL_law 840 = .ok (.iconst 2, 1) := by decide +kernel
theorem dL_law_841 : decode cL_law 841 = .ok (.iadd, 1) := by decide +kernel
theorem dL_law_842 : decode cL_law 842 = .ok (.iaload, 1) := by decide +kernel
theorem dL_law_843 : decode cL_law 843 = .ok (.invokevirtual 112, 3) := by decide +kernel
theorem dL_law_846 : decode cL_law 846 = .ok (.aload_n 2, 1) := by decide +kernel
theorem dL_law_847 : decode cL_law 847 = .ok (.aload_n 0, 1) := by decide +kernel
theorem dL_law_848 : decode cL_law 848 = .ok (.iload_n 3, 1) := by decide +kernel
theorem dL_law_849 : decode cL_law 849 = .ok (.iconst 1, 1) := by decide +kernel
theorem dL_law_850 : decode cL_law 850 = .ok (.iadd, 1) := by decide +kernel
theorem dL_law_851 : decode cL_law 851 = .ok (.iaload, 1) := by decide +kernel
theorem dL_law_852 : decode cL_law 852 = .ok (.aload_n 0, 1) := by decide +kernel
theorem dL_law_853 : decode cL_law 853 = .ok (.iload_n 3, 1) := by decide +kernel
theorem dL_law_854 : decode cL_law 854 = .ok (.iconst 2, 1) := by decide +kernel
theorem dL_law_855 : decode cL_law 855 = .ok (.iadd, 1) := by decide +kernel
theorem dL_law_856 : decode cL_law 856 = .ok (.iaload, 1) := by decide +kernel
theorem dL_law_857 : decode cL_law 857 = .ok (.invokevirtual 115, 3) := by decide +kernel
theorem dL_law_860 : decode cL_law 860 = .ok (.if_icmp .eq 549, 3) := by decide +kernel
theorem dL_law_863 : decode cL_law 863 = .ok (.iconst 0, 1) := by decide +kernel
theorem dL_law_864 : decode cL_law 864 = .ok (.ireturn, 1) := by decide +kernel
theorem dL_law_865 : decode cL_law 865 = .ok (.aload_n 1, 1) := by decide +kernel
theorem dL_law_866 : decode cL_law 866 = .ok (.aload_n 0, 1) := by decide +kernel
theorem dL_law_867 : decode cL_law 867 = .ok (.iload_n 3, 1) := by decide +kernel
theorem dL_law_868 : decode cL_law 868 = .ok (.iconst 1, 1) := by decide +kernel
theorem dL_law_869 : decode cL_law 869 = .ok (.iadd, 1) := by decide +kernel
theorem dL_law_870 : decode cL_law 870 = .ok (.iaload, 1) := by decide +kernel
theorem dL_law_871 : decode cL_law 871 = .ok (.invokevirtual 116, 3) := by decide +kernel
theorem dL_law_874 : decode cL_law 874 = .ok (.aload_n 2, 1) := by decide +kernel
theorem dL_law_875 : decode cL_law 875 = .ok (.aload_n 0, 1) := by decide +kernel
theorem dL_law_876 : decode cL_law 876 = .ok (.iload_n 3, 1) := by decide +kernel
theorem dL_law_877 : decode cL_law 877 = .ok (.iconst 1, 1) := by decide +kernel
theorem dL_law_878 : decode cL_law 878 = .ok (.iadd, 1) := by decide +kernel
theorem dL_law_879 : decode cL_law 879 = .ok (.iaload, 1) := by decide +kernel
theorem dL_law_880 : decode cL_law 880 = .ok (.invokevirtual 119, 3) := by decide +kernel
theorem dL_law_883 : decode cL_law 883 = .ok (.if_icmp .eq 526, 3) := by decide +kernel
theorem dL_law_886 : decode cL_law 886 = .ok (.iconst 0, 1) := by decide +kernel
theorem dL_law_887 : decode cL_law 887 = .ok (.ireturn, 1) := by decide +kernel
theorem dL_law_888 : decode cL_law 888 = .ok (.aload_n 1, 1) := by decide +kernel
theorem dL_law_889 : decode cL_law 889 = .ok (.aload_n 0, 1) := by decide +kernel
theorem dL_law_890 : decode cL_law 890 = .ok (.iload_n 3, 1) := by decide +kernel
theorem dL_law_891 : decode cL_law 891 = .ok (.iconst 1, 1) := by decide +kernel
theorem dL_law_892 : decode cL_law 892 = .ok (.iadd, 1) := by decide +kernel
theorem dL_law_893 : decode cL_law 893 = .ok (.iaload, 1) := by decide +kernel
theorem dL_law_894 : decode cL_law 894 = .ok (.invokevirtual 120, 3) := by decide +kernel
theorem dL_law_897 : decode cL_law 897 = .ok (.aload_n 2, 1) := by decide +kernel
theorem dL_law_898 : decode cL_law 898 = .ok (.aload_n 0, 1) := by decide +kernel
theorem dL_law_899 : decode cL_law 899 = .ok (.iload_n 3, 1) := by decide +kernel
theorem dL_law_900 : decode cL_law 900 = .ok (.iconst 1, 1) := by decide +kernel
theorem dL_law_901 : decode cL_law 901 = .ok (.iadd, 1) := by decide +kernel
theorem dL_law_902 : decode cL_law 902 = .ok (.iaload, 1) := by decide +kernel
theorem dL_law_903 : decode cL_law 903 = .ok (.invokevirtual 123, 3) := by decide +kernel
theorem dL_law_906 : decode cL_law 906 = .ok (.if_icmp .eq 503, 3) := by decide +kernel
theorem dL_law_909 : decode cL_law 909 = .ok (.iconst 0, 1) := by decide +kernel
theorem dL_law_910 : decode cL_law 910 = .ok (.ireturn, 1) := by decide +kernel
theorem dL_law_911 : decode cL_law 911 = .ok (.aload_n 1, 1) := by decide +kernel
theorem dL_law_912 : decode cL_law 912 = .ok (.aload_n 0, 1) := by decide +kernel
theorem dL_law_913 : decode cL_law 913 = .ok (.iload_n 3, 1) := by decide +kernel
theorem dL_law_914 : decode cL_law 914 = .ok (.iconst 1, 1) := by decide +kernel
theorem dL_law_915 : decode cL_law 915 = .ok (.iadd, 1) := by decide +kernel
theorem dL_law_916 : decode cL_law 916 = .ok (.iaload, 1) := by decide +kernel
theorem dL_law_917 : decode cL_law 917 = .ok (.aload_n 0, 1) := by decide +kernel
theorem dL_law_918 : decode cL_law 918 = .ok (.iload_n 3, 1) := by decide +kernel
theorem dL_law_919 : decode cL_law 919 = .ok (.iconst 2, 1) := by decide +kernel
theorem dL_law_920 : decode cL_law 920 = .ok (.iadd, 1) := by decide +kernel
theorem dL_law_921 : decode cL_law 921 = .ok (.iaload, 1) := by decide +kernel
theorem dL_law_922 : decode cL_law 922 = .ok (.invokevirtual 124, 3) := by decide +kernel
theorem dL_law_925 : decode cL_law 925 = .ok (.aload_n 2, 1) := by decide +kernel
theorem dL_law_926 : decode cL_law 926 = .ok (.aload_n 0, 1) := by decide +kernel
theorem dL_law_927 : decode cL_law 927 = .ok (.iload_n 3, 1) := by decide +kernel
theorem dL_law_928 : decode cL_law 928 = .ok (.iconst 1, 1) := by decide +kernel
theorem dL_law_929 : decode cL_law 929 = .ok (.iadd, 1) := by decide +kernel
theorem dL_law_930 : decode cL_law 930 = .ok (.iaload, 1) := by decide +kernel
theorem dL_law_931 : decode cL_law 931 = .ok (.aload_n 0, 1) := by decide +kernel
theorem dL_law_932 : decode cL_law 932 = .ok (.iload_n 3, 1) := by decide +kernel
theorem dL_law_933 : decode cL_law 933 = .ok (.iconst 2, 1) := by decide +kernel
theorem dL_law_934 : decode cL_law 934 = .ok (.iadd, 1) := by decide +kernel
theorem dL_law_935 : decode cL_law 935 = .ok (.iaload, 1) := by decide +kernel
theorem dL_law_936 : decode cL_law 936 = .ok (.invokevirtual 127, 3) := by decide +kernel
theorem dL_law_939 : decode cL_law 939 = .ok (.if_icmp .eq 470, 3) := by decide +kernel
theorem dL_law_942 : decode cL_law 942 = .ok (.iconst 0, 1) := by decide +kernel
theorem dL_law_943 : decode cL_law 943 = .ok (.ireturn, 1) := by decide +kernel
theorem dL_law_944 : decode cL_law 944 = .ok (.aload_n 1, 1) := by decide +kernel
theorem dL_law_945 : decode cL_law 945 = .ok (.aload_n 0, 1) := by decide +kernel
theorem dL_law_946 : decode cL_law 946 = .ok (.iload_n 3, 1) := by decide +kernel
theorem dL_law_947 : decode cL_law 947 = .ok (.iconst 1, 1) := by decide +kernel
theorem dL_law_948 : decode cL_law 948 = .ok (.iadd, 1) := by decide +kernel
theorem dL_law_949 : decode cL_law 949 = .ok (.iaload, 1) := by decide +kernel
theorem dL_law_950 : decode cL_law 950 = .ok (.aload_n 0, 1) := by decide +kernel
theorem dL_law_951 : decode cL_law 951 = .ok (.iload_n 3, 1) := by decide +kernel
theorem dL_law_952 : decode cL_law 952 = .ok (.iconst 2, 1) := by decide +kernel
theorem dL_law_953 : decode cL_law 953 = .ok (.iadd, 1) := by decide +kernel
theorem dL_law_954 : decode cL_law 954 = .ok (.iaload, 1) := by decide +kernel
theorem dL_law_955 : decode cL_law 955 = .ok (.aload_n 0, 1) := by decide +kernel
theorem dL_law_956 : decode cL_law 956 = .ok (.iload_n 3, 1) := by decide +kernel
theorem dL_law_957 : decode cL_law 957 = .ok (.iconst 3, 1) := by decide +kernel
theorem dL_law_958 : decode cL_law 958 = .ok (.iadd, 1) := by decide +kernel
theorem dL_law_959 : decode cL_law 959 = .ok (.iaload, 1) := by decide +kernel
theorem dL_law_960 : decode cL_law 960 = .ok (.aload_n 0, 1) := by decide +kernel
theorem dL_law_961 : decode cL_law 961 = .ok (.iload_n 3, 1) := by decide +kernel
theorem dL_law_962 : decode cL_law 962 = .ok (.iconst 4, 1) := by decide +kernel
theorem dL_law_963 : decode cL_law 963 = .ok (.iadd, 1) := by decide +kernel
theorem dL_law_964 : decode cL_law 964 = .ok (.iaload, 1) := by decide +kernel
theorem dL_law_965 : decode cL_law 965 = .ok (.invokevirtual 128, 3) := by decide +kernel
theorem dL_law_968 : decode cL_law 968 = .ok (.aload_n 2, 1) := by decide +kernel
theorem dL_law_969 : decode cL_law 969 = .ok (.aload_n 0, 1) := by decide +kernel
theorem dL_law_970 : decode cL_law 970 = .ok (.iload_n 3, 1) := by decide +kernel
theorem dL_law_971 : decode cL_law 971 = .ok (.iconst 1, 1) := by decide +kernel
theorem dL_law_972 : decode cL_law 972 = .ok (.iadd, 1) := by decide +kernel
theorem dL_law_973 : decode cL_law 973 = .ok (.iaload, 1) := by decide +kernel
theorem dL_law_974 : decode cL_law 974 = .ok (.aload_n 0, 1) := by decide +kernel
theorem dL_law_975 : decode cL_law 975 = .ok (.iload_n 3, 1) := by decide +kernel
theorem dL_law_976 : decode cL_law 976 = .ok (.iconst 2, 1) := by decide +kernel
theorem dL_law_977 : decode cL_law 977 = .ok (.iadd, 1) := by decide +kernel
theorem dL_law_978 : decode cL_law 978 = .ok (.iaload, 1) := by decide +kernel
theorem dL_law_979 : decode cL_law 979 = .ok (.aload_n 0, 1) := by decide +kernel
theorem dL_law_980 : decode cL_law 980 = .ok (.iload_n 3, 1) := by decide +kernel
theorem dL_law_981 : decode cL_law 981 = .ok (.iconst 3, 1) := by decide +kernel
theorem dL_law_982 : decode cL_law 982 = .ok (.iadd, 1) := by decide +kernel
theorem dL_law_983 : decode cL_law 983 = .ok (.iaload, 1) := by decide +kernel
theorem dL_law_984 : decode cL_law 984 = .ok (.aload_n 0, 1) := by decide +kernel
theorem dL_law_985 : decode cL_law 985 = .ok (.iload_n 3, 1) := by decide +kernel
theorem dL_law_986 : decode cL_law 986 = .ok (.iconst 4, 1) := by decide +kernel
theorem dL_law_987 : decode cL_law 987 = .ok (.iadd, 1) := by decide +kernel
theorem dL_law_988 : decode cL_law 988 = .ok (.iaload, 1) := by decide +kernel
theorem dL_law_989 : decode cL_law 989 = .ok (.invokevirtual 132, 3) := by decide +kernel
theorem dL_law_992 : decode cL_law 992 = .ok (.if_icmp .eq 417, 3) := by decide +kernel
theorem dL_law_995 : decode cL_law 995 = .ok (.iconst 0, 1) := by decide +kernel
theorem dL_law_996 : decode cL_law 996 = .ok (.ireturn, 1) := by decide +kernel
theorem dL_law_997 : decode cL_law 997 = .ok (.aload_n 1, 1) := by decide +kernel
theorem dL_law_998 : decode cL_law 998 = .ok (.aload_n 0, 1) := by decide +kernel
theorem dL_law_999 : decode cL_law 999 = .ok (.iload_n 3, 1) := by decide +kernel
theorem dL_law_1000 : decode cL_law 1000 = .ok (.iconst 1, 1) := by decide +kernel
theorem dL_law_1001 : decode cL_law 1001 = .ok (.iadd, 1) := by decide +kernel
theorem dL_law_1002 : decode cL_law 1002 = .ok (.iaload, 1) := by decide +kernel
theorem dL_law_1003 : decode cL_law 1003 = .ok (.aload_n 0, 1) := by decide +kernel
theorem dL_law_1004 : decode cL_law 1004 = .ok (.iload_n 3, 1) := by decide +kernel
theorem dL_law_1005 : decode cL_law 1005 = .ok (.iconst 2, 1) := by decide +kernel
theorem dL_law_1006 : decode cL_law 1006 = .ok (.iadd, 1) := by decide +kernel
theorem dL_law_1007 : decode cL_law 1007 = .ok (.iaload, 1) := by decide +kernel
theorem dL_law_1008 : decode cL_law 1008 = .ok (.aload_n 0, 1) := by decide +kernel
theorem dL_law_1009 : decode cL_law 1009 = .ok (.iload_n 3, 1) := by decide +kernel
theorem dL_law_1010 : decode cL_law 1010 = .ok (.iconst 3, 1) := by decide +kernel
theorem dL_law_1011 : decode cL_law 1011 = .ok (.iadd, 1) := by decide +kernel
theorem dL_law_1012 : decode cL_law 1012 = .ok (.iaload, 1) := by decide +kernel
theorem dL_law_1013 : decode cL_law 1013 = .ok (.invokevirtual 133, 3) := by decide +kernel
theorem dL_law_1016 : decode cL_law 1016 = .ok (.aload_n 2, 1) := by decide +kernel
theorem dL_law_1017 : decode cL_law 1017 = .ok (.aload_n 0, 1) := by decide +kernel
theorem dL_law_1018 : decode cL_law 1018 = .ok (.iload_n 3, 1) := by decide +kernel
theorem dL_law_1019 : decode cL_law 1019 = .ok (.iconst 1, 1) := by decide +kernel
theorem dL_law_1020 : decode cL_law 1020 = .ok (.iadd, 1) := by decide +kernel
theorem dL_law_1021 : decode cL_law 1021 = .ok (.iaload, 1) := by decide +kernel
theorem dL_law_1022 : decode cL_law 1022 = .ok (.aload_n 0, 1) := by decide +kernel
theorem dL_law_1023 : decode cL_law 1023 = .ok (.iload_n 3, 1) := by decide +kernel
theorem dL_law_1024 : decode cL_law 1024 = .ok (.iconst 2, 1) := by decide +kernel
theorem dL_law_1025 : decode cL_law 1025 = .ok (.iadd, 1) := by decide +kernel
theorem dL_law_1026 : decode cL_law 1026 = .ok (.iaload, 1) := by decide +kernel
theorem dL_law_1027 : decode cL_law 1027 = .ok (.aload_n 0, 1) := by decide +kernel
theorem dL_law_1028 : decode cL_law 1028 = .ok (.iload_n 3, 1) := by decide +kernel
theorem dL_law_1029 : decode cL_law 1029 = .ok (.iconst 3, 1) := by decide +kernel
theorem dL_law_1030 : decode cL_law 1030 = .ok (.iadd, 1) := by decide +kernel
theorem dL_law_1031 : decode cL_law 1031 = .ok (.iaload, 1) := by decide +kernel
theorem dL_law_1032 : decode cL_law 1032 = .ok (.invokevirtual 137, 3) := by decide +kernel
theorem dL_law_1035 : decode cL_law 1035 = .ok (.if_icmp .eq 374, 3) := by decide +kernel
theorem dL_law_1038 : decode cL_law 1038 = .ok (.iconst 0, 1) := by decide +kernel
theorem dL_law_1039 : decode cL_law 1039 = .ok (.ireturn, 1) := by decide +kernel
theorem dL_law_1040 : decode cL_law 1040 = .ok (.aload_n 1, 1) := by decide +kernel
theorem dL_law_1041 : decode cL_law 1041 = .ok (.aload_n 0, 1) := by decide +kernel
theorem dL_law_1042 : decode cL_law 1042 = .ok (.iload_n 3, 1) := by decide +kernel
theorem dL_law_1043 : decode cL_law 1043 = .ok (.iconst 1, 1) := by decide +kernel
theorem dL_law_1044 : decode cL_law 1044 = .ok (.iadd, 1) := by decide +kernel
theorem dL_law_1045 : decode cL_law 1045 = .ok (.iaload, 1) := by decide +kernel
theorem dL_law_1046 : decode cL_law 1046 = .ok (.invokevirtual 138, 3) := by decide +kernel
theorem dL_law_1049 : decode cL_law 1049 = .ok (.aload_n 2, 1) := by decide +kernel
theorem dL_law_1050 : decode cL_law 1050 = .ok (.aload_n 0, 1) := by decide +kernel
theorem dL_law_1051 : decode cL_law 1051 = .ok (.iload_n 3, 1) := by decide +kernel
theorem dL_law_1052 : decode cL_law 1052 = .ok (.iconst 1, 1) := by decide +kernel
theorem dL_law_1053 : decode cL_law 1053 = .ok (.iadd, 1) := by decide +kernel
theorem dL_law_1054 : decode cL_law 1054 = .ok (.iaload, 1) := by decide +kernel
theorem dL_law_1055 : decode cL_law 1055 = .ok (.invokevirtual 141, 3) := by decide +kernel
theorem dL_law_1058 : decode cL_law 1058 = .ok (.if_icmp .eq 351, 3) := by decide +kernel
theorem dL_law_1061 : decode cL_law 1061 = .ok (.iconst 0, 1) := by decide +kernel
theorem dL_law_1062 : decode cL_law 1062 = .ok (.ireturn, 1) := by decide +kernel
theorem dL_law_1063 : decode cL_law 1063 = .ok (.aload_n 1, 1) := by decide +kernel
theorem dL_law_1064 : decode cL_law 1064 = .ok (.aload_n 0, 1) := by decide +kernel
theorem dL_law_1065 : decode cL_law 1065 = .ok (.iload_n 3, 1) := by decide +kernel
theorem dL_law_1066 : decode cL_law 1066 = .ok (.iconst 1, 1) := by decide +kernel
theorem dL_law_1067 : decode cL_law 1067 = .ok (.iadd, 1) := by decide +kernel
theorem dL_law_1068 : decode cL_law 1068 = .ok (.iaload, 1) := by decide +kernel
theorem dL_law_1069 : decode cL_law 1069 = .ok (.aload_n 0, 1) := by decide +kernel
theorem dL_law_1070 : decode cL_law 1070 = .ok (.iload_n 3, 1) := by decide +kernel
theorem dL_law_1071 : decode cL_law 1071 = .ok (.iconst 2, 1) := by decide +kernel
theorem dL_law_1072 : decode cL_law 1072 = .ok (.iadd, 1) := by decide +kernel
theorem dL_law_1073 : decode cL_law 1073 = .ok (.iaload, 1) := by decide +kernel
theorem dL_law_1074 : decode cL_law 1074 = .ok (.invokevirtual 142, 3) := by decide +kernel
theorem dL_law_1077 : decode cL_law 1077 = .ok (.aload_n 2, 1) := by decide +kernel
theorem dL_law_1078 : decode cL_law 1078 = .ok (.aload_n 0, 1) := by decide +kernel
theorem dL_law_1079 : decode cL_law 1079 = .ok (.iload_n 3, 1) := by decide +kernel
theorem dL_law_1080 : decode cL_law 1080 = .ok (.iconst 1, 1) := by decide +kernel
theorem dL_law_1081 : decode cL_law 1081 = .ok (.iadd, 1) := by decide +kernel
theorem dL_law_1082 : decode cL_law 1082 = .ok (.iaload, 1) := by decide +kernel
theorem dL_law_1083 : decode cL_law 1083 = .ok (.aload_n 0, 1) := by decide +kernel
theorem dL_law_1084 : decode cL_law 1084 = .ok (.iload_n 3, 1) := by decide +kernel
theorem dL_law_1085 : decode cL_law 1085 = .ok (.iconst 2, 1) := by decide +kernel
theorem dL_law_1086 : decode cL_law 1086 = .ok (.iadd, 1) := by decide +kernel
theorem dL_law_1087 : decode cL_law 1087 = .ok (.iaload, 1) := by decide +kernel
theorem dL_law_1088 : decode cL_law 1088 = .ok (.invokevirtual 145, 3) := by decide +kernel
theorem dL_law_1091 : decode cL_law 1091 = .ok (.if_icmp .eq 318, 3) := by decide +kernel
theorem dL_law_1094 : decode cL_law 1094 = .ok (.iconst 0, 1) := by decide +kernel
theorem dL_law_1095 : decode cL_law 1095 = .ok (.ireturn, 1) := by decide +kernel
theorem dL_law_1096 : decode cL_law 1096 = .ok (.aload_n 1, 1) := by decide +kernel
theorem dL_law_1097 : decode cL_law 1097 = .ok (.aload_n 0, 1) := by decide +kernel
theorem dL_law_1098 : decode cL_law 1098 = .ok (.iload_n 3, 1) := by decide +kernel
theorem dL_law_1099 : decode cL_law 1099 = .ok (.iconst 1, 1) := by decide +kernel
theorem dL_law_1100 : decode cL_law 1100 = .ok (.iadd, 1) := by decide +kernel
theorem dL_law_1101 : decode cL_law 1101 = .ok (.iaload, 1) := by decide +kernel
theorem dL_law_1102 : decode cL_law 1102 = .ok (.aload_n 0, 1) := by decide +kernel
theorem dL_law_1103 : decode cL_law 1103 = .ok (.iload_n 3, 1) := by decide +kernel
theorem dL_law_1104 : decode cL_law 1104 = .ok (.iconst 2, 1) := by decide +kernel
theorem dL_law_1105 : decode cL_law 1105 = .ok (.iadd, 1) := by decide +kernel
theorem dL_law_1106 : decode cL_law 1106 = .ok (.iaload, 1) := by decide +kernel
theorem dL_law_1107 : decode cL_law 1107 = .ok (.invokevirtual 146, 3) := by decide +kernel
theorem dL_law_1110 : decode cL_law 1110 = .ok (.aload_n 2, 1) := by decide +kernel
theorem dL_law_1111 : decode cL_law 1111 = .ok (.aload_n 0, 1) := by decide +kernel
theorem dL_law_1112 : decode cL_law 1112 = .ok (.iload_n 3, 1) := by decide +kernel
theorem dL_law_1113 : decode cL_law 1113 = .ok (.iconst 1, 1) := by decide +kernel
theorem dL_law_1114 : decode cL_law 1114 = .ok (.iadd, 1) := by decide +kernel
theorem dL_law_1115 : decode cL_law 1115 = .ok (.iaload, 1) := by decide +kernel
theorem dL_law_1116 : decode cL_law 1116 = .ok (.aload_n 0, 1) := by decide +kernel
theorem dL_law_1117 : decode cL_law 1117 = .ok (.iload_n 3, 1) := by decide +kernel
theorem dL_law_1118 : decode cL_law 1118 = .ok (.iconst 2, 1) := by decide +kernel
theorem dL_law_1119 : decode cL_law 1119 = .ok (.iadd, 1) := by decide +kernel
theorem dL_law_1120 : decode cL_law 1120 = .ok (.iaload, 1) := by decide +kernel
theorem dL_law_1121 : decode cL_law 1121 = .ok (.invokevirtual 149, 3) := by decide +kernel
theorem dL_law_1124 : decode cL_law 1124 = .ok (.if_icmp .eq 285, 3) := by decide +kernel
theorem dL_law_1127 : decode cL_law 1127 = .ok (.iconst 0, 1) := by decide +kernel
theorem dL_law_1128 : decode cL_law 1128 = .ok (.ireturn, 1) := by decide +kernel
theorem dL_law_1129 : decode cL_law 1129 = .ok (.aload_n 1, 1) := by decide +kernel
theorem dL_law_1130 : decode cL_law 1130 = .ok (.aload_n 0, 1) := by decide +kernel
theorem dL_law_1131 : decode cL_law 1131 = .ok (.iload_n 3, 1) := by decide +kernel
theorem dL_law_1132 : decode cL_law 1132 = .ok (.iconst 1, 1) := by decide +kernel
theorem dL_law_1133 : decode cL_law 1133 = .ok (.iadd, 1) := by decide +kernel
theorem dL_law_1134 : decode cL_law 1134 = .ok (.iaload, 1) := by decide +kernel
theorem dL_law_1135 : decode cL_law 1135 = .ok (.aload_n 0, 1) := by decide +kernel
theorem dL_law_1136 : decode cL_law 1136 = .ok (.iload_n 3, 1) := by decide +kernel
theorem dL_law_1137 : decode cL_law 1137 = .ok (.iconst 2, 1) := by decide +kernel
theorem dL_law_1138 : decode cL_law 1138 = .ok (.iadd, 1) := by decide +kernel
theorem dL_law_1139 : decode cL_law 1139 = .ok (.iaload, 1) := by decide +kernel
theorem dL_law_1140 : decode cL_law 1140 = .ok (.aload_n 0, 1) := by decide +kernel
theorem dL_law_1141 : decode cL_law 1141 = .ok (.iload_n 3, 1) := by decide +kernel
theorem dL_law_1142 : decode cL_law 1142 = .ok (.iconst 3, 1) := by decide +kernel
theorem dL_law_1143 : decode cL_law 1143 = .ok (.iadd, 1) := by decide +kernel
theorem dL_law_1144 : decode cL_law 1144 = .ok (.iaload, 1) := by decide +kernel
theorem dL_law_1145 : decode cL_law 1145 = .ok (.invokevirtual 150, 3) := by decide +kernel
theorem dL_law_1148 : decode cL_law 1148 = .ok (.aload_n 2, 1) := by decide +kernel
theorem dL_law_1149 : decode cL_law 1149 = .ok (.aload_n 0, 1) := by decide +kernel
theorem dL_law_1150 : decode cL_law 1150 = .ok (.iload_n 3, 1) := by decide +kernel
theorem dL_law_1151 : decode cL_law 1151 = .ok (.iconst 1, 1) := by decide +kernel
theorem dL_law_1152 : decode cL_law 1152 = .ok (.iadd, 1) := by decide +kernel
theorem dL_law_1153 : decode cL_law 1153 = .ok (.iaload, 1) := by decide +kernel
theorem dL_law_1154 : decode cL_law 1154 = .ok (.aload_n 0, 1) := by decide +kernel
theorem dL_law_1155 : decode cL_law 1155 = .ok (.iload_n 3, 1) := by decide +kernel
theorem dL_law_1156 : decode cL_law 1156 = .ok (.iconst 2, 1) := by decide +kernel
theorem dL_law_1157 : decode cL_law 1157 = .ok (.iadd, 1) := by decide +kernel
theorem dL_law_1158 : decode cL_law 1158 = .ok (.iaload, 1) := by decide +kernel
theorem dL_law_1159 : decode cL_law 1159 = .ok (.aload_n 0, 1) := by decide +kernel
theorem dL_law_1160 : decode cL_law 1160 = .ok (.iload_n 3, 1) := by decide +kernel
theorem dL_law_1161 : decode cL_law 1161 = .ok (.iconst 3, 1) := by decide +kernel
theorem dL_law_1162 : decode cL_law 1162 = .ok (.iadd, 1) := by decide +kernel
theorem dL_law_1163 : decode cL_law 1163 = .ok (.iaload, 1) := by decide +kernel
theorem dL_law_1164 : decode cL_law 1164 = .ok (.invokevirtual 153, 3) := by decide +kernel
theorem dL_law_1167 : decode cL_law 1167 = .ok (.if_icmp .eq 242, 3) := by decide +kernel
theorem dL_law_1170 : decode cL_law 1170 = .ok (.iconst 0, 1) := by decide +kernel
theorem dL_law_1171 : decode cL_law 1171 = .ok (.ireturn, 1) := by decide +kernel
theorem dL_law_1172 : decode cL_law 1172 = .ok (.aload_n 1, 1) := by decide +kernel
theorem dL_law_1173 : decode cL_law 1173 = .ok (.aload_n 0, 1) := by decide +kernel
theorem dL_law_1174 : decode cL_law 1174 = .ok (.iload_n 3, 1) := by decide +kernel
theorem dL_law_1175 : decode cL_law 1175 = .ok (.iconst 1, 1) := by decide +kernel
theorem dL_law_1176 : decode cL_law 1176 = .ok (.iadd, 1) := by decide +kernel
theorem dL_law_1177 : decode cL_law 1177 = .ok (.iaload, 1) := by decide +kernel
theorem dL_law_1178 : decode cL_law 1178 = .ok (.aload_n 0, 1) := by decide +kernel
theorem dL_law_1179 : decode cL_law 1179 = .ok (.iload_n 3, 1) := by decide +kernel
theorem dL_law_1180 : decode cL_law 1180 = .ok (.iconst 2, 1) := by decide +kernel
theorem dL_law_1181 : decode cL_law 1181 = .ok (.iadd, 1) := by decide +kernel
theorem dL_law_1182 : decode cL_law 1182 = .ok (.iaload, 1) := by decide +kernel
theorem dL_law_1183 : decode cL_law 1183 = .ok (.aload_n 0, 1) := by decide +kernel
theorem dL_law_1184 : decode cL_law 1184 = .ok (.iload_n 3, 1) := by decide +kernel
theorem dL_law_1185 : decode cL_law 1185 = .ok (.iconst 3, 1) := by decide +kernel
theorem dL_law_1186 : decode cL_law 1186 = .ok (.iadd, 1) := by decide +kernel
theorem dL_law_1187 : decode cL_law 1187 = .ok (.iaload, 1) := by decide +kernel
theorem dL_law_1188 : decode cL_law 1188 = .ok (.invokevirtual 154, 3) := by decide +kernel
theorem dL_law_1191 : decode cL_law 1191 = .ok (.aload_n 2, 1) := by decide +kernel
theorem dL_law_1192 : decode cL_law 1192 = .ok (.aload_n 0, 1) := by decide +kernel
theorem dL_law_1193 : decode cL_law 1193 = .ok (.iload_n 3, 1) := by decide +kernel
theorem dL_law_1194 : decode cL_law 1194 = .ok (.iconst 1, 1) := by decide +kernel
theorem dL_law_1195 : decode cL_law 1195 = .ok (.iadd, 1) := by decide +kernel
theorem dL_law_1196 : decode cL_law 1196 = .ok (.iaload, 1) := by decide +kernel
theorem dL_law_1197 : decode cL_law 1197 = .ok (.aload_n 0, 1) := by decide +kernel
theorem dL_law_1198 : decode cL_law 1198 = .ok (.iload_n 3, 1) := by decide +kernel
theorem dL_law_1199 : decode cL_law 1199 = .ok (.iconst 2, 1) := by decide +kernel
theorem dL_law_1200 : decode cL_law 1200 = .ok (.iadd, 1) := by decide +kernel
theorem dL_law_1201 : decode cL_law 1201 = .ok (.iaload, 1) := by decide +kernel
theorem dL_law_1202 : decode cL_law 1202 = .ok (.aload_n 0, 1) := by decide +kernel
theorem dL_law_1203 : decode cL_law 1203 = .ok (.iload_n 3, 1) := by decide +kernel
theorem dL_law_1204 : decode cL_law 1204 = .ok (.iconst 3, 1) := by decide +kernel
theorem dL_law_1205 : decode cL_law 1205 = .ok (.iadd, 1) := by decide +kernel
theorem dL_law_1206 : decode cL_law 1206 = .ok (.iaload, 1) := by decide +kernel
theorem dL_law_1207 : decode cL_law 1207 = .ok (.invokevirtual 157, 3) := by decide +kernel
theorem dL_law_1210 : decode cL_law 1210 = .ok (.if_icmp .eq 199, 3) := by decide +kernel
theorem dL_law_1213 : decode cL_law 1213 = .ok (.iconst 0, 1) := by decide +kernel
theorem dL_law_1214 : decode cL_law 1214 = .ok (.ireturn, 1) := by decide +kernel
theorem dL_law_1215 : decode cL_law 1215 = .ok (.aload_n 1, 1) := by decide +kernel
theorem dL_law_1216 : decode cL_law 1216 = .ok (.aload_n 0, 1) := by decide +kernel
theorem dL_law_1217 : decode cL_law 1217 = .ok (.iload_n 3, 1) := by decide +kernel
theorem dL_law_1218 : decode cL_law 1218 = .ok (.iconst 1, 1) := by decide +kernel
theorem dL_law_1219 : decode cL_law 1219 = .ok (.iadd, 1) := by decide +kernel
theorem dL_law_1220 : decode cL_law 1220 = .ok (.iaload, 1) := by decide +kernel
end
section
/-! decode rows 3 -/
theorem dL_law_1221 : decode cL_law 1221 = .ok (.aload_n 0, 1) := by decide +kernel
theorem dL_law_1222 : decode cL_law 1222 = .ok (.iload_n 3, 1) := by decide +kernel
theorem dL_law_1223 : decode cL_law 1223 = .ok (.iconst 2, 1) := by decide +kernel
theorem dL_law_1224 : decode cL_law 1224 = .ok (.iadd, 1) := by decide +kernel
theorem dL_law_1225 : decode cL_law 1225 = .ok (.iaload, 1) := by decide +kernel
theorem dL_law_1226 : decode cL_law 1226 = .ok (.aload_n 0, 1) := by decide +kernel
theorem dL_law_1227 : decode cL_law 1227 = .ok (.iload_n 3, 1) := by decide +kernel
theorem dL_law_1228 : decode cL_law 1228 = .ok (.iconst 3, 1) := by decide +kernel
theorem dL_law_1229 : decode cL_law 1229 = .ok (.iadd, 1) := by decide +kernel
theorem dL_law_1230 : decode cL_law 1230 = .ok (.iaload, 1) := by decide +kernel
theorem dL_law_1231 : decode cL_law 1231 = .ok (.aload_n 0, 1) := by decide +kernel
theorem dL_law_1232 : decode cL_law 1232 = .ok (.iload_n 3, 1) := by decide +kernel
theorem dL_law_1233 : decode cL_law 1233 = .ok (.iconst 4, 1) := by decide +kernel
theorem dL_law_1234 : decode cL_law 1234 = .ok (.iadd, 1) := by decide +kernel
theorem dL_law_1235 : decode cL_law 1235 = .ok (.iaload, 1) := by decide +kernel
theorem dL_law_1236 : decode cL_law 1236 = .ok (.aload_n 0, 1) := by decide +kernel
theorem dL_law_1237 : decode cL_law 1237 = .ok (.iload_n 3, 1) := by decide +kernel
theorem dL_law_1238 : decode cL_law 1238 = .ok (.iconst 5, 1) := by decide +kernel
theorem dL_law_1239 : decode cL_law 1239 = .ok (.iadd, 1) := by decide +kernel
theorem dL_law_1240 : decode cL_law 1240 = .ok (.iaload, 1) := by decide +kernel
theorem dL_law_1241 : decode cL_law 1241 = .ok (.invokevirtual 158, 3) := by decide +kernel
theorem dL_law_1244 : decode cL_law 1244 = .ok (.aload_n 2, 1) := by decide +kernel
theorem dL_law_1245 : decode cL_law 1245 = .ok (.aload_n 0, 1) := by decide +kernel
theorem dL_law_1246 : decode cL_law 1246 = .ok (.iload_n 3, 1) := by decide +kernel
theorem dL_law_1247 : decode cL_law 1247 = .ok (.iconst 1, 1) := by decide +kernel
theorem dL_law_1248 : decode cL_law 1248 = .ok (.iadd, 1) := by decide +kernel
theorem dL_law_1249 : decode cL_law 1249 = .ok (.iaload, 1) := by decide +kernel
theorem dL_law_1250 : decode cL_law 1250 = .ok (.aload_n 0, 1) := by decide +kernel
theorem dL_law_1251 : decode cL_law 1251 = .ok (.iload_n 3, 1) := by decide +kernel
theorem dL_law_1252 : decode cL_law 1252 = .ok (.iconst 2, 1) := by decide +kernel
theorem dL_law_1253 : decode cL_law 1253 = .ok (.iadd, 1) := by decide +kernel
theorem dL_law_1254 : decode cL_law 1254 = .ok (.iaload, 1) := by decide +kernel
theorem dL_law_1255 : decode cL_law 1255 = .ok (.aload_n 0, 1) := by decide +kernel
theorem dL_law_1256 : decode cL_law 1256 = .ok (.iload_n 3, 1) := by decide +kernel
theorem dL_law_1257 : decode cL_law 1257 = .ok (.iconst 3, 1) := by decide +kernel
theorem dL_law_1258 : decode cL_law 1258 = .ok (.iadd, 1) := by decide +kernel
theorem dL_law_1259 : decode cL_law 1259 = .ok (.iaload, 1) := by decide +kernel
theorem dL_law_1260 : decode cL_law 1260 = .ok (.aload_n 0, 1) := by decide +kernel
theorem dL_law_1261 : decode cL_law 1261 = .ok (.iload_n 3, 1) := by decide +kernel
theorem dL_law_1262 : decode cL_law 1262 = .ok (.iconst 4, 1) := by decide +kernel
theorem dL_law_1263 : decode cL_law 1263 = .ok (.iadd, 1) := by decide +kernel
theorem dL_law_1264 : decode cL_law 1264 = .ok (.iaload, 1) := by decide +kernel
theorem dL_law_1265 : decode cL_law 1265 = .ok (.aload_n 0, 1) := by decide +kernel
theorem dL_law_1266 : decode cL_law 1266 = .ok (.iload_n 3, 1) := by decide +kernel
theorem dL_law_1267 : decode cL_law 1267 = .ok (.iconst 5, 1) := by decide +kernel
theorem dL_law_1268 : decode cL_law 1268 = .ok (.iadd, 1) := by decide +kernel
theorem dL_law_1269 : decode cL_law 1269 = .ok (.iaload, 1) := by decide +kernel
theorem dL_law_1270 : decode cL_law 1270 = .ok (.invokevirtual 162, 3) := by decide +kernel
theorem dL_law_1273 : decode cL_law 1273 = .ok (.if_icmp .eq 136, 3) := by decide +kernel
theorem dL_law_1276 : decode cL_law 1276 = .ok (.iconst 0, 1) := by decide +kernel
theorem dL_law_1277 : decode cL_law 1277 = .ok (.ireturn, 1) := by decide +kernel
theorem dL_law_1278 : decode cL_law 1278 = .ok (.aload_n 1, 1) := by decide +kernel
theorem dL_law_1279 : decode cL_law 1279 = .ok (.aload_n 0, 1) := by decide +kernel
theorem dL_law_1280 : decode cL_law 1280 = .ok (.iload_n 3, 1) := by decide +kernel
theorem dL_law_1281 : decode cL_law 1281 = .ok (.iconst 1, 1) := by decide +kernel
theorem dL_law_1282 : decode cL_law 1282 = .ok (.iadd, 1) := by decide +kernel
theorem dL_law_1283 : decode cL_law 1283 = .ok (.iaload, 1) := by decide +kernel
theorem dL_law_1284 : decode cL_law 1284 = .ok (.invokevirtual 163, 3) := by decide +kernel
theorem dL_law_1287 : decode cL_law 1287 = .ok (.aload_n 2, 1) := by decide +kernel
theorem dL_law_1288 : decode cL_law 1288 = .ok (.aload_n 0, 1) := by decide +kernel
theorem dL_law_1289 : decode cL_law 1289 = .ok (.iload_n 3, 1) := by decide +kernel
theorem dL_law_1290 : decode cL_law 1290 = .ok (.iconst 1, 1) := by decide +kernel
theorem dL_law_1291 : decode cL_law 1291 = .ok (.iadd, 1) := by decide +kernel
theorem dL_law_1292 : decode cL_law 1292 = .ok (.iaload, 1) := by decide +kernel
theorem dL_law_1293 : decode cL_law 1293 = .ok (.invokevirtual 166, 3) := by decide +kernel
theorem dL_law_1296 : decode cL_law 1296 = .ok (.if_icmp .eq 113, 3) := by decide +kernel
theorem dL_law_1299 : decode cL_law 1299 = .ok (.iconst 0, 1) := by decide +kernel
theorem dL_law_1300 : decode cL_law 1300 = .ok (.ireturn, 1) := by decide +kernel
theorem dL_law_1301 : decode cL_law 1301 = .ok (.aload_n 1, 1) := by decide +kernel
theorem dL_law_1302 : decode cL_law 1302 = .ok (.aload_n 0, 1) := by decide +kernel
theorem dL_law_1303 : decode cL_law 1303 = .ok (.iload_n 3, 1) := by decide +kernel
theorem dL_law_1304 : decode cL_law 1304 = .ok (.iconst 1, 1) := by decide +kernel
theorem dL_law_1305 : decode cL_law 1305 = .ok (.iadd, 1) := by decide +kernel
theorem dL_law_1306 : decode cL_law 1306 = .ok (.iaload, 1) := by decide +kernel
theorem dL_law_1307 : decode cL_law 1307 = .ok (.invokevirtual 167, 3) := by decide +kernel
theorem dL_law_1310 : decode cL_law 1310 = .ok (.aload_n 2, 1) := by decide +kernel
theorem dL_law_1311 : decode cL_law 1311 = .ok (.aload_n 0, 1) := by decide +kernel
theorem dL_law_1312 : decode cL_law 1312 = .ok (.iload_n 3, 1) := by decide +kernel
theorem dL_law_1313 : decode cL_law 1313 = .ok (.iconst 1, 1) := by decide +kernel
theorem dL_law_1314 : decode cL_law 1314 = .ok (.iadd, 1) := by decide +kernel
theorem dL_law_1315 : decode cL_law 1315 = .ok (.iaload, 1) := by decide +kernel
theorem dL_law_1316 : decode cL_law 1316 = .ok (.invokevirtual 170, 3) := by decide +kernel
theorem dL_law_1319 : decode cL_law 1319 = .ok (.if_icmp .eq 90, 3) := by decide +kernel
theorem dL_law_1322 : decode cL_law 1322 = .ok (.iconst 0, 1) := by decide +kernel
theorem dL_law_1323 : decode cL_law 1323 = .ok (.ireturn, 1) := by decide +kernel
theorem dL_law_1324 : decode cL_law 1324 = .ok (.aload_n 1, 1) := by decide +kernel
theorem dL_law_1325 : decode cL_law 1325 = .ok (.invokevirtual 171, 3) := by decide +kernel
theorem dL_law_1328 : decode cL_law 1328 = .ok (.aload_n 2, 1) := by decide +kernel
theorem dL_law_1329 : decode cL_law 1329 = .ok (.invokevirtual 174, 3) := by decide +kernel
theorem dL_law_1332 : decode cL_law 1332 = .ok (.if_icmp .eq 77, 3) := by decide +kernel
theorem dL_law_1335 : decode cL_law 1335 = .ok (.iconst 0, 1) := by decide +kernel
theorem dL_law_1336 : decode cL_law 1336 = .ok (.ireturn, 1) := by decide +kernel
theorem dL_law_1337 : decode cL_law 1337 = .ok (.aload_n 1, 1) := by decide +kernel
theorem dL_law_1338 : decode cL_law 1338 = .ok (.invokevirtual 175, 3) := by decide +kernel
theorem dL_law_1341 : decode cL_law 1341 = .ok (.aload_n 2, 1) := by decide +kernel
theorem dL_law_1342 : decode cL_law 1342 = .ok (.invokevirtual 178, 3) := by decide +kernel
theorem dL_law_1345 : decode cL_law 1345 = .ok (.if_icmp .eq 64, 3) := by decide +kernel
theorem dL_law_1348 : decode cL_law 1348 = .ok (.iconst 0, 1) := by decide +kernel
theorem dL_law_1349 : decode cL_law 1349 = .ok (.ireturn, 1) := by decide +kernel
theorem dL_law_1350 : decode cL_law 1350 = .ok (.aload_n 1, 1) := by decide +kernel
theorem dL_law_1351 : decode cL_law 1351 = .ok (.invokevirtual 179, 3) := by decide +kernel
theorem dL_law_1354 : decode cL_law 1354 = .ok (.aload_n 2, 1) := by decide +kernel
theorem dL_law_1355 : decode cL_law 1355 = .ok (.invokevirtual 182, 3) := by decide +kernel
theorem dL_law_1358 : decode cL_law 1358 = .ok (.if_icmp .eq 51, 3) := by decide +kernel
theorem dL_law_1361 : decode cL_law 1361 = .ok (.iconst 0, 1) := by decide +kernel
theorem dL_law_1362 : decode cL_law 1362 = .ok (.ireturn, 1) := by decide +kernel
theorem dL_law_1363 : decode cL_law 1363 = .ok (.aload_n 1, 1) := by decide +kernel
theorem dL_law_1364 : decode cL_law 1364 = .ok (.aload_n 0, 1) := by decide +kernel
theorem dL_law_1365 : decode cL_law 1365 = .ok (.iload_n 3, 1) := by decide +kernel
theorem dL_law_1366 : decode cL_law 1366 = .ok (.iconst 1, 1) := by decide +kernel
theorem dL_law_1367 : decode cL_law 1367 = .ok (.iadd, 1) := by decide +kernel
theorem dL_law_1368 : decode cL_law 1368 = .ok (.iaload, 1) := by decide +kernel
theorem dL_law_1369 : decode cL_law 1369 = .ok (.invokevirtual 183, 3) := by decide +kernel
theorem dL_law_1372 : decode cL_law 1372 = .ok (.aload_n 2, 1) := by decide +kernel
theorem dL_law_1373 : decode cL_law 1373 = .ok (.aload_n 0, 1) := by decide +kernel
theorem dL_law_1374 : decode cL_law 1374 = .ok (.iload_n 3, 1) := by decide +kernel
theorem dL_law_1375 : decode cL_law 1375 = .ok (.iconst 1, 1) := by decide +kernel
theorem dL_law_1376 : decode cL_law 1376 = .ok (.iadd, 1) := by decide +kernel
theorem dL_law_1377 : decode cL_law 1377 = .ok (.iaload, 1) := by decide +kernel
theorem dL_law_1378 : decode cL_law 1378 = .ok (.invokevirtual 186, 3) := by decide +kernel
theorem dL_law_1381 : decode cL_law 1381 = .ok (.if_icmp .eq 28, 3) := by decide +kernel
theorem dL_law_1384 : decode cL_law 1384 = .ok (.iconst 0, 1) := by decide +kernel
theorem dL_law_1385 : decode cL_law 1385 = .ok (.ireturn, 1) := by decide +kernel
theorem dL_law_1386 : decode cL_law 1386 = .ok (.aload_n 1, 1) := by decide +kernel
theorem dL_law_1387 : decode cL_law 1387 = .ok (.aload_n 0, 1) := by decide +kernel
theorem dL_law_1388 : decode cL_law 1388 = .ok (.iload_n 3, 1) := by decide +kernel
theorem dL_law_1389 : decode cL_law 1389 = .ok (.iconst 1, 1) := by decide +kernel
theorem dL_law_1390 : decode cL_law 1390 = .ok (.iadd, 1) := by decide +kernel
theorem dL_law_1391 : decode cL_law 1391 = .ok (.iaload, 1) := by decide +kernel
theorem dL_law_1392 : decode cL_law 1392 = .ok (.invokevirtual 187, 3) := by decide +kernel
theorem dL_law_1395 : decode cL_law 1395 = .ok (.aload_n 2, 1) := by decide +kernel
theorem dL_law_1396 : decode cL_law 1396 = .ok (.aload_n 0, 1) := by decide +kernel
theorem dL_law_1397 : decode cL_law 1397 = .ok (.iload_n 3, 1) := by decide +kernel
theorem dL_law_1398 : decode cL_law 1398 = .ok (.iconst 1, 1) := by decide +kernel
theorem dL_law_1399 : decode cL_law 1399 = .ok (.iadd, 1) := by decide +kernel
theorem dL_law_1400 : decode cL_law 1400 = .ok (.iaload, 1) := by decide +kernel
theorem dL_law_1401 : decode cL_law 1401 = .ok (.invokevirtual 190, 3) := by decide +kernel
theorem dL_law_1404 : decode cL_law 1404 = .ok (.if_icmp .eq 5, 3) := by decide +kernel
theorem dL_law_1407 : decode cL_law 1407 = .ok (.iconst 0, 1) := by decide +kernel
theorem dL_law_1408 : decode cL_law 1408 = .ok (.ireturn, 1) := by decide +kernel
theorem dL_law_1409 : decode cL_law 1409 = .ok (.iinc 3 6, 3) := by decide +kernel
theorem dL_law_1412 : decode cL_law 1412 = .ok (.goto (-1394), 3) := by decide +kernel
theorem dL_law_1415 : decode cL_law 1415 = .ok (.iconst 1, 1) := by decide +kernel
theorem dL_law_1416 : decode cL_law 1416 = .ok (.ireturn, 1) := by decide +kernel
end
section
/-! THE WORLD: 94 cells, told by a table; ints in banks σ b i, longs τ a -/
abbrev xE : Type := va_G × (Nat → ClassId) × (Nat → Nat) × (Nat → Nat) × (Nat → Nat) × (Nat → Nat)
def xD (E : xE) : va_G := E.1
def xcA (E : xE) (k : Nat) : ClassId := E.2.1 k
def xad (E : xE) (k : Nat) : Nat := E.2.2.1 k
def xst (E : xE) (k : Nat) : Nat := E.2.2.2.1 k
def xsK (E : xE) : Nat → Nat := E.2.2.2.2.1
def xsV (E : xE) : Nat → Nat := E.2.2.2.2.2
abbrev xDs : Type := Nat × List (Nat × Nat × Nat)
def xdl : List xDs := [
  (7, [(0, 1, 0), (0, 28, 0), (1, 6, 0), (0, 55, 0), (0, 57, 0), (0, 58, 0), (0, 59, 0), (0, 65, 0), (0, 71, 0), (0, 72, 0)]),
  (3, [(0, 2, 0), (0, 8, 0), (1, 0, 13), (0, 9, 0), (1, 0, 12)]),
  (6, [(0, 3, 0), (0, 4, 0), (0, 5, 0), (0, 6, 0), (0, 7, 0), (1, 0, 4), (1, 0, 5), (1, 0, 6), (1, 0, 7), (1, 0, 8), (1, 0, 9), (1, 0, 10), (1, 0, 11)]),
  (9, [(4, 0, 0), (1, 0, 0)]),
  (9, [(12, 0, 32), (1, 0, 0)]),
  (9, [(12, 0, 20), (1, 0, 0)]),
  (9, [(40, 0, 44), (2, 0, 0)]),
  (9, [(40, 0, 45), (2, 0, 0)]),
  (10, [(6, 10, 3)]),
  (9, [(10, 0, 124), (1, 0, 0)]),
  (0, [(0, 11, 0), (0, 12, 0), (1, 0, 134)]),
  (9, [(12, 0, 135), (2, 0, 0)]),
  (9, [(12, 0, 136), (2, 0, 0)]),
  (0, [(0, 14, 0), (0, 15, 0), (1, 0, 159)]),
  (9, [(12, 0, 160), (2, 0, 0)]),
  (9, [(12, 0, 161), (2, 0, 0)]),
  (0, [(0, 17, 0), (0, 18, 0), (1, 0, 184)]),
  (9, [(12, 0, 185), (2, 0, 0)]),
  (9, [(12, 0, 186), (2, 0, 0)]),
  (0, [(0, 20, 0), (0, 21, 0), (1, 0, 209)]),
  (9, [(12, 0, 210), (2, 0, 0)]),
  (9, [(12, 0, 211), (2, 0, 0)]),
  (0, [(0, 23, 0), (0, 24, 0), (1, 0, 234)]),
  (9, [(12, 0, 235), (2, 0, 0)]),
  (9, [(12, 0, 236), (2, 0, 0)]),
  (0, [(0, 26, 0), (0, 27, 0), (1, 0, 259)]),
  (9, [(12, 0, 260), (2, 0, 0)]),
  (9, [(12, 0, 261), (2, 0, 0)]),
  (3, [(0, 29, 0), (0, 35, 0), (1, 1, 13), (0, 36, 0), (1, 1, 12)]),
  (6, [(0, 30, 0), (0, 31, 0), (0, 32, 0), (0, 33, 0), (0, 34, 0), (1, 1, 4), (1, 1, 5), (1, 1, 6), (1, 1, 7), (1, 1, 8), (1, 1, 9), (1, 1, 10), (1, 1, 11)]),
  (9, [(4, 1, 0), (1, 0, 0)]),
  (9, [(12, 1, 32), (1, 0, 0)]),
  (9, [(12, 1, 20), (1, 0, 0)]),
  (9, [(40, 1, 44), (2, 0, 0)]),
  (9, [(40, 1, 45), (2, 0, 0)]),
  (10, [(6, 37, 3)]),
  (9, [(10, 1, 124), (1, 0, 0)]),
  (0, [(0, 38, 0), (0, 39, 0), (1, 1, 134)]),
  (9, [(12, 1, 135), (2, 0, 0)]),
  (9, [(12, 1, 136), (2, 0, 0)]),
  (0, [(0, 41, 0), (0, 42, 0), (1, 1, 159)]),
  (9, [(12, 1, 160), (2, 0, 0)]),
  (9, [(12, 1, 161), (2, 0, 0)]),
  (0, [(0, 44, 0), (0, 45, 0), (1, 1, 184)]),
  (9, [(12, 1, 185), (2, 0, 0)]),
  (9, [(12, 1, 186), (2, 0, 0)]),
  (0, [(0, 47, 0), (0, 48, 0), (1, 1, 209)]),
  (9, [(12, 1, 210), (2, 0, 0)]),
  (9, [(12, 1, 211), (2, 0, 0)]),
  (0, [(0, 50, 0), (0, 51, 0), (1, 1, 234)]),
  (9, [(12, 1, 235), (2, 0, 0)]),
  (9, [(12, 1, 236), (2, 0, 0)]),
  (0, [(0, 53, 0), (0, 54, 0), (1, 1, 259)]),
  (9, [(12, 1, 260), (2, 0, 0)]),
  (9, [(12, 1, 261), (2, 0, 0)]),
  (4, [(0, 56, 0), (1, 6, 1)]),
  (9, [(100, 5, 0), (1, 0, 0)]),
  (5, [(0, 55, 0), (1, 6, 2), (1, 6, 3), (1, 6, 4), (1, 6, 5)]),
  (11, [(4, 73, 2)]),
  (6, [(0, 60, 0), (0, 61, 0), (0, 62, 0), (0, 63, 0), (0, 64, 0), (1, 2, 4), (1, 2, 5), (1, 2, 6), (1, 2, 7), (1, 2, 8), (1, 2, 9), (1, 2, 10), (1, 2, 11)]),
  (9, [(4, 2, 0), (1, 0, 0)]),
  (9, [(12, 2, 32), (1, 0, 0)]),
  (9, [(12, 2, 20), (1, 0, 0)]),
  (9, [(40, 2, 44), (2, 0, 0)]),
  (9, [(40, 2, 45), (2, 0, 0)]),
  (6, [(0, 66, 0), (0, 67, 0), (0, 68, 0), (0, 69, 0), (0, 70, 0), (1, 3, 4), (1, 3, 5), (1, 3, 6), (1, 3, 7), (1, 3, 8), (1, 3, 9), (1, 3, 10), (1, 3, 11)]),
  (9, [(4, 3, 0), (1, 0, 0)]),
  (9, [(12, 3, 32), (1, 0, 0)]),
  (9, [(12, 3, 20), (1, 0, 0)]),
  (9, [(40, 3, 44), (2, 0, 0)]),
  (9, [(40, 3, 45), (2, 0, 0)]),
  (2, [(2, 0, 0), (2, 1, 0), (2, 2, 0)]),
  (9, [(7, 4, 0), (1, 0, 0)]),
  (1, [(0, 74, 0), (1, 7, 0), (1, 8, 0)]),
  (9, [(40, 9, 0), (1, 0, 0)]),
  (1, [(0, 76, 0), (1, 7, 1), (1, 8, 1)]),
  (9, [(40, 9, 40), (1, 0, 0)]),
  (1, [(0, 78, 0), (1, 7, 2), (1, 8, 2)]),
  (9, [(40, 9, 80), (1, 0, 0)]),
  (1, [(0, 80, 0), (1, 7, 3), (1, 8, 3)]),
  (9, [(40, 9, 120), (1, 0, 0)]),
  (8, [(0, 82, 0), (0, 83, 0), (0, 84, 0), (0, 85, 0), (1, 17, 0), (0, 86, 0), (0, 87, 0), (0, 88, 0), (1, 17, 1), (1, 17, 2), (1, 17, 3), (1, 17, 4), (2, 3, 0), (1, 17, 5), (1, 17, 6), (0, 89, 0), (0, 90, 0), (0, 91, 0), (0, 92, 0), (0, 93, 0)]),
  (9, [(284, 10, 0), (1, 0, 0)]),
  (9, [(284, 11, 0), (1, 0, 0)]),
  (9, [(284, 12, 0), (1, 0, 0)]),
  (9, [(284, 13, 0), (1, 0, 0)]),
  (9, [(7, 14, 0), (1, 0, 0)]),
  (9, [(12, 15, 0), (1, 0, 0)]),
  (9, [(100, 16, 0), (1, 0, 0)]),
  (9, [(3, 22, 0), (1, 0, 0)]),
  (9, [(4, 18, 0), (1, 0, 0)]),
  (9, [(4, 19, 0), (1, 0, 0)]),
  (9, [(160, 20, 0), (1, 0, 0)]),
  (9, [(40, 21, 0), (1, 0, 0)])]
def xd (k : Nat) : xDs := xdl.getD k (12, [])
def xv (E : xE) (σ : Nat → Nat → Int32) (τ : Nat → Int64) (q : Nat × Nat × Nat) : Value := match q.1 with
  | 0 => .ref (xad E q.2.1)
  | 1 => .int (σ q.2.1 q.2.2)
  | 2 => .long (τ q.2.1)
  | _ => .null
def xtr (n : Nat) (f : Nat → Int32) : Nat → Int32 := fun j => if j < n then f j else 0
def xq (d : xDs) (i : Nat) : Nat × Nat × Nat := d.2.getD i (0, 0, 0)
def xce (E : xE) (σ : Nat → Nat → Int32) (τ : Nat → Int64) (d : xDs) : va_E :=
  if d.1 < 9 then .inr (d.1, d.2.map (xv E σ τ))
  else if d.1 = 9 then .inl (xcA E 0, (xq d 0).1, .inl (xtr (xq d 0).1 (fun j => σ (xq d 0).2.1 ((xq d 0).2.2 + (xq d 1).1 * j))))
  else .inl (xcA E (d.1 - 9), (xq d 0).1, .inr (.inr (.inr (.inr (fun j => some (xad E ((xq d 0).2.1 + (xq d 0).2.2 * j)))))))
def xw (E : xE) (σ : Nat → Nat → Int32) (τ : Nat → Int64) : va_W := (List.range 94).map fun k => (xad E k, xce E σ τ (xd k))
theorem xw_at {E : xE} {σ : Nat → Nat → Int32} {τ : Nat → Int64} {k : Nat} (h : k < 94) : (xw E σ τ)[k]? = some (xad E k, xce E σ τ (xd k)) := by
  unfold xw
  rw [List.getElem?_map, List.getElem?_range h]
  rfl
theorem xw_len {E : xE} {σ : Nat → Nat → Int32} {τ : Nat → Int64} : (xw E σ τ).length = 94 := by
  unfold xw
  rw [List.length_map, List.length_range]
theorem xw_of {E : xE} {σ : Nat → Nat → Int32} {τ : Nat → Int64} {k : Nat} {q : Nat × va_E} (h : (xw E σ τ)[k]? = some q) : k < 94 ∧ q = (xad E k, xce E σ τ (xd k)) := by
  have hk : k < 94 := by
    have h1 := (List.getElem?_eq_some_iff.mp h).1
    rw [xw_len] at h1
    exact h1
  rw [xw_at hk] at h
  exact ⟨hk, (Option.some.inj h).symm⟩
def xP (E : xE) (σ : Nat → Nat → Int32) (τ : Nat → Int64) (H : Heap) : Prop := va_P (xD E) vwCl (xw E σ τ) H
def xI (E : xE) (A : Nat → Prop) : Prop := (∀ i j, i < 94 → j < 94 → xad E i = xad E j → i = j) ∧ ∀ i, i < 94 → A (xad E i)
theorem xI.D {E : xE} {A : Nat → Prop} {σ : Nat → Nat → Int32} {τ : Nat → Int64} (h : xI E A) : va_D A (xw E σ τ) := by
  refine ⟨fun i j p q hi hj e => ?_, fun k q hk => ?_⟩
  · obtain ⟨a1, rfl⟩ := xw_of hi
    obtain ⟨b1, rfl⟩ := xw_of hj
    exact h.1 i j a1 b1 e
  · obtain ⟨a1, rfl⟩ := xw_of hk
    exact h.2 k a1
def xA (E : xE) : Nat → Prop := fun q => ∃ k, k < 94 ∧ xad E k = q
theorem xI.self {E : xE} {A : Nat → Prop} (h : xI E A) : xI E (xA E) := ⟨h.1, fun i hi => ⟨i, hi, rfl⟩⟩
theorem xI.sub {E : xE} {A : Nat → Prop} (h : xI E A) : ∀ q, xA E q → A q := fun q hq => by
  obtain ⟨k, hk, rfl⟩ := hq
  exact h.2 k hk
def xtys (E : xE) : List (ClassId × FieldType) := [(xcA E 0, .int), (xcA E 1, .object "LeakCups$Program"), (xcA E 2, .object "LeakCups$Sheet")]
def xK (E : xE) (U : State) : Prop := va_K (xD E) vwCl (xtys E) U
theorem xP.set {E : xE} {σ σ' : Nat → Nat → Int32} {τ τ' : Nat → Int64} {H1 : Heap} {k : Nat} {e : va_E} (hk : k < 94) (h : va_P (xD E) vwCl ((xw E σ τ).set k (xad E k, e)) H1) (he : va_at (xD E) vwCl (xad E k, e) H1 → va_at (xD E) vwCl (xad E k, xce E σ' τ' (xd k)) H1) (ho : ∀ j, j < 94 → j ≠ k → xce E σ' τ' (xd j) = xce E σ τ (xd j)) : xP E σ' τ' H1 := by
  have hl : k < (xw E σ τ).length := by rw [xw_len]; exact hk
  intro j q hj
  obtain ⟨a1, rfl⟩ := xw_of hj
  by_cases hjk : j = k
  · subst hjk
    exact he (h j _ (List.getElem?_set_self hl))
  · have h1 := h j (xad E j, xce E σ τ (xd j)) (by rw [List.getElem?_set_ne (Ne.symm hjk)]; exact xw_at a1)
    rw [ho j a1 hjk]
    exact h1
theorem xP.alter {E : xE} {σ σ' : Nat → Nat → Int32} {τ τ' : Nat → Int64} {H : Heap} (h : xP E σ τ H) (ho : ∀ j, j < 94 → xce E σ' τ' (xd j) = xce E σ τ (xd j)) : xP E σ' τ' H := by
  intro j q hj
  obtain ⟨a1, rfl⟩ := xw_of hj
  rw [ho j a1]
  exact h j _ (xw_at a1)
/-- is place i of bank b in this cell? -/
def xin (d : xDs) (b i : Nat) : Bool := if d.1 < 9 then d.2.any (fun q => q.1 == 1 && (q.2.1 == b && q.2.2 == i)) else if d.1 = 9 then ((xq d 0).2.1 == b && (decide ((xq d 0).2.2 ≤ i) && ((i - (xq d 0).2.2) % (xq d 1).1 == 0 && decide ((i - (xq d 0).2.2) / (xq d 1).1 < (xq d 0).1)))) else false
/-- is long a in this cell? -/
def xinL (d : xDs) (a : Nat) : Bool := if d.1 < 9 then d.2.any (fun q => q.1 == 2 && q.2.1 == a) else false
theorem xidx {o st j n : Nat} (hj : j < n) : o ≤ o + st * j ∧ (o + st * j - o) % st = 0 ∧ (o + st * j - o) / st < n := by
  refine ⟨Nat.le_add_right _ _, ?_, ?_⟩
  · rw [Nat.add_sub_cancel_left, Nat.mul_mod_right]
  · rw [Nat.add_sub_cancel_left]
    by_cases hs : st = 0
    · subst hs
      rw [Nat.div_zero]
      omega
    · rw [Nat.mul_div_cancel_left _ (Nat.pos_of_ne_zero hs)]
      exact hj
theorem xin_arr {d : xDs} (h9 : d.1 = 9) {j : Nat} (hj : j < (xq d 0).1) : xin d (xq d 0).2.1 ((xq d 0).2.2 + (xq d 1).1 * j) = true := by
  obtain ⟨h1, h2, h3⟩ := xidx (o := (xq d 0).2.2) (st := (xq d 1).1) hj
  unfold xin
  rw [if_neg (by omega), if_pos h9]
  simp only [Bool.and_eq_true, beq_iff_eq, decide_eq_true_eq]
  exact ⟨trivial, h1, h2, h3⟩
theorem xce_agree {E : xE} {σ σ' : Nat → Nat → Int32} {τ τ' : Nat → Int64} {d : xDs} (h : ∀ b i, xin d b i = true → σ' b i = σ b i) (hL : ∀ a, xinL d a = true → τ' a = τ a) : xce E σ' τ' d = xce E σ τ d := by
  unfold xce
  by_cases h1 : d.1 < 9
  · rw [if_pos h1, if_pos h1]
    have e : d.2.map (xv E σ' τ') = d.2.map (xv E σ τ) := by
      apply List.map_congr_left
      intro q hq
      obtain ⟨t, a, b⟩ := q
      match t, hq with
      | 0, _ => rfl
      | 1, hq =>
        show Value.int _ = Value.int _
        rw [h a b (by unfold xin; rw [if_pos h1]; exact List.any_eq_true.mpr ⟨_, hq, by simp⟩)]
      | 2, hq =>
        show Value.long _ = Value.long _
        rw [hL a (by unfold xinL; rw [if_pos h1]; exact List.any_eq_true.mpr ⟨_, hq, by simp⟩)]
      | n + 3, _ => rfl
    rw [e]
  · rw [if_neg h1, if_neg h1]
    by_cases h2 : d.1 = 9
    · rw [if_pos h2, if_pos h2]
      have e : xtr (xq d 0).1 (fun j => σ' (xq d 0).2.1 ((xq d 0).2.2 + (xq d 1).1 * j)) = xtr (xq d 0).1 (fun j => σ (xq d 0).2.1 ((xq d 0).2.2 + (xq d 1).1 * j)) := by
        funext j
        unfold xtr
        by_cases hj : j < (xq d 0).1
        · rw [if_pos hj, if_pos hj]
          exact h _ _ (xin_arr h2 hj)
        · rw [if_neg hj, if_neg hj]
      rw [e]
    · rw [if_neg h2, if_neg h2]
/-- the places of a cell -/
def xslots (d : xDs) : List (Nat × Nat) := if d.1 < 9 then d.2.filterMap (fun q => if q.1 = 1 then some (q.2.1, q.2.2) else none) else if d.1 = 9 then (List.range (xq d 0).1).map (fun j => ((xq d 0).2.1, (xq d 0).2.2 + (xq d 1).1 * j)) else []
theorem xslots_in {d : xDs} {b i : Nat} (h : xin d b i = true) : (b, i) ∈ xslots d := by
  unfold xin at h
  unfold xslots
  by_cases h1 : d.1 < 9
  · rw [if_pos h1] at h ⊢
    obtain ⟨q, hq, h2⟩ := List.any_eq_true.mp h
    simp only [Bool.and_eq_true, beq_iff_eq] at h2
    exact List.mem_filterMap.mpr ⟨q, hq, by rw [if_pos h2.1, h2.2.1, h2.2.2]⟩
  · rw [if_neg h1] at h ⊢
    by_cases h2 : d.1 = 9
    · rw [if_pos h2] at h ⊢
      simp only [Bool.and_eq_true, beq_iff_eq, decide_eq_true_eq] at h
      obtain ⟨e1, e2, e3, e4⟩ := h
      refine List.mem_map.mpr ⟨(i - (xq d 0).2.2) / (xq d 1).1, List.mem_range.mpr e4, ?_⟩
      rw [Nat.mul_div_cancel' (Nat.dvd_of_mod_eq_zero e3), e1]
      congr 1
      omega
    · rw [if_neg h2] at h
      cases h
/-- the cell that place i of bank b belongs to -/
def xow (b i : Nat) : Nat :=
  if b < 2 then (if i < 4 then 3 else if i < 12 then 2 else if i < 14 then 1 else if i < 32 then 5 else if i < 44 then 4 else if i < 124 then 6 + (i - 44) % 2 else if i < 134 then 9 else if (i - 134) % 25 = 0 then 10 + 3 * ((i - 134) / 25) else 12 - ((i - 134) % 25) % 2 + 3 * ((i - 134) / 25)) + 27 * b
  else if b < 4 then (if i < 4 then 60 else if i < 12 then 59 else if i < 32 then 62 else if i < 44 then 61 else 63 + (i - 44) % 2) + 6 * (b - 2)
  else if b = 6 then (if i = 0 then 0 else if i = 1 then 55 else 57)
  else if b < 9 then (if b = 4 then 72 else if b = 5 then 56 else 73 + 2 * i)
  else if b = 9 then 74 + 2 * (i / 40)
  else if b < 17 then 72 + b
  else if b = 17 then 81
  else if b = 22 then 89 else 72 + b
theorem xow0 : (xdl.zipIdx.all fun p => (xslots p.1).all fun w => xow w.1 w.2 == p.2) = true := by decide +kernel
theorem xdl_len : xdl.length = 94 := by decide +kernel
theorem xd_zip {k : Nat} (hk : k < 94) : (xd k, k) ∈ xdl.zipIdx := by
  have hl : k < xdl.length := by rw [xdl_len]; exact hk
  refine List.mem_iff_getElem?.mpr ⟨k, ?_⟩
  rw [List.getElem?_zipIdx]
  unfold xd
  rw [List.getD_eq_getElem?_getD, List.getElem?_eq_getElem hl]
  simp
theorem xow_of {k b i : Nat} (hk : k < 94) (h : xin (xd k) b i = true) : xow b i = k := by
  have h1 := List.all_eq_true.mp (List.all_eq_true.mp xow0 _ (xd_zip hk)) _ (xslots_in h)
  simpa using h1
theorem xsep {k j b i : Nat} (hk : k < 94) (hj : j < 94) (hne : j ≠ k) (h : xin (xd k) b i = true) : xin (xd j) b i = false := by
  cases hx : xin (xd j) b i with
  | false => rfl
  | true => exact absurd ((xow_of hj hx).symm.trans (xow_of hk h)) hne
def xowL (a : Nat) : Nat := if a < 3 then 71 else 81
theorem xowL0 : (xdl.zipIdx.all fun p => p.1.1 ≥ 9 || p.1.2.all fun w => w.1 != 2 || xowL w.2.1 == p.2) = true := by decide +kernel
theorem xowL_of {k a : Nat} (hk : k < 94) (h : xinL (xd k) a = true) : xowL a = k := by
  unfold xinL at h
  by_cases h1 : (xd k).1 < 9
  · rw [if_pos h1] at h
    obtain ⟨q, hq, h2⟩ := List.any_eq_true.mp h
    have h3 := List.all_eq_true.mp xowL0 _ (xd_zip hk)
    have h4 : ¬ 9 ≤ (xd k).1 := by omega
    simp only [ge_iff_le, h4, decide_false, Bool.false_or] at h3
    have h5 := List.all_eq_true.mp h3 _ hq
    simp only [Bool.and_eq_true, beq_iff_eq] at h2
    rw [h2.1, h2.2] at h5
    simpa using h5
  · rw [if_neg h1] at h
    cases h
theorem xinL_mem {k a z : Nat} (h9 : (xd k).1 < 9) (h : (2, a, z) ∈ (xd k).2) : xinL (xd k) a = true := by
  unfold xinL
  rw [if_pos h9]
  exact List.any_eq_true.mpr ⟨_, h, by simp⟩
theorem xsepL {k j a : Nat} (hk : k < 94) (hj : j < 94) (hne : j ≠ k) (h9 : (xd k).1 < 9) (h : (2, a, 0) ∈ (xd k).2) : xinL (xd j) a = false := by
  cases hx : xinL (xd j) a with
  | false => rfl
  | true => exact absurd ((xowL_of hj hx).symm.trans (xowL_of hk (xinL_mem h9 h))) hne
theorem xL0 : (xdl.all fun d => d.1 ≥ 9 || d.2.all fun w => w.1 != 2 || w.2.2 == 0) = true := by decide +kernel
/-- an object's places are apart -/
theorem xnd0 : (xdl.all fun d => (List.range d.2.length).all fun i => (List.range d.2.length).all fun j => i == j || d.2.getD i (0, 0, 0) != d.2.getD j (0, 0, 0)) = true := by decide +kernel
theorem xd_mem {k : Nat} (hk : k < 94) : xd k ∈ xdl := by
  have h := xd_zip hk
  obtain ⟨i, hi⟩ := List.mem_iff_getElem?.mp h
  rw [List.getElem?_zipIdx] at hi
  cases hx : xdl[i]? with
  | none => rw [hx] at hi; cases hi
  | some y =>
    rw [hx] at hi
    have := Option.some.inj hi
    rw [← (Prod.mk.inj this).1]
    exact List.mem_of_getElem? hx
theorem xnd {k i j : Nat} {q : Nat × Nat × Nat} (hk : k < 94) (hi : (xd k).2[i]? = some q) (hj : (xd k).2[j]? = some q) : i = j := by
  have h := List.all_eq_true.mp xnd0 _ (xd_mem hk)
  have li := (List.getElem?_eq_some_iff.mp hi).1
  have lj := (List.getElem?_eq_some_iff.mp hj).1
  have h2 := List.all_eq_true.mp (List.all_eq_true.mp h i (List.mem_range.mpr li)) j (List.mem_range.mpr lj)
  rw [List.getD_eq_getElem?_getD, List.getD_eq_getElem?_getD, hi, hj] at h2
  simpa using h2
def u2 (σ : Nat → Nat → Int32) (b i : Nat) (x : Int32) : Nat → Nat → Int32 := va_up σ b (upd (σ b) i x)
theorem u2_at (σ : Nat → Nat → Int32) (b i : Nat) (x : Int32) : u2 σ b i x b i = x := by
  unfold u2
  rw [va_up_self]
  simp [upd]
theorem u2_ne {σ : Nat → Nat → Int32} {b i c j : Nat} {x : Int32} (h : ¬ (c = b ∧ j = i)) : u2 σ b i x c j = σ c j := by
  unfold u2
  by_cases hc : c = b
  · subst hc
    rw [va_up_self]
    have : j ≠ i := fun e => h ⟨rfl, e⟩
    simp [upd, this]
  · rw [va_up_ne _ _ hc]
theorem u2_bank (σ : Nat → Nat → Int32) (b : Nat) (g : Nat → Int32) (i : Nat) (x : Int32) : u2 (va_up σ b g) b i x = va_up σ b (upd g i x) := by
  unfold u2
  rw [va_up_self]
  funext c
  by_cases hc : c = b <;> simp [va_up, hc]
theorem xother {E : xE} {σ : Nat → Nat → Int32} {τ : Nat → Int64} {k b i : Nat} {x : Int32} (hk : k < 94) (h : xin (xd k) b i = true) : ∀ j, j < 94 → j ≠ k → xce E (u2 σ b i x) τ (xd j) = xce E σ τ (xd j) := by
  intro j hj hne
  refine xce_agree (fun c n hn => u2_ne ?_) (fun _ _ => rfl)
  rintro ⟨rfl, rfl⟩
  rw [xsep hk hj hne h] at hn
  cases hn
/-- what a method may take as given of the start -/
def xzc (i : Nat) : String := ["LeakCups$Wheel", "LeakCups$Wheel", "LeakCups$Program", "LeakCups$Program", "LeakCups$Wheel"].getD i ""
def xzn (i : Nat) : String := ["ROOM", "LEVER", "LEAST", "MOST", "KIND_ABOVE"].getD i ""
def xzl (i : Nat) : List Int32 := [[999, 999, 999, 999, 200, 500, 200], [0, 50, 87, 100, 87, 50, 0, -50, -87, -100, -87, -50], [0, 0, 0, 0, 0, 0, 0, 0, 0, 0, 1, 0, 1], [11, 11, 11, 11, 11, 11, 11, 99, 99, 99, 99, 200, 50], [-1, 0, 0, 0, 2, 3, 4]].getD i []
def xsB : List (List Int32) := [[99, 117, 112], [115, 101, 97, 108, 101, 100], [99, 114, 97, 99, 107, 101, 100], [100, 101, 101, 112], [115, 109, 97, 108, 108], [116, 105, 112, 112, 105, 110, 103], [114, 111, 112, 101, 100], [116, 97, 112], [108, 101, 97, 107], [114, 117, 98], [104, 101, 97, 118, 121], [116, 111, 117, 99, 104], [119, 97, 105, 116]]
def xsLn : List Nat := [3, 6, 7, 4, 5, 7, 5, 3, 4, 3, 5, 5, 4]
def xsTx : List String := ["cup", "sealed", "cracked", "deep", "small", "tipping", "roped", "tap", "leak", "rub", "heavy", "touch", "wait"]
def xZ (E : xE) (A : Nat → Prop) (U : State) (H : Heap) : Prop :=
  (∀ i, i < 5 → va_Z (xzc i) (xzn i) "[I" (.ref (xst E i)) A U H ∧ va_T .int (xst E i) (xzl i).length (fun j => .int ((xzl i).getD j 0)) A U H) ∧
  vk_S 13 xsLn xsB (xsK E) (xsV E) A U H ∧
  (∀ own k i, i < 13 → Cond.stringRef own k (xsTx.getD i "") ∈ lw_tbl → vk_R own k (xsTx.getD i "") (xsK E i) U) ∧
  (∀ a i x h, Cond.methodLinkNest a i x h ∈ lw_tbl → va_Nw (.methodLinkNest a i x h) U) ∧
  va_Z "java/lang/String" "COMPACT_STRINGS" "Z" (.int 1) A U H ∧ va_Zq "jdk/internal/util/Preconditions" "SIOOBE_FORMATTER" "Ljava/util/function/BiFunction;" A U H
theorem xZ.go {E : xE} {A : Nat → Prop} {s U : State} {H : Heap} {locs : List Loc} (h : xZ E A s s.heap) (hS : va_S A s.heap H locs) (hW : s.WarmedH U.vm) (hI : ∀ q, xA E q → A q) : xZ E (xA E) U H := by
  obtain ⟨h1, h2, h3, h4, h5, h6⟩ := h
  refine ⟨fun i hi => ⟨((va_Z.moved hW.alike (h1 i hi).1).kept hS.2.1).narrow hI, ((va_T.moved hW.alike (h1 i hi).2).kept hS.2.1).narrow hI⟩, ((vk_S.moved hW.alike h2).kept hS.2.1).narrow hI, fun own k i hi hm => vk_R.warm hW (h3 own k i hi hm), fun a i x h hm => va_Nw.warmM hW (h4 a i x h hm), ((va_Z.moved hW.alike h5).kept hS.2.1).narrow hI, ((va_Zq.moved hW.alike h6).kept hS.2.1).narrow hI⟩
theorem xZ.calling {E : xE} {A : Nat → Prop} {U : State} {a : Array Value} {g : JFrame} {mk : MethodId} (h : xZ E A U U.heap) : xZ E A (U.calling g mk a) (U.calling g mk a).heap := by
  obtain ⟨h1, h2, h3, h4, h5, h6⟩ := h
  have hv : U.vm.Alike (U.calling g mk a).vm := Vm.Alike.refl U.vm
  exact ⟨fun i hi => ⟨va_Z.moved hv (h1 i hi).1, va_T.moved hv (h1 i hi).2⟩, vk_S.moved hv h2, fun own k i hi hm => vk_R.same (u := U) rfl (h3 own k i hi hm), fun b i x h hm => va_Nw.same rfl (u := U) rfl (h4 b i x h hm), va_Z.moved hv h5, va_Zq.moved hv h6⟩
def xG (E : xE) (σ : Nat → Nat → Int32) (τ : Nat → Int64) (U : State) : Prop := xP E σ τ U.heap ∧ xK E U ∧ xI E (xA E) ∧ xZ E (xA E) U U.heap
theorem xG.blind {E : xE} {σ : Nat → Nat → Int32} {τ : Nat → Int64} {av : List Value} : FrameBlind (va_Pc av (xG E σ τ)) := by
  intro a U g mk q
  obtain ⟨q0, q1, q2, q3, q4⟩ := q
  exact ⟨q0, q1, va_K.moved (u := U) (U := U.calling g mk a) (Vm.Alike.refl U.vm) q2, q3, q4.calling⟩
end
section
/-! THE KIT'S ROWS over the world: WM: the machine at pc, with locals lv, stack st, world σ τ, comes to a state with Q -/
section XROWS
variable {p : Program} {l : Launch} {e : Env} {R : Room} {s : State} {m : MethodId} {args : Array Value} {below : List Frame} {meth : Method} {c : Code} {cells slots : Nat} {Q : State → Prop} {E : xE} {A : Nat → Prop} {nL : Nat} {σ σ' : Nat → Nat → Int32} {τ τ' : Nat → Int64} {pc : Nat} {lv : List (Nat × Value)} {rest : List Value} {cc : ByteArray} {own : String} {ret : Option FieldType}
def WM (p : Program) (l : Launch) (e : Env) (R : Room) (s : State) (m : MethodId) (args : Array Value) (below : List Frame) (meth : Method) (c : Code) (cells slots : Nat) (Q : State → Prop) (E : xE) (A : Nat → Prop) (nL : Nat) (σ : Nat → Nat → Int32) (τ : Nat → Int64) (pc : Nat) (lv : List (Nat × Value)) (st : List Value) : Prop :=
  ∀ (H : Heap) (locs : List Loc) (ls : Array Slot), xP E σ τ H → va_S A s.heap H locs → lv_has ls nL lv → W p l e R s m args below meth c H locs cells slots Q (F0 m pc ls st)
def xC (p : Program) (s : State) (m : MethodId) (args : Array Value) (meth : Method) (c : Code) (cc : ByteArray) (nL : Nat) (own : String) (ret : Option FieldType) (E : xE) (A : Nat → Prop) (R : Room) (cells slots : Nat) : Prop :=
  CallFix p m c cc nL s args xT own ∧ meth.sig.returnType = ret ∧ meth.locks = false ∧ xK E s ∧ xI E A ∧ xZ E A s s.heap ∧ (cells ≤ R.cells ∧ slots ≤ R.slots)
theorem xC.hx (C : xC p s m args meth c cc nL own ret E A R cells slots) : p.tables.exec = Jvm.exec := C.1.1
theorem xC.hb (C : xC p s m args meth c cc nL own ret E A R cells slots) : c.code = cc := C.1.2.1
theorem xC.hml (C : xC p s m args meth c cc nL own ret E A R cells slots) : c.maxLocals = nL := C.1.2.2.1
theorem xC.hown (C : xC p s m args meth c cc nL own ret E A R cells slots) : s.vm.findClass own = some m.cls := C.1.2.2.2.1
theorem xC.hts (C : xC p s m args meth c cc nL own ret E A R cells slots) : ∀ w ∈ xT, w.before args s = true := C.1.2.2.2.2
theorem xC.hr (C : xC p s m args meth c cc nL own ret E A R cells slots) : meth.sig.returnType = ret := C.2.1
theorem xC.hlk (C : xC p s m args meth c cc nL own ret E A R cells slots) : meth.locks = false := C.2.2.1
theorem xC.hK (C : xC p s m args meth c cc nL own ret E A R cells slots) : xK E s := C.2.2.2.1
theorem xC.hI (C : xC p s m args meth c cc nL own ret E A R cells slots) : xI E A := C.2.2.2.2.1
theorem xC.hZ (C : xC p s m args meth c cc nL own ret E A R cells slots) : xZ E A s s.heap := C.2.2.2.2.2.1
theorem xC.hc (C : xC p s m args meth c cc nL own ret E A R cells slots) : cells ≤ R.cells ∧ slots ≤ R.slots := C.2.2.2.2.2.2
/-- other words for the same world -/
theorem WM.alter (ho : ∀ j, j < 94 → xce E σ' τ' (xd j) = xce E σ τ (xd j)) (k : WM p l e R s m args below meth c cells slots Q E A nL σ' τ' pc lv rest) : WM p l e R s m args below meth c cells slots Q E A nL σ τ pc lv rest := fun H locs ls hP hS hl => k H locs ls (hP.alter ho) hS hl
theorem WM.keep {lv' : List (Nat × Value)} (ks : List Nat) (hp : lv_pick lv ks = lv') (k : WM p l e R s m args below meth c cells slots Q E A nL σ τ pc lv' rest) : WM p l e R s m args below meth c cells slots Q E A nL σ τ pc lv rest := fun H locs ls hP hS hl => k H locs ls hP hS (lv_sub hl ks hp)
theorem WM.topi {x y : Int32} (hy : x = y) (k : WM p l e R s m args below meth c cells slots Q E A nL σ τ pc lv (.int y :: rest)) : WM p l e R s m args below meth c cells slots Q E A nL σ τ pc lv (.int x :: rest) := hy ▸ k
theorem WM.to {σ1 : Nat → Nat → Int32} {τ1 : Nat → Int64} {lv1 : List (Nat × Value)} {st st1 : List Value} (k : WM p l e R s m args below meth c cells slots Q E A nL σ1 τ1 pc lv1 st1) (hs : σ = σ1) (ht : τ = τ1) (hl : lv = lv1) (hst : st = st1) : WM p l e R s m args below meth c cells slots Q E A nL σ τ pc lv st := by
  subst hs
  subst ht
  subst hl
  subst hst
  exact k

theorem x_iconst (C : xC p s m args meth c cc nL own ret E A R cells slots) {n : Int} {v : Int32} (hdg : decode cc pc = .ok (.iconst n, 1)) (hv : Int32.ofInt n = v) (k : WM p l e R s m args below meth c cells slots Q E A nL σ τ (pc + 1) lv (.int v :: rest)) : WM p l e R s m args below meth c cells slots Q E A nL σ τ pc lv (rest) := fun H locs ls hP hS hl => lv_iconst C.hx C.hb hdg hv (k H locs ls hP hS hl)
theorem x_bipush (C : xC p s m args meth c cc nL own ret E A R cells slots) {n : Int} {v : Int32} (hdg : decode cc pc = .ok (.bipush n, 2)) (hv : (Int8.ofInt n).toInt32 = v) (k : WM p l e R s m args below meth c cells slots Q E A nL σ τ (pc + 2) lv (.int v :: rest)) : WM p l e R s m args below meth c cells slots Q E A nL σ τ pc lv (rest) := fun H locs ls hP hS hl => lv_bipush C.hx C.hb hdg hv (k H locs ls hP hS hl)
theorem x_sipush (C : xC p s m args meth c cc nL own ret E A R cells slots) {n : Int} {v : Int32} (hdg : decode cc pc = .ok (.sipush n, 3)) (hv : (Int16.ofInt n).toInt32 = v) (k : WM p l e R s m args below meth c cells slots Q E A nL σ τ (pc + 3) lv (.int v :: rest)) : WM p l e R s m args below meth c cells slots Q E A nL σ τ pc lv (rest) := fun H locs ls hP hS hl => lv_sipush C.hx C.hb hdg hv (k H locs ls hP hS hl)
theorem x_lconst (C : xC p s m args meth c cc nL own ret E A R cells slots) {n : Fin 2} {v : Int64} (hdg : decode cc pc = .ok (.lconst n, 1)) (hv : Int64.ofNat (n : Nat) = v) (k : WM p l e R s m args below meth c cells slots Q E A nL σ τ (pc + 1) lv (.long v :: rest)) : WM p l e R s m args below meth c cells slots Q E A nL σ τ pc lv (rest) := fun H locs ls hP hS hl => lv_lconst C.hx C.hb hdg hv (k H locs ls hP hS hl)
theorem x_ldc (C : xC p s m args meth c cc nL own ret E A R cells slots) {index : Nat} {v : Int32} (hdg : decode cc pc = .ok (.ldc index, 2)) (hw : Jvm.Cond.constant own index v ∈ xT) (k : WM p l e R s m args below meth c cells slots Q E A nL σ τ (pc + 2) lv (.int v :: rest)) : WM p l e R s m args below meth c cells slots Q E A nL σ τ pc lv (rest) := fun H locs ls hP hS hl => lv_ldc C.hx C.hb C.hown (C.hts _ hw) hdg (k H locs ls hP hS hl)
theorem x_ldcw (C : xC p s m args meth c cc nL own ret E A R cells slots) {index : Nat} {v : Int32} (hdg : decode cc pc = .ok (.ldc_w index, 3)) (hw : Jvm.Cond.constant own index v ∈ xT) (k : WM p l e R s m args below meth c cells slots Q E A nL σ τ (pc + 3) lv (.int v :: rest)) : WM p l e R s m args below meth c cells slots Q E A nL σ τ pc lv (rest) := fun H locs ls hP hS hl => lv_ldcw C.hx C.hb C.hown (C.hts _ hw) hdg (k H locs ls hP hS hl)
theorem x_ldc2 (C : xC p s m args meth c cc nL own ret E A R cells slots) {index : Nat} {v : Int64} (hdg : decode cc pc = .ok (.ldc2_w index, 3)) (hw : Jvm.Cond.constantLong own index v ∈ xT) (k : WM p l e R s m args below meth c cells slots Q E A nL σ τ (pc + 3) lv (.long v :: rest)) : WM p l e R s m args below meth c cells slots Q E A nL σ τ pc lv (rest) := fun H locs ls hP hS hl => lv_ldc2 C.hx C.hb C.hown (C.hts _ hw) hdg (k H locs ls hP hS hl)
theorem x_iload_n (C : xC p s m args meth c cc nL own ret E A R cells slots) {k4 : Fin 4} {i : Nat} {x : Int32} (j : Nat) (hdg : decode cc pc = .ok (.iload_n k4, 1)) (hi : (k4 : Nat) = i) (hj : lv[j]? = some (i, .int x)) (k : WM p l e R s m args below meth c cells slots Q E A nL σ τ (pc + 1) lv (.int x :: rest)) : WM p l e R s m args below meth c cells slots Q E A nL σ τ pc lv (rest) := fun H locs ls hP hS hl => lv_iload_n C.hx C.hb hdg hi (lv_at hl j hj) (k H locs ls hP hS hl)
theorem x_iload (C : xC p s m args meth c cc nL own ret E A R cells slots) {i : Nat} {x : Int32} (j : Nat) (hdg : decode cc pc = .ok (.iload i, 2)) (hj : lv[j]? = some (i, .int x)) (k : WM p l e R s m args below meth c cells slots Q E A nL σ τ (pc + 2) lv (.int x :: rest)) : WM p l e R s m args below meth c cells slots Q E A nL σ τ pc lv (rest) := fun H locs ls hP hS hl => lv_iload C.hx C.hb hdg (lv_at hl j hj) (k H locs ls hP hS hl)
theorem x_istore_n (C : xC p s m args meth c cc nL own ret E A R cells slots) {k4 : Fin 4} {i : Nat} {x : Int32} {lv1 : List (Nat × Value)} (hdg : decode cc pc = .ok (.istore_n k4, 1)) (hi : (k4 : Nat) = i) (hn : i < nL) (hv : (i, Value.int x) :: lv.filter (fun q => !(q.1 == i) && !(q.1 + 1 == i && q.2.category == 2)) = lv1) (k : WM p l e R s m args below meth c cells slots Q E A nL σ τ (pc + 1) lv1 (rest)) : WM p l e R s m args below meth c cells slots Q E A nL σ τ pc lv (.int x :: rest) := fun H locs ls hP hS hl => lv_istore_n C.hx C.hb hdg hi hl hn hv (fun ls2 hl2 => k H locs ls2 hP hS hl2)
theorem x_istore (C : xC p s m args meth c cc nL own ret E A R cells slots) {i : Nat} {x : Int32} {lv1 : List (Nat × Value)} (hdg : decode cc pc = .ok (.istore i, 2)) (hn : i < nL) (hv : (i, Value.int x) :: lv.filter (fun q => !(q.1 == i) && !(q.1 + 1 == i && q.2.category == 2)) = lv1) (k : WM p l e R s m args below meth c cells slots Q E A nL σ τ (pc + 2) lv1 (rest)) : WM p l e R s m args below meth c cells slots Q E A nL σ τ pc lv (.int x :: rest) := fun H locs ls hP hS hl => lv_istore C.hx C.hb hdg hl hn hv (fun ls2 hl2 => k H locs ls2 hP hS hl2)
theorem x_lload_n (C : xC p s m args meth c cc nL own ret E A R cells slots) {k4 : Fin 4} {i : Nat} {x : Int64} (j : Nat) (hdg : decode cc pc = .ok (.lload_n k4, 1)) (hi : (k4 : Nat) = i) (hj : lv[j]? = some (i, .long x)) (k : WM p l e R s m args below meth c cells slots Q E A nL σ τ (pc + 1) lv (.long x :: rest)) : WM p l e R s m args below meth c cells slots Q E A nL σ τ pc lv (rest) := fun H locs ls hP hS hl => lv_lload_n C.hx C.hb hdg hi (lv_at hl j hj) (k H locs ls hP hS hl)
theorem x_lload (C : xC p s m args meth c cc nL own ret E A R cells slots) {i : Nat} {x : Int64} (j : Nat) (hdg : decode cc pc = .ok (.lload i, 2)) (hj : lv[j]? = some (i, .long x)) (k : WM p l e R s m args below meth c cells slots Q E A nL σ τ (pc + 2) lv (.long x :: rest)) : WM p l e R s m args below meth c cells slots Q E A nL σ τ pc lv (rest) := fun H locs ls hP hS hl => lv_lload C.hx C.hb hdg (lv_at hl j hj) (k H locs ls hP hS hl)
theorem x_lstore_n (C : xC p s m args meth c cc nL own ret E A R cells slots) {k4 : Fin 4} {i : Nat} {x : Int64} {lv1 : List (Nat × Value)} (hdg : decode cc pc = .ok (.lstore_n k4, 1)) (hi : (k4 : Nat) = i) (hn : i + 1 < nL) (hv : (i, Value.long x) :: lv.filter (fun q => !(q.1 == i) && (!(q.1 == i + 1) && !(q.1 + 1 == i && q.2.category == 2))) = lv1) (k : WM p l e R s m args below meth c cells slots Q E A nL σ τ (pc + 1) lv1 (rest)) : WM p l e R s m args below meth c cells slots Q E A nL σ τ pc lv (.long x :: rest) := fun H locs ls hP hS hl => lv_lstore_n C.hx C.hb hdg hi hl hn hv (fun ls2 hl2 => k H locs ls2 hP hS hl2)
theorem x_lstore (C : xC p s m args meth c cc nL own ret E A R cells slots) {i : Nat} {x : Int64} {lv1 : List (Nat × Value)} (hdg : decode cc pc = .ok (.lstore i, 2)) (hn : i + 1 < nL) (hv : (i, Value.long x) :: lv.filter (fun q => !(q.1 == i) && (!(q.1 == i + 1) && !(q.1 + 1 == i && q.2.category == 2))) = lv1) (k : WM p l e R s m args below meth c cells slots Q E A nL σ τ (pc + 2) lv1 (rest)) : WM p l e R s m args below meth c cells slots Q E A nL σ τ pc lv (.long x :: rest) := fun H locs ls hP hS hl => lv_lstore C.hx C.hb hdg hl hn hv (fun ls2 hl2 => k H locs ls2 hP hS hl2)
theorem x_aload_n (C : xC p s m args meth c cc nL own ret E A R cells slots) {k4 : Fin 4} {i : Nat} {x : Nat} (j : Nat) (hdg : decode cc pc = .ok (.aload_n k4, 1)) (hi : (k4 : Nat) = i) (hj : lv[j]? = some (i, .ref x)) (k : WM p l e R s m args below meth c cells slots Q E A nL σ τ (pc + 1) lv (.ref x :: rest)) : WM p l e R s m args below meth c cells slots Q E A nL σ τ pc lv (rest) := fun H locs ls hP hS hl => lv_aload_n C.hx C.hb hdg hi (lv_at hl j hj) (k H locs ls hP hS hl)
theorem x_aload (C : xC p s m args meth c cc nL own ret E A R cells slots) {i : Nat} {x : Nat} (j : Nat) (hdg : decode cc pc = .ok (.aload i, 2)) (hj : lv[j]? = some (i, .ref x)) (k : WM p l e R s m args below meth c cells slots Q E A nL σ τ (pc + 2) lv (.ref x :: rest)) : WM p l e R s m args below meth c cells slots Q E A nL σ τ pc lv (rest) := fun H locs ls hP hS hl => lv_aload C.hx C.hb hdg (lv_at hl j hj) (k H locs ls hP hS hl)
theorem x_astore_n (C : xC p s m args meth c cc nL own ret E A R cells slots) {k4 : Fin 4} {i : Nat} {x : Nat} {lv1 : List (Nat × Value)} (hdg : decode cc pc = .ok (.astore_n k4, 1)) (hi : (k4 : Nat) = i) (hn : i < nL) (hv : (i, Value.ref x) :: lv.filter (fun q => !(q.1 == i) && !(q.1 + 1 == i && q.2.category == 2)) = lv1) (k : WM p l e R s m args below meth c cells slots Q E A nL σ τ (pc + 1) lv1 (rest)) : WM p l e R s m args below meth c cells slots Q E A nL σ τ pc lv (.ref x :: rest) := fun H locs ls hP hS hl => lv_astore_n C.hx C.hb hdg hi hl hn hv (fun ls2 hl2 => k H locs ls2 hP hS hl2)
theorem x_astore (C : xC p s m args meth c cc nL own ret E A R cells slots) {i : Nat} {x : Nat} {lv1 : List (Nat × Value)} (hdg : decode cc pc = .ok (.astore i, 2)) (hn : i < nL) (hv : (i, Value.ref x) :: lv.filter (fun q => !(q.1 == i) && !(q.1 + 1 == i && q.2.category == 2)) = lv1) (k : WM p l e R s m args below meth c cells slots Q E A nL σ τ (pc + 2) lv1 (rest)) : WM p l e R s m args below meth c cells slots Q E A nL σ τ pc lv (.ref x :: rest) := fun H locs ls hP hS hl => lv_astore C.hx C.hb hdg hl hn hv (fun ls2 hl2 => k H locs ls2 hP hS hl2)
theorem x_iinc (C : xC p s m args meth c cc nL own ret E A R cells slots) {i : Nat} {n : Int} {x v : Int32} {lv1 : List (Nat × Value)} (j : Nat) (hdg : decode cc pc = .ok (.iinc i n, 3)) (hj : lv[j]? = some (i, .int x)) (hx2 : x + Int32.ofInt n = v) (hn : i < nL) (hv : (i, Value.int v) :: lv.filter (fun q => !(q.1 == i) && !(q.1 + 1 == i && q.2.category == 2)) = lv1) (k : WM p l e R s m args below meth c cells slots Q E A nL σ τ (pc + 3) lv1 (rest)) : WM p l e R s m args below meth c cells slots Q E A nL σ τ pc lv (rest) := fun H locs ls hP hS hl => lv_iinc C.hx C.hb hdg hl hj hx2 hn hv (fun ls2 hl2 => k H locs ls2 hP hS hl2)
theorem x_iadd (C : xC p s m args meth c cc nL own ret E A R cells slots) {x y : Int32} (hdg : decode cc pc = .ok (.iadd, 1)) (k : WM p l e R s m args below meth c cells slots Q E A nL σ τ (pc + 1) lv (.int (x + y) :: rest)) : WM p l e R s m args below meth c cells slots Q E A nL σ τ pc lv (.int y :: .int x :: rest) := fun H locs ls hP hS hl => lv_iadd C.hx C.hb hdg (k H locs ls hP hS hl)
theorem x_isub (C : xC p s m args meth c cc nL own ret E A R cells slots) {x y : Int32} (hdg : decode cc pc = .ok (.isub, 1)) (k : WM p l e R s m args below meth c cells slots Q E A nL σ τ (pc + 1) lv (.int (x - y) :: rest)) : WM p l e R s m args below meth c cells slots Q E A nL σ τ pc lv (.int y :: .int x :: rest) := fun H locs ls hP hS hl => lv_isub C.hx C.hb hdg (k H locs ls hP hS hl)
theorem x_imul (C : xC p s m args meth c cc nL own ret E A R cells slots) {x y : Int32} (hdg : decode cc pc = .ok (.imul, 1)) (k : WM p l e R s m args below meth c cells slots Q E A nL σ τ (pc + 1) lv (.int (x * y) :: rest)) : WM p l e R s m args below meth c cells slots Q E A nL σ τ pc lv (.int y :: .int x :: rest) := fun H locs ls hP hS hl => lv_imul C.hx C.hb hdg (k H locs ls hP hS hl)
theorem x_iand (C : xC p s m args meth c cc nL own ret E A R cells slots) {x y : Int32} (hdg : decode cc pc = .ok (.iand, 1)) (k : WM p l e R s m args below meth c cells slots Q E A nL σ τ (pc + 1) lv (.int (x &&& y) :: rest)) : WM p l e R s m args below meth c cells slots Q E A nL σ τ pc lv (.int y :: .int x :: rest) := fun H locs ls hP hS hl => lv_iand C.hx C.hb hdg (k H locs ls hP hS hl)
theorem x_ior (C : xC p s m args meth c cc nL own ret E A R cells slots) {x y : Int32} (hdg : decode cc pc = .ok (.ior, 1)) (k : WM p l e R s m args below meth c cells slots Q E A nL σ τ (pc + 1) lv (.int (x ||| y) :: rest)) : WM p l e R s m args below meth c cells slots Q E A nL σ τ pc lv (.int y :: .int x :: rest) := fun H locs ls hP hS hl => lv_ior C.hx C.hb hdg (k H locs ls hP hS hl)
theorem x_ixor (C : xC p s m args meth c cc nL own ret E A R cells slots) {x y : Int32} (hdg : decode cc pc = .ok (.ixor, 1)) (k : WM p l e R s m args below meth c cells slots Q E A nL σ τ (pc + 1) lv (.int (x ^^^ y) :: rest)) : WM p l e R s m args below meth c cells slots Q E A nL σ τ pc lv (.int y :: .int x :: rest) := fun H locs ls hP hS hl => lv_ixor C.hx C.hb hdg (k H locs ls hP hS hl)
theorem x_ishl (C : xC p s m args meth c cc nL own ret E A R cells slots) {x y : Int32} (hdg : decode cc pc = .ok (.ishl, 1)) (k : WM p l e R s m args below meth c cells slots Q E A nL σ τ (pc + 1) lv (.int (x <<< (y &&& 31)) :: rest)) : WM p l e R s m args below meth c cells slots Q E A nL σ τ pc lv (.int y :: .int x :: rest) := fun H locs ls hP hS hl => lv_ishl C.hx C.hb hdg (k H locs ls hP hS hl)
theorem x_ishr (C : xC p s m args meth c cc nL own ret E A R cells slots) {x y : Int32} (hdg : decode cc pc = .ok (.ishr, 1)) (k : WM p l e R s m args below meth c cells slots Q E A nL σ τ (pc + 1) lv (.int (x >>> (y &&& 31)) :: rest)) : WM p l e R s m args below meth c cells slots Q E A nL σ τ pc lv (.int y :: .int x :: rest) := fun H locs ls hP hS hl => lv_ishr C.hx C.hb hdg (k H locs ls hP hS hl)
theorem x_iushr (C : xC p s m args meth c cc nL own ret E A R cells slots) {x y : Int32} (hdg : decode cc pc = .ok (.iushr, 1)) (k : WM p l e R s m args below meth c cells slots Q E A nL σ τ (pc + 1) lv (.int ((x.toUInt32 >>> (y.toUInt32 &&& Int32.toUInt32 31)).toInt32) :: rest)) : WM p l e R s m args below meth c cells slots Q E A nL σ τ pc lv (.int y :: .int x :: rest) := fun H locs ls hP hS hl => lv_iushr C.hx C.hb hdg rfl (k H locs ls hP hS hl)
theorem x_idiv (C : xC p s m args meth c cc nL own ret E A R cells slots) {x y : Int32} (hdg : decode cc pc = .ok (.idiv, 1)) (hne : ¬ y = 0) (k : WM p l e R s m args below meth c cells slots Q E A nL σ τ (pc + 1) lv (.int (x / y) :: rest)) : WM p l e R s m args below meth c cells slots Q E A nL σ τ pc lv (.int y :: .int x :: rest) := fun H locs ls hP hS hl => lv_idiv C.hx C.hb hdg hne (k H locs ls hP hS hl)
theorem x_irem (C : xC p s m args meth c cc nL own ret E A R cells slots) {x y : Int32} (hdg : decode cc pc = .ok (.irem, 1)) (hne : ¬ y = 0) (k : WM p l e R s m args below meth c cells slots Q E A nL σ τ (pc + 1) lv (.int (x - x / y * y) :: rest)) : WM p l e R s m args below meth c cells slots Q E A nL σ τ pc lv (.int y :: .int x :: rest) := fun H locs ls hP hS hl => lv_irem C.hx C.hb hdg hne (k H locs ls hP hS hl)
theorem x_ineg (C : xC p s m args meth c cc nL own ret E A R cells slots) {x : Int32} (hdg : decode cc pc = .ok (.ineg, 1)) (k : WM p l e R s m args below meth c cells slots Q E A nL σ τ (pc + 1) lv (.int (-x) :: rest)) : WM p l e R s m args below meth c cells slots Q E A nL σ τ pc lv (.int x :: rest) := fun H locs ls hP hS hl => lv_ineg C.hx C.hb hdg (k H locs ls hP hS hl)
theorem x_ladd (C : xC p s m args meth c cc nL own ret E A R cells slots) {x y : Int64} (hdg : decode cc pc = .ok (.ladd, 1)) (k : WM p l e R s m args below meth c cells slots Q E A nL σ τ (pc + 1) lv (.long (x + y) :: rest)) : WM p l e R s m args below meth c cells slots Q E A nL σ τ pc lv (.long y :: .long x :: rest) := fun H locs ls hP hS hl => lv_ladd C.hx C.hb hdg (k H locs ls hP hS hl)
theorem x_lsub (C : xC p s m args meth c cc nL own ret E A R cells slots) {x y : Int64} (hdg : decode cc pc = .ok (.lsub, 1)) (k : WM p l e R s m args below meth c cells slots Q E A nL σ τ (pc + 1) lv (.long (x - y) :: rest)) : WM p l e R s m args below meth c cells slots Q E A nL σ τ pc lv (.long y :: .long x :: rest) := fun H locs ls hP hS hl => lv_lsub C.hx C.hb hdg (k H locs ls hP hS hl)
theorem x_lmul (C : xC p s m args meth c cc nL own ret E A R cells slots) {x y : Int64} (hdg : decode cc pc = .ok (.lmul, 1)) (k : WM p l e R s m args below meth c cells slots Q E A nL σ τ (pc + 1) lv (.long (x * y) :: rest)) : WM p l e R s m args below meth c cells slots Q E A nL σ τ pc lv (.long y :: .long x :: rest) := fun H locs ls hP hS hl => lv_lmul C.hx C.hb hdg (k H locs ls hP hS hl)
theorem x_ldiv (C : xC p s m args meth c cc nL own ret E A R cells slots) {x y : Int64} (hdg : decode cc pc = .ok (.ldiv, 1)) (hne : ¬ y = 0) (k : WM p l e R s m args below meth c cells slots Q E A nL σ τ (pc + 1) lv (.long (x / y) :: rest)) : WM p l e R s m args below meth c cells slots Q E A nL σ τ pc lv (.long y :: .long x :: rest) := fun H locs ls hP hS hl => lv_ldiv C.hx C.hb hdg hne (k H locs ls hP hS hl)
theorem x_i2l (C : xC p s m args meth c cc nL own ret E A R cells slots) {x : Int32} (hdg : decode cc pc = .ok (.i2l, 1)) (k : WM p l e R s m args below meth c cells slots Q E A nL σ τ (pc + 1) lv (.long (x.toInt64) :: rest)) : WM p l e R s m args below meth c cells slots Q E A nL σ τ pc lv (.int x :: rest) := fun H locs ls hP hS hl => lv_i2l C.hx C.hb hdg rfl (k H locs ls hP hS hl)
theorem x_l2i (C : xC p s m args meth c cc nL own ret E A R cells slots) {x : Int64} (hdg : decode cc pc = .ok (.l2i, 1)) (k : WM p l e R s m args below meth c cells slots Q E A nL σ τ (pc + 1) lv (.int (x.toInt32) :: rest)) : WM p l e R s m args below meth c cells slots Q E A nL σ τ pc lv (.long x :: rest) := fun H locs ls hP hS hl => lv_l2i C.hx C.hb hdg rfl (k H locs ls hP hS hl)
theorem x_i2b (C : xC p s m args meth c cc nL own ret E A R cells slots) {x : Int32} (hdg : decode cc pc = .ok (.i2b, 1)) (k : WM p l e R s m args below meth c cells slots Q E A nL σ τ (pc + 1) lv (.int (x.toInt8.toInt32) :: rest)) : WM p l e R s m args below meth c cells slots Q E A nL σ τ pc lv (.int x :: rest) := fun H locs ls hP hS hl => lv_i2b C.hx C.hb hdg rfl (k H locs ls hP hS hl)
theorem x_i2s (C : xC p s m args meth c cc nL own ret E A R cells slots) {x : Int32} (hdg : decode cc pc = .ok (.i2s, 1)) (k : WM p l e R s m args below meth c cells slots Q E A nL σ τ (pc + 1) lv (.int (x.toInt16.toInt32) :: rest)) : WM p l e R s m args below meth c cells slots Q E A nL σ τ pc lv (.int x :: rest) := fun H locs ls hP hS hl => lv_i2s C.hx C.hb hdg rfl (k H locs ls hP hS hl)
theorem x_i2c (C : xC p s m args meth c cc nL own ret E A R cells slots) {x : Int32} (hdg : decode cc pc = .ok (.i2c, 1)) (k : WM p l e R s m args below meth c cells slots Q E A nL σ τ (pc + 1) lv (.int ((x.toUInt32 % 65536).toInt32) :: rest)) : WM p l e R s m args below meth c cells slots Q E A nL σ τ pc lv (.int x :: rest) := fun H locs ls hP hS hl => lv_i2c C.hx C.hb hdg rfl (k H locs ls hP hS hl)
theorem x_lcmp (C : xC p s m args meth c cc nL own ret E A R cells slots) {x y : Int64} (hdg : decode cc pc = .ok (.lcmp, 1)) (k : WM p l e R s m args below meth c cells slots Q E A nL σ τ (pc + 1) lv (.int (lg_cmp x y) :: rest)) : WM p l e R s m args below meth c cells slots Q E A nL σ τ pc lv (.long y :: .long x :: rest) := fun H locs ls hP hS hl => W.lcmp C.hx C.hb hdg (k H locs ls hP hS hl)
theorem x_dup (C : xC p s m args meth c cc nL own ret E A R cells slots) {va : Value} (hdg : decode cc pc = .ok (.dup, 1)) (hva : va.category = 1) (k : WM p l e R s m args below meth c cells slots Q E A nL σ τ (pc + 1) lv (va :: va :: rest)) : WM p l e R s m args below meth c cells slots Q E A nL σ τ pc lv (va :: rest) := fun H locs ls hP hS hl => lv_dup C.hx C.hb hdg hva (k H locs ls hP hS hl)
theorem x_dup2 (C : xC p s m args meth c cc nL own ret E A R cells slots) {va vb : Value} (hdg : decode cc pc = .ok (.dup2, 1)) (hva : va.category = 1) (hvb : vb.category = 1) (k : WM p l e R s m args below meth c cells slots Q E A nL σ τ (pc + 1) lv (va :: vb :: va :: vb :: rest)) : WM p l e R s m args below meth c cells slots Q E A nL σ τ pc lv (va :: vb :: rest) := fun H locs ls hP hS hl => lv_dup2_11 C.hx C.hb hdg hva hvb (k H locs ls hP hS hl)
theorem x_pop (C : xC p s m args meth c cc nL own ret E A R cells slots) {va : Value} (hdg : decode cc pc = .ok (.pop, 1)) (hva : va.category = 1) (k : WM p l e R s m args below meth c cells slots Q E A nL σ τ (pc + 1) lv (rest)) : WM p l e R s m args below meth c cells slots Q E A nL σ τ pc lv (va :: rest) := fun H locs ls hP hS hl => lv_pop C.hx C.hb hdg hva (k H locs ls hP hS hl)
theorem x_if_eq (C : xC p s m args meth c cc nL own ret E A R cells slots) {x : Int32} {off : Int} {tgt : Nat} (hdg : decode cc pc = .ok (.ifCond .eq off, 3)) (ht : (pc : Int) + off = (tgt : Int)) (kt : x = 0 → WM p l e R s m args below meth c cells slots Q E A nL σ τ tgt lv (rest)) (kf : ¬ x = 0 → WM p l e R s m args below meth c cells slots Q E A nL σ τ (pc + 3) lv (rest)) : WM p l e R s m args below meth c cells slots Q E A nL σ τ pc lv (.int x :: rest) := fun H locs ls hP hS hl => lv_if_eq C.hx C.hb hdg ht (fun h => kt (by first | exact h | exact Int32.not_lt.mpr h | exact Int32.not_le.mp h | exact Decidable.not_not.mp h | exact fun q => h (Int32.not_lt.mp q)) H locs ls hP hS hl) (fun h => kf (by first | exact h | exact Int32.not_lt.mpr h | exact Int32.not_le.mp h | exact Decidable.not_not.mp h | exact fun q => h (Int32.not_lt.mp q)) H locs ls hP hS hl)
theorem x_icmp_eq (C : xC p s m args meth c cc nL own ret E A R cells slots) {x y : Int32} {off : Int} {tgt : Nat} (hdg : decode cc pc = .ok (.if_icmp .eq off, 3)) (ht : (pc : Int) + off = (tgt : Int)) (kt : x = y → WM p l e R s m args below meth c cells slots Q E A nL σ τ tgt lv (rest)) (kf : ¬ x = y → WM p l e R s m args below meth c cells slots Q E A nL σ τ (pc + 3) lv (rest)) : WM p l e R s m args below meth c cells slots Q E A nL σ τ pc lv (.int y :: .int x :: rest) := fun H locs ls hP hS hl => lv_icmp_eq C.hx C.hb hdg ht (fun h => kt (by first | exact h | exact Int32.not_lt.mpr h | exact Int32.not_le.mp h | exact Decidable.not_not.mp h | exact fun q => h (Int32.not_lt.mp q)) H locs ls hP hS hl) (fun h => kf (by first | exact h | exact Int32.not_lt.mpr h | exact Int32.not_le.mp h | exact Decidable.not_not.mp h | exact fun q => h (Int32.not_lt.mp q)) H locs ls hP hS hl)
theorem x_if_ne (C : xC p s m args meth c cc nL own ret E A R cells slots) {x : Int32} {off : Int} {tgt : Nat} (hdg : decode cc pc = .ok (.ifCond .ne off, 3)) (ht : (pc : Int) + off = (tgt : Int)) (kt : ¬ x = 0 → WM p l e R s m args below meth c cells slots Q E A nL σ τ tgt lv (rest)) (kf : x = 0 → WM p l e R s m args below meth c cells slots Q E A nL σ τ (pc + 3) lv (rest)) : WM p l e R s m args below meth c cells slots Q E A nL σ τ pc lv (.int x :: rest) := fun H locs ls hP hS hl => lv_if_ne C.hx C.hb hdg ht (fun h => kt (by first | exact h | exact Int32.not_lt.mpr h | exact Int32.not_le.mp h | exact Decidable.not_not.mp h | exact fun q => h (Int32.not_lt.mp q)) H locs ls hP hS hl) (fun h => kf (by first | exact h | exact Int32.not_lt.mpr h | exact Int32.not_le.mp h | exact Decidable.not_not.mp h | exact fun q => h (Int32.not_lt.mp q)) H locs ls hP hS hl)
theorem x_icmp_ne (C : xC p s m args meth c cc nL own ret E A R cells slots) {x y : Int32} {off : Int} {tgt : Nat} (hdg : decode cc pc = .ok (.if_icmp .ne off, 3)) (ht : (pc : Int) + off = (tgt : Int)) (kt : ¬ x = y → WM p l e R s m args below meth c cells slots Q E A nL σ τ tgt lv (rest)) (kf : x = y → WM p l e R s m args below meth c cells slots Q E A nL σ τ (pc + 3) lv (rest)) : WM p l e R s m args below meth c cells slots Q E A nL σ τ pc lv (.int y :: .int x :: rest) := fun H locs ls hP hS hl => lv_icmp_ne C.hx C.hb hdg ht (fun h => kt (by first | exact h | exact Int32.not_lt.mpr h | exact Int32.not_le.mp h | exact Decidable.not_not.mp h | exact fun q => h (Int32.not_lt.mp q)) H locs ls hP hS hl) (fun h => kf (by first | exact h | exact Int32.not_lt.mpr h | exact Int32.not_le.mp h | exact Decidable.not_not.mp h | exact fun q => h (Int32.not_lt.mp q)) H locs ls hP hS hl)
theorem x_if_lt (C : xC p s m args meth c cc nL own ret E A R cells slots) {x : Int32} {off : Int} {tgt : Nat} (hdg : decode cc pc = .ok (.ifCond .lt off, 3)) (ht : (pc : Int) + off = (tgt : Int)) (kt : x < 0 → WM p l e R s m args below meth c cells slots Q E A nL σ τ tgt lv (rest)) (kf : ¬ x < 0 → WM p l e R s m args below meth c cells slots Q E A nL σ τ (pc + 3) lv (rest)) : WM p l e R s m args below meth c cells slots Q E A nL σ τ pc lv (.int x :: rest) := fun H locs ls hP hS hl => lv_if_lt C.hx C.hb hdg ht (fun h => kt (by first | exact h | exact Int32.not_lt.mpr h | exact Int32.not_le.mp h | exact Decidable.not_not.mp h | exact fun q => h (Int32.not_lt.mp q)) H locs ls hP hS hl) (fun h => kf (by first | exact h | exact Int32.not_lt.mpr h | exact Int32.not_le.mp h | exact Decidable.not_not.mp h | exact fun q => h (Int32.not_lt.mp q)) H locs ls hP hS hl)
theorem x_icmp_lt (C : xC p s m args meth c cc nL own ret E A R cells slots) {x y : Int32} {off : Int} {tgt : Nat} (hdg : decode cc pc = .ok (.if_icmp .lt off, 3)) (ht : (pc : Int) + off = (tgt : Int)) (kt : x < y → WM p l e R s m args below meth c cells slots Q E A nL σ τ tgt lv (rest)) (kf : ¬ x < y → WM p l e R s m args below meth c cells slots Q E A nL σ τ (pc + 3) lv (rest)) : WM p l e R s m args below meth c cells slots Q E A nL σ τ pc lv (.int y :: .int x :: rest) := fun H locs ls hP hS hl => lv_icmp_lt C.hx C.hb hdg ht (fun h => kt (by first | exact h | exact Int32.not_lt.mpr h | exact Int32.not_le.mp h | exact Decidable.not_not.mp h | exact fun q => h (Int32.not_lt.mp q)) H locs ls hP hS hl) (fun h => kf (by first | exact h | exact Int32.not_lt.mpr h | exact Int32.not_le.mp h | exact Decidable.not_not.mp h | exact fun q => h (Int32.not_lt.mp q)) H locs ls hP hS hl)
theorem x_if_ge (C : xC p s m args meth c cc nL own ret E A R cells slots) {x : Int32} {off : Int} {tgt : Nat} (hdg : decode cc pc = .ok (.ifCond .ge off, 3)) (ht : (pc : Int) + off = (tgt : Int)) (kt : ¬ x < 0 → WM p l e R s m args below meth c cells slots Q E A nL σ τ tgt lv (rest)) (kf : x < 0 → WM p l e R s m args below meth c cells slots Q E A nL σ τ (pc + 3) lv (rest)) : WM p l e R s m args below meth c cells slots Q E A nL σ τ pc lv (.int x :: rest) := fun H locs ls hP hS hl => lv_if_ge C.hx C.hb hdg ht (fun h => kt (by first | exact h | exact Int32.not_lt.mpr h | exact Int32.not_le.mp h | exact Decidable.not_not.mp h | exact fun q => h (Int32.not_lt.mp q)) H locs ls hP hS hl) (fun h => kf (by first | exact h | exact Int32.not_lt.mpr h | exact Int32.not_le.mp h | exact Decidable.not_not.mp h | exact fun q => h (Int32.not_lt.mp q)) H locs ls hP hS hl)
theorem x_icmp_ge (C : xC p s m args meth c cc nL own ret E A R cells slots) {x y : Int32} {off : Int} {tgt : Nat} (hdg : decode cc pc = .ok (.if_icmp .ge off, 3)) (ht : (pc : Int) + off = (tgt : Int)) (kt : ¬ x < y → WM p l e R s m args below meth c cells slots Q E A nL σ τ tgt lv (rest)) (kf : x < y → WM p l e R s m args below meth c cells slots Q E A nL σ τ (pc + 3) lv (rest)) : WM p l e R s m args below meth c cells slots Q E A nL σ τ pc lv (.int y :: .int x :: rest) := fun H locs ls hP hS hl => lv_icmp_ge C.hx C.hb hdg ht (fun h => kt (by first | exact h | exact Int32.not_lt.mpr h | exact Int32.not_le.mp h | exact Decidable.not_not.mp h | exact fun q => h (Int32.not_lt.mp q)) H locs ls hP hS hl) (fun h => kf (by first | exact h | exact Int32.not_lt.mpr h | exact Int32.not_le.mp h | exact Decidable.not_not.mp h | exact fun q => h (Int32.not_lt.mp q)) H locs ls hP hS hl)
theorem x_if_gt (C : xC p s m args meth c cc nL own ret E A R cells slots) {x : Int32} {off : Int} {tgt : Nat} (hdg : decode cc pc = .ok (.ifCond .gt off, 3)) (ht : (pc : Int) + off = (tgt : Int)) (kt : 0 < x → WM p l e R s m args below meth c cells slots Q E A nL σ τ tgt lv (rest)) (kf : ¬ 0 < x → WM p l e R s m args below meth c cells slots Q E A nL σ τ (pc + 3) lv (rest)) : WM p l e R s m args below meth c cells slots Q E A nL σ τ pc lv (.int x :: rest) := fun H locs ls hP hS hl => lv_if_gt C.hx C.hb hdg ht (fun h => kt (by first | exact h | exact Int32.not_lt.mpr h | exact Int32.not_le.mp h | exact Decidable.not_not.mp h | exact fun q => h (Int32.not_lt.mp q)) H locs ls hP hS hl) (fun h => kf (by first | exact h | exact Int32.not_lt.mpr h | exact Int32.not_le.mp h | exact Decidable.not_not.mp h | exact fun q => h (Int32.not_lt.mp q)) H locs ls hP hS hl)
theorem x_icmp_gt (C : xC p s m args meth c cc nL own ret E A R cells slots) {x y : Int32} {off : Int} {tgt : Nat} (hdg : decode cc pc = .ok (.if_icmp .gt off, 3)) (ht : (pc : Int) + off = (tgt : Int)) (kt : y < x → WM p l e R s m args below meth c cells slots Q E A nL σ τ tgt lv (rest)) (kf : ¬ y < x → WM p l e R s m args below meth c cells slots Q E A nL σ τ (pc + 3) lv (rest)) : WM p l e R s m args below meth c cells slots Q E A nL σ τ pc lv (.int y :: .int x :: rest) := fun H locs ls hP hS hl => lv_icmp_gt C.hx C.hb hdg ht (fun h => kt (by first | exact h | exact Int32.not_lt.mpr h | exact Int32.not_le.mp h | exact Decidable.not_not.mp h | exact fun q => h (Int32.not_lt.mp q)) H locs ls hP hS hl) (fun h => kf (by first | exact h | exact Int32.not_lt.mpr h | exact Int32.not_le.mp h | exact Decidable.not_not.mp h | exact fun q => h (Int32.not_lt.mp q)) H locs ls hP hS hl)
theorem x_if_le (C : xC p s m args meth c cc nL own ret E A R cells slots) {x : Int32} {off : Int} {tgt : Nat} (hdg : decode cc pc = .ok (.ifCond .le off, 3)) (ht : (pc : Int) + off = (tgt : Int)) (kt : ¬ 0 < x → WM p l e R s m args below meth c cells slots Q E A nL σ τ tgt lv (rest)) (kf : 0 < x → WM p l e R s m args below meth c cells slots Q E A nL σ τ (pc + 3) lv (rest)) : WM p l e R s m args below meth c cells slots Q E A nL σ τ pc lv (.int x :: rest) := fun H locs ls hP hS hl => lv_if_le C.hx C.hb hdg ht (fun h => kt (by first | exact h | exact Int32.not_lt.mpr h | exact Int32.not_le.mp h | exact Decidable.not_not.mp h | exact fun q => h (Int32.not_lt.mp q)) H locs ls hP hS hl) (fun h => kf (by first | exact h | exact Int32.not_lt.mpr h | exact Int32.not_le.mp h | exact Decidable.not_not.mp h | exact fun q => h (Int32.not_lt.mp q)) H locs ls hP hS hl)
theorem x_icmp_le (C : xC p s m args meth c cc nL own ret E A R cells slots) {x y : Int32} {off : Int} {tgt : Nat} (hdg : decode cc pc = .ok (.if_icmp .le off, 3)) (ht : (pc : Int) + off = (tgt : Int)) (kt : ¬ y < x → WM p l e R s m args below meth c cells slots Q E A nL σ τ tgt lv (rest)) (kf : y < x → WM p l e R s m args below meth c cells slots Q E A nL σ τ (pc + 3) lv (rest)) : WM p l e R s m args below meth c cells slots Q E A nL σ τ pc lv (.int y :: .int x :: rest) := fun H locs ls hP hS hl => lv_icmp_le C.hx C.hb hdg ht (fun h => kt (by first | exact h | exact Int32.not_lt.mpr h | exact Int32.not_le.mp h | exact Decidable.not_not.mp h | exact fun q => h (Int32.not_lt.mp q)) H locs ls hP hS hl) (fun h => kf (by first | exact h | exact Int32.not_lt.mpr h | exact Int32.not_le.mp h | exact Decidable.not_not.mp h | exact fun q => h (Int32.not_lt.mp q)) H locs ls hP hS hl)
theorem x_goto (C : xC p s m args meth c cc nL own ret E A R cells slots) {off : Int} {tgt : Nat} (hdg : decode cc pc = .ok (.goto off, 3)) (ht : (pc : Int) + off = (tgt : Int)) (k : WM p l e R s m args below meth c cells slots Q E A nL σ τ tgt lv (rest)) : WM p l e R s m args below meth c cells slots Q E A nL σ τ pc lv (rest) := fun H locs ls hP hS hl => lv_goto C.hx C.hb hdg ht (k H locs ls hP hS hl)
theorem x_goto2 (C : xC p s m args meth c cc nL own ret E A R cells slots) {off : Int} {tgt : Nat} (hdg : decode cc pc = .ok (.goto off, 3)) (ht : (pc : Int) + off = (tgt : Int)) (k : WM p l e R s m args below meth c cells slots Q E A nL σ τ tgt lv (rest)) : WM p l e R s m args below meth c cells slots Q E A nL σ τ pc lv (rest) := x_goto C hdg ht k
theorem x_tableOut (C : xC p s m args meth c cc nL own ret E A R cells slots) {dflt lo hi : Int} {offs : Array Int} {len : Nat} {x : Int32} {tgt : Nat} (hdg : decode cc pc = .ok (.tableswitch dflt lo hi offs, len)) (h : x.toInt < lo ∨ hi < x.toInt) (ht : (pc : Int) + dflt = (tgt : Int)) (k : WM p l e R s m args below meth c cells slots Q E A nL σ τ tgt lv (rest)) : WM p l e R s m args below meth c cells slots Q E A nL σ τ pc lv (.int x :: rest) := fun H locs ls hP hS hl => lv_tableOut C.hx C.hb hdg h ht (k H locs ls hP hS hl)
theorem x_tableIn (C : xC p s m args meth c cc nL own ret E A R cells slots) {dflt lo hi : Int} {offs : Array Int} {len : Nat} {x : Int32} {off : Int} {tgt : Nat} (hdg : decode cc pc = .ok (.tableswitch dflt lo hi offs, len)) (h1 : ¬ x.toInt < lo) (h2 : ¬ hi < x.toInt) (ho : offs[(x.toInt - lo).toNat]? = some off) (ht : (pc : Int) + off = (tgt : Int)) (k : WM p l e R s m args below meth c cells slots Q E A nL σ τ tgt lv (rest)) : WM p l e R s m args below meth c cells slots Q E A nL σ τ pc lv (.int x :: rest) := fun H locs ls hP hS hl => lv_tableIn C.hx C.hb hdg h1 h2 ho ht (k H locs ls hP hS hl)
theorem x_lookup (C : xC p s m args meth c cc nL own ret E A R cells slots) {dflt : Int} {ps : Array (Int × Int)} {len : Nat} {x : Int32} {off : Int} {tgt : Nat} (hdg : decode cc pc = .ok (.lookupswitch dflt ps, len)) (hp : (ps.toList.zip (ps.toList.drop 1)).all (fun (a, next) => a.1 < next.1) = true) (ho : Op.lookupswitch.offset ps.toList dflt x.toInt = off) (ht : (pc : Int) + off = (tgt : Int)) (k : WM p l e R s m args below meth c cells slots Q E A nL σ τ tgt lv (rest)) : WM p l e R s m args below meth c cells slots Q E A nL σ τ pc lv (.int x :: rest) := fun H locs ls hP hS hl => lv_lookup C.hx C.hb hdg hp ho ht (k H locs ls hP hS hl)
/-- a test of a condition -/
theorem x_ifeqB (C : xC p s m args meth c cc nL own ret E A R cells slots) {P : Prop} [Decidable P] {off : Int} {tgt : Nat} (hdg : decode cc pc = .ok (.ifCond .eq off, 3)) (ht : (pc : Int) + off = (tgt : Int)) (kt : ¬ P → WM p l e R s m args below meth c cells slots Q E A nL σ τ tgt lv (rest)) (kf : P → WM p l e R s m args below meth c cells slots Q E A nL σ τ (pc + 3) lv (rest)) : WM p l e R s m args below meth c cells slots Q E A nL σ τ pc lv (.int (if P then 1 else 0) :: rest) :=
  x_if_eq C hdg ht (fun h => kt (fun q => by rw [if_pos q] at h; cases h)) (fun h => kf (Decidable.not_not.mp (fun q => h (if_neg q))))
theorem x_ifneB (C : xC p s m args meth c cc nL own ret E A R cells slots) {P : Prop} [Decidable P] {off : Int} {tgt : Nat} (hdg : decode cc pc = .ok (.ifCond .ne off, 3)) (ht : (pc : Int) + off = (tgt : Int)) (kt : P → WM p l e R s m args below meth c cells slots Q E A nL σ τ tgt lv (rest)) (kf : ¬ P → WM p l e R s m args below meth c cells slots Q E A nL σ τ (pc + 3) lv (rest)) : WM p l e R s m args below meth c cells slots Q E A nL σ τ pc lv (.int (if P then 1 else 0) :: rest) :=
  x_if_ne C hdg ht (fun h => kt (Decidable.not_not.mp (fun q => h (if_neg q)))) (fun h => kf (fun q => by rw [if_pos q] at h; cases h))
theorem xcmp_lt {x y : Int64} : lg_cmp x y < 0 ↔ x < y := by
  unfold lg_cmp
  by_cases h1 : x > y
  · rw [if_pos h1]
    exact ⟨fun h => absurd h (by decide), fun h => absurd (Int64.lt_trans h h1) (Int64.lt_irrefl)⟩
  · rw [if_neg h1]
    by_cases h2 : x = y
    · subst h2
      rw [if_pos rfl]
      exact ⟨fun h => absurd h (by decide), fun h => absurd h (Int64.lt_irrefl)⟩
    · rw [if_neg h2]
      refine ⟨fun _ => ?_, fun _ => by decide⟩
      rw [Int64.lt_iff_toInt_lt]
      have h3 : ¬ y.toInt < x.toInt := fun q => h1 (Int64.lt_iff_toInt_lt.mpr q)
      have h4 : ¬ x.toInt = y.toInt := fun q => h2 (Int64.toInt_inj.mp q)
      omega
theorem xcmp_gt {x y : Int64} : 0 < lg_cmp x y ↔ y < x := by
  unfold lg_cmp
  by_cases h1 : x > y
  · rw [if_pos h1]
    exact ⟨fun _ => h1, fun _ => by decide⟩
  · rw [if_neg h1]
    refine ⟨fun h => ?_, fun h => absurd h h1⟩
    by_cases h2 : x = y
    · rw [if_pos h2] at h
      exact absurd h (by decide)
    · rw [if_neg h2] at h
      exact absurd h (by decide)
theorem xcmp_eq {x y : Int64} : lg_cmp x y = 0 ↔ x = y := by
  unfold lg_cmp
  by_cases h1 : x > y
  · rw [if_pos h1]
    exact ⟨fun h => absurd h (by decide), fun h => absurd (h ▸ h1) (Int64.lt_irrefl)⟩
  · rw [if_neg h1]
    by_cases h2 : x = y
    · rw [if_pos h2]
      exact ⟨fun _ => h2, fun _ => rfl⟩
    · rw [if_neg h2]
      exact ⟨fun h => absurd h (by decide), fun h => absurd h h2⟩
/-- where a field of an object stands -/
def xFl (own : String) (index ci f : Nat) : Prop := ∃ (Cn : String) (T : u_T) (N : Nat), vwCl[ci]? = some (Cn, T, N) ∧ f < N ∧ (∀ w ∈ u_ws Cn T N, w ∈ xT) ∧ Cond.fieldLink own index (T f).1 (T f).2.1 (T f).2.2.1 ∈ xT
def xFp (own : String) (index ci f : Nat) (ty : FieldType) : Prop := ∃ (Cn : String) (T : u_T) (N : Nat) (ty0 : Nat → FieldType), vwCl[ci]? = some (Cn, T, N) ∧ f < N ∧ (∀ w ∈ u_ws Cn T N, w ∈ xT) ∧ Cond.fieldLink own index (T f).1 (T f).2.1 (T f).2.2.1 ∈ xT ∧ (∀ k, k < N → parseFieldDescriptor (T k).2.2.1 = some (ty0 k)) ∧ (∀ a, a < N → ∀ b, b < N → a ≠ b → (T a).2.1 ≠ (T b).2.1) ∧ (T f).2.2.2 = false ∧ parseFieldDescriptor (T f).2.2.1 = some ty
theorem xcl_lt {ci : Nat} {q : vw_C} (h : vwCl[ci]? = some q) : ci < 9 := (List.getElem?_eq_some_iff.mp h).1
theorem xw_obj {k ci : Nat} {fs : List (Nat × Nat × Nat)} (hk : k < 94) (hd : xd k = (ci, fs)) (hc : ci < 9) : (xw E σ τ)[k]? = some (xad E k, .inr (ci, fs.map (xv E σ τ))) := by
  rw [xw_at hk, hd]
  unfold xce
  rw [if_pos hc]
theorem xw_arr {k n b o st : Nat} (hk : k < 94) (hd : xd k = (9, [(n, b, o), (st, 0, 0)])) : (xw E σ τ)[k]? = some (xad E k, .inl (xcA E 0, n, .inl (xtr n (fun j => σ b (o + st * j))))) := by
  rw [xw_at hk, hd]
  rfl
theorem xw_arq {k t n o st : Nat} (hk : k < 94) (ht : t = 1 ∨ t = 2) (hd : xd k = (9 + t, [(n, o, st)])) : (xw E σ τ)[k]? = some (xad E k, .inl (xcA E t, n, .inr (.inr (.inr (.inr (fun j => some (xad E (o + st * j)))))))) := by
  rw [xw_at hk, hd]
  rcases ht with rfl | rfl <;> rfl
theorem x_get (C : xC p s m args meth c cc nL own ret E A R cells slots) {k ci f index : Nat} {fs : List (Nat × Nat × Nat)} {q : Nat × Nat × Nat} {v : Value} (hk : k < 94) (hd : xd k = (ci, fs)) (hf : xFl own index ci f) (hq : fs[f]? = some q) (hv : xv E σ τ q = v) (hdg : decode cc pc = .ok (.getfield index, 3)) (kk : WM p l e R s m args below meth c cells slots Q E A nL σ τ (pc + 3) lv (v :: rest)) : WM p l e R s m args below meth c cells slots Q E A nL σ τ pc lv (.ref (xad E k) :: rest) := by
  obtain ⟨Cn, T, N, hc, hfN, hin, hlink⟩ := hf
  intro H locs ls hP hS hl
  exact va_get C.hx C.hb C.hts hin C.hown C.hK hP k (xw_obj hk hd (xcl_lt hc)) hc f hfN (C.hts _ hlink) (fun _ h => h) (by rw [List.getElem?_map, hq]; exact congrArg some hv) hdg (kk H locs ls hP hS hl)
theorem xset_map {k f : Nat} {fs : List (Nat × Nat × Nat)} {q : Nat × Nat × Nat} {v : Value} (hk : k < 94) (hfs : (xd k).2 = fs) (hq : fs[f]? = some q) (hv : xv E σ' τ' q = v) (ho : ∀ q2 ∈ fs, q2 ≠ q → xv E σ' τ' q2 = xv E σ τ q2) : (fs.map (xv E σ τ)).set f v = fs.map (xv E σ' τ') := by
  apply List.ext_getElem?
  intro j
  have hl := (List.getElem?_eq_some_iff.mp hq).1
  by_cases hj : j = f
  · subst hj
    rw [List.getElem?_set_self (by rw [List.length_map]; exact hl), List.getElem?_map, hq]
    exact congrArg some hv.symm
  · rw [List.getElem?_set_ne (Ne.symm hj), List.getElem?_map, List.getElem?_map]
    cases hx : fs[j]? with
    | none => rfl
    | some q2 =>
      refine congrArg some (ho q2 (List.mem_of_getElem? hx) ?_).symm
      rintro rfl
      exact hj (xnd hk (by rw [hfs]; exact hx) (by rw [hfs]; exact hq))
theorem x_put (C : xC p s m args meth c cc nL own ret E A R cells slots) {k ci f index b i : Nat} {fs : List (Nat × Nat × Nat)} {ty : FieldType} {x : Int32} (hk : k < 94) (hd : xd k = (ci, fs)) (hf : xFp own index ci f ty) (hq : fs[f]? = some (1, b, i)) (hn : narrow ty (.int x) = .int x) (hfit : fits ty (.int x) = true) (hσ : u2 σ b i x = σ') (hdg : decode cc pc = .ok (.putfield index, 3)) (kk : WM p l e R s m args below meth c cells slots Q E A nL σ' τ (pc + 3) lv (rest)) : WM p l e R s m args below meth c cells slots Q E A nL σ τ pc lv (.int x :: .ref (xad E k) :: rest) := by
  obtain ⟨Cn, T, N, ty0, hc, hfN, hin, hlink, hty, hnm, hfin, hpd⟩ := hf
  subst hσ
  intro H locs ls hP hS hl
  have hlen := (List.getElem?_eq_some_iff.mp hq).1
  have hfs : (xd k).2 = fs := by rw [hd]
  have hin2 : xin (xd k) b i = true := by
    rw [hd]
    unfold xin
    rw [if_pos (xcl_lt hc)]
    exact List.any_eq_true.mpr ⟨_, List.mem_of_getElem? hq, by simp⟩
  refine va_put C.hx C.hb C.hts hin ty0 hty hnm C.hown C.hK hP C.hI.D hS k (xw_obj hk hd (xcl_lt hc)) hc f hfN (C.hts _ hlink) (fun _ h => h) hfin hpd hn hfit (by rw [List.length_map]; exact hlen) hdg (fun H1 locs1 hP1 hD1 hS1 => kk H1 locs1 ls ?_ hS1 hl)
  refine xP.set hk hP1 (fun h => ?_) (xother hk hin2)
  rw [hd]
  unfold xce
  rw [if_pos (xcl_lt hc)]
  rw [xset_map hk hfs hq (show xv E (u2 σ b i x) τ (1, b, i) = _ from congrArg Value.int (u2_at σ b i x)) (fun q2 _ hne => ?_)] at h
  · exact h
  · obtain ⟨t, a, z⟩ := q2
    match t, hne with
    | 0, _ => rfl
    | 1, hne =>
      refine congrArg Value.int (u2_ne (fun w => hne ?_))
      have w1 : a = b := w.1
      have w2 : z = i := w.2
      rw [w1, w2]
    | 2, _ => rfl
    | n + 3, _ => rfl
theorem x_putL (C : xC p s m args meth c cc nL own ret E A R cells slots) {k ci f index a : Nat} {fs : List (Nat × Nat × Nat)} {x : Int64} (hk : k < 94) (hd : xd k = (ci, fs)) (hf : xFp own index ci f .long) (hq : fs[f]? = some (2, a, 0)) (hτ : va_up τ a x = τ') (hdg : decode cc pc = .ok (.putfield index, 3)) (kk : WM p l e R s m args below meth c cells slots Q E A nL σ τ' (pc + 3) lv (rest)) : WM p l e R s m args below meth c cells slots Q E A nL σ τ pc lv (.long x :: .ref (xad E k) :: rest) := by
  obtain ⟨Cn, T, N, ty0, hc, hfN, hin, hlink, hty, hnm, hfin, hpd⟩ := hf
  subst hτ
  intro H locs ls hP hS hl
  have hlen := (List.getElem?_eq_some_iff.mp hq).1
  have hfs : (xd k).2 = fs := by rw [hd]
  have hm : (2, a, 0) ∈ (xd k).2 := by rw [hfs]; exact List.mem_of_getElem? hq
  refine va_put C.hx C.hb C.hts hin ty0 hty hnm C.hown C.hK hP C.hI.D hS k (xw_obj hk hd (xcl_lt hc)) hc f hfN (C.hts _ hlink) (fun _ h => h) hfin hpd rfl rfl (by rw [List.length_map]; exact hlen) hdg (fun H1 locs1 hP1 hD1 hS1 => kk H1 locs1 ls ?_ hS1 hl)
  refine xP.set hk hP1 (fun h => ?_) (fun j hj hne => xce_agree (fun _ _ _ => rfl) (fun a2 h2 => va_up_ne _ _ (fun w => ?_)))
  · rw [hd]
    unfold xce
    rw [if_pos (xcl_lt hc)]
    rw [xset_map hk hfs hq (show xv E σ (va_up τ a x) (2, a, 0) = _ from congrArg Value.long (va_up_self τ a x)) (fun q2 hq2 hne => ?_)] at h
    · exact h
    · obtain ⟨t, a2, z⟩ := q2
      match t, hne, hq2 with
      | 0, _, _ => rfl
      | 1, _, _ => rfl
      | 2, hne, hq2 =>
        refine congrArg Value.long (va_up_ne _ _ (fun w => hne ?_))
        subst w
        have hz := List.all_eq_true.mp xL0 _ (xd_mem hk)
        have h4 : ¬ 9 ≤ (xd k).1 := by rw [hd]; have := xcl_lt hc; omega
        simp only [ge_iff_le, h4, decide_false, Bool.false_or] at hz
        rw [hfs] at hz
        have h3 := List.all_eq_true.mp hz _ hq2
        simp at h3
        rw [h3]
      | n + 3, _, _ => rfl
  · subst w
    rw [xsepL hk hj hne (by rw [hd]; exact xcl_lt hc) hm] at h2
    cases h2
/-- a place of an int array -/
theorem x_ald (C : xC p s m args meth c cc nL own ret E A R cells slots) {k n b o st : Nat} {i v : Int32} (hk : k < 94) (hd : xd k = (9, [(n, b, o), (st, 0, 0)])) (hin : vp_in i n) (hv : σ b (o + st * i.toNatClampNeg) = v) (hdg : decode cc pc = .ok (.iaload, 1)) (kk : WM p l e R s m args below meth c cells slots Q E A nL σ τ (pc + 1) lv (.int v :: rest)) : WM p l e R s m args below meth c cells slots Q E A nL σ τ pc lv (.int i :: .ref (xad E k) :: rest) := by
  intro H locs ls hP hS hl
  have hlt : i.toNatClampNeg < n := Nat.not_le.mp fun q => hin (Or.inr q)
  refine va_iald C.hx C.hb C.hK hP k 0 (xw_arr hk hd) rfl hin hdg ?_
  have e9 : xtr n (fun j => σ b (o + st * j)) i.toNatClampNeg = v := by
    unfold xtr
    rw [if_pos hlt]
    exact hv
  rw [e9]
  exact kk H locs ls hP hS hl
theorem x_ast (C : xC p s m args meth c cc nL own ret E A R cells slots) {k n b o st : Nat} {i x : Int32} (hk : k < 94) (hd : xd k = (9, [(n, b, o), (st, 0, 0)])) (hst : 0 < st) (hin : vp_in i n) (hσ : u2 σ b (o + st * i.toNatClampNeg) x = σ') (hdg : decode cc pc = .ok (.iastore, 1)) (kk : WM p l e R s m args below meth c cells slots Q E A nL σ' τ (pc + 1) lv (rest)) : WM p l e R s m args below meth c cells slots Q E A nL σ τ pc lv (.int x :: .int i :: .ref (xad E k) :: rest) := by
  subst hσ
  intro H locs ls hP hS hl
  have hlt : i.toNatClampNeg < n := Nat.not_le.mp fun q => hin (Or.inr q)
  have hin2 : xin (xd k) b (o + st * i.toNatClampNeg) = true := by
    have h := xin_arr (d := xd k) (by rw [hd]) (j := i.toNatClampNeg) (by rw [hd]; exact hlt)
    rw [hd] at h ⊢
    exact h
  refine va_iast C.hx C.hb C.hK hP C.hI.D hS k 0 (xw_arr hk hd) rfl hin hdg (fun H1 locs1 hP1 hD1 hS1 => kk H1 locs1 ls ?_ hS1 hl)
  refine xP.set hk hP1 (fun h => ?_) (xother hk hin2)
  have e : upd (xtr n (fun j => σ b (o + st * j))) i.toNatClampNeg x = xtr n (fun j => u2 σ b (o + st * i.toNatClampNeg) x b (o + st * j)) := by
    funext j
    unfold upd xtr
    by_cases hj : j = i.toNatClampNeg
    · subst hj
      rw [if_pos rfl, if_pos hlt]
      exact (u2_at _ _ _ _).symm
    · rw [if_neg hj]
      by_cases hjn : j < n
      · rw [if_pos hjn, if_pos hjn]
        refine (u2_ne ?_).symm
        rintro ⟨-, w⟩
        exact hj (Nat.eq_of_mul_eq_mul_left hst (Nat.add_left_cancel w))
      · rw [if_neg hjn, if_neg hjn]
  rw [e] at h
  rw [hd]
  exact h
theorem x_aldq (C : xC p s m args meth c cc nL own ret E A R cells slots) {k t n o st : Nat} {Cn : String} {i : Int32} {z : Nat} (hk : k < 94) (ht : t = 1 ∨ t = 2) (hd : xd k = (9 + t, [(n, o, st)])) (hty : (xtys E)[t]? = some (xcA E t, .object Cn)) (hin : vp_in i n) (hz : o + st * i.toNatClampNeg = z) (hdg : decode cc pc = .ok (.aaload, 1)) (kk : WM p l e R s m args below meth c cells slots Q E A nL σ τ (pc + 1) lv (.ref (xad E z) :: rest)) : WM p l e R s m args below meth c cells slots Q E A nL σ τ pc lv (.int i :: .ref (xad E k) :: rest) := by
  subst hz
  intro H locs ls hP hS hl
  exact va_aldq C.hx C.hb C.hK hP k t (xw_arq hk ht hd) hty hin hdg (kk H locs ls hP hS hl)
/-- a static table, and a place of it -/
theorem x_gets (C : xC p s m args meth c cc nL own ret E A R cells slots) {index : Nat} (t : Nat) (ht : t < 5) (hlink : Cond.fieldLink own index (xzc t) (xzn t) "[I" ∈ xT) (hdg : decode cc pc = .ok (.getstatic index, 3)) (kk : WM p l e R s m args below meth c cells slots Q E A nL σ τ (pc + 3) lv (.ref (xst E t) :: rest)) : WM p l e R s m args below meth c cells slots Q E A nL σ τ pc lv (rest) := by
  intro H locs ls hP hS hl
  exact va_gets C.hx C.hb (C.hZ.1 t ht).1 hS C.hown (C.hts _ hlink) (fun _ h => h) hdg (kk H locs ls hP hS hl)
theorem x_ti (C : xC p s m args meth c cc nL own ret E A R cells slots) (t : Nat) (ht : t < 5) {i v : Int32} (hin : vp_in i (xzl t).length) (hv : (xzl t).getD i.toNatClampNeg 0 = v) (hdg : decode cc pc = .ok (.iaload, 1)) (kk : WM p l e R s m args below meth c cells slots Q E A nL σ τ (pc + 1) lv (.int v :: rest)) : WM p l e R s m args below meth c cells slots Q E A nL σ τ pc lv (.int i :: .ref (xst E t) :: rest) := by
  intro H locs ls hP hS hl
  exact va_ti C.hx C.hb (C.hZ.1 t ht).2 hS hin (v := .int v) (by rw [hv]) hdg (kk H locs ls hP hS hl)

theorem x_mmax (C : xC p s m args meth c cc nL own ret E A R cells slots) {index : Nat} {x y : Int32} (hlink : Cond.methodLink own index Lib.Math.max.name ∈ xT) (h4 : Cond.static Lib.Math.max.name ∈ xT ∧ Cond.initialized "java/lang/Math" ∈ xT ∧ Cond.code Lib.Math.max.name Lib.Math.max.code 2 (some .int) ∈ xT) (hR : 1 ≤ R.frames ∧ (rest.map fun v => v.category).sum + 13 ≤ R.locals) (hdg : decode cc pc = .ok (.invokestatic index, 3)) (k : WM p l e R s m args below meth c cells slots Q E A nL σ τ (pc + 3) lv (.int (if x < y then y else x) :: rest)) : WM p l e R s m args below meth c cells slots Q E A nL σ τ pc lv (.int y :: .int x :: rest) := fun H locs ls hP hS hl => va_mmax C.hx C.hb (by rw [C.hml]; exact hl.1.symm) C.hown (C.hts _ hlink) (C.hts _ h4.1) (C.hts _ h4.2.1) (C.hts _ h4.2.2) hR.1 hR.2 C.hc.1 C.hc.2 hdg (k H locs ls hP hS hl)
theorem x_mmin (C : xC p s m args meth c cc nL own ret E A R cells slots) {index : Nat} {x y : Int32} (hlink : Cond.methodLink own index Lib.Math.min.name ∈ xT) (h4 : Cond.static Lib.Math.min.name ∈ xT ∧ Cond.initialized "java/lang/Math" ∈ xT ∧ Cond.code Lib.Math.min.name Lib.Math.min.code 2 (some .int) ∈ xT) (hR : 1 ≤ R.frames ∧ (rest.map fun v => v.category).sum + 13 ≤ R.locals) (hdg : decode cc pc = .ok (.invokestatic index, 3)) (k : WM p l e R s m args below meth c cells slots Q E A nL σ τ (pc + 3) lv (.int (if y < x then y else x) :: rest)) : WM p l e R s m args below meth c cells slots Q E A nL σ τ pc lv (.int y :: .int x :: rest) := fun H locs ls hP hS hl => va_mmin C.hx C.hb (by rw [C.hml]; exact hl.1.symm) C.hown (C.hts _ hlink) (C.hts _ h4.1) (C.hts _ h4.2.1) (C.hts _ h4.2.2) hR.1 hR.2 C.hc.1 C.hc.2 hdg (k H locs ls hP hS hl)
theorem x_mabs (C : xC p s m args meth c cc nL own ret E A R cells slots) {index : Nat} {x : Int32} (hlink : Cond.methodLink own index Lib.Math.abs.name ∈ xT) (h4 : Cond.static Lib.Math.abs.name ∈ xT ∧ Cond.initialized "java/lang/Math" ∈ xT ∧ Cond.code Lib.Math.abs.name Lib.Math.abs.code 1 (some .int) ∈ xT) (hR : 1 ≤ R.frames ∧ (rest.map fun v => v.category).sum + 13 ≤ R.locals) (hdg : decode cc pc = .ok (.invokestatic index, 3)) (k : WM p l e R s m args below meth c cells slots Q E A nL σ τ (pc + 3) lv (.int (if 0 ≤ x then x else 0 - x) :: rest)) : WM p l e R s m args below meth c cells slots Q E A nL σ τ pc lv (.int x :: rest) := fun H locs ls hP hS hl => va_mabs C.hx C.hb (by rw [C.hml]; exact hl.1.symm) C.hown (C.hts _ hlink) (C.hts _ h4.1) (C.hts _ h4.2.1) (C.hts _ h4.2.2) hR.1 hR.2 C.hc.1 C.hc.2 hdg (k H locs ls hP hS hl)
theorem x_mmaxL (C : xC p s m args meth c cc nL own ret E A R cells slots) {index : Nat} {x y : Int64} (hlink : Cond.methodLink own index Lib.MathLoose.max_long.x ∈ xT) (h4 : Cond.static Lib.MathLoose.max_long.x ∈ xT ∧ Cond.initialized "java/lang/Math" ∈ xT ∧ Cond.code Lib.MathLoose.max_long.x Lib.MathLoose.max_long.code 4 (some .long) ∈ xT) (hR : 1 ≤ R.frames ∧ (rest.map fun v => v.category).sum + 15 ≤ R.locals) (hdg : decode cc pc = .ok (.invokestatic index, 3)) (k : WM p l e R s m args below meth c cells slots Q E A nL σ τ (pc + 3) lv (.long (if y < x then x else y) :: rest)) : WM p l e R s m args below meth c cells slots Q E A nL σ τ pc lv (.long y :: .long x :: rest) := fun H locs ls hP hS hl => va_mmax_long C.hx C.hb (by rw [C.hml]; exact hl.1.symm) C.hown (C.hts _ hlink) (C.hts _ h4.1) (C.hts _ h4.2.1) (C.hts _ h4.2.2) hR.1 hR.2 C.hc.1 C.hc.2 hdg (k H locs ls hP hS hl)
theorem x_mminL (C : xC p s m args meth c cc nL own ret E A R cells slots) {index : Nat} {x y : Int64} (hlink : Cond.methodLink own index Lib.MathLoose.min_long.x ∈ xT) (h4 : Cond.static Lib.MathLoose.min_long.x ∈ xT ∧ Cond.initialized "java/lang/Math" ∈ xT ∧ Cond.code Lib.MathLoose.min_long.x Lib.MathLoose.min_long.code 4 (some .long) ∈ xT) (hR : 1 ≤ R.frames ∧ (rest.map fun v => v.category).sum + 15 ≤ R.locals) (hdg : decode cc pc = .ok (.invokestatic index, 3)) (k : WM p l e R s m args below meth c cells slots Q E A nL σ τ (pc + 3) lv (.long (if y < x then y else x) :: rest)) : WM p l e R s m args below meth c cells slots Q E A nL σ τ pc lv (.long y :: .long x :: rest) := fun H locs ls hP hS hl => va_mmin_long C.hx C.hb (by rw [C.hml]; exact hl.1.symm) C.hown (C.hts _ hlink) (C.hts _ h4.1) (C.hts _ h4.2.1) (C.hts _ h4.2.2) hR.1 hR.2 C.hc.1 C.hc.2 hdg (k H locs ls hP hS hl)
def xMi (l : Launch) (y : MethodName) (cc : ByteArray) (mL : Nat) (rt : FieldType) (fr lo : Nat) (E : xE) (av : List Value) (σ : Nat → Nat → Int32) (τ : Nat → Int64) (f : Int32) (σ' : Nat → Nat → Int32) (τ' : Nat → Int64) : Prop := Met l y (Cond.code y cc mL (some rt) :: xT) { frames := fr, cells := 0, slots := 0, locals := lo } (va_Pc av (xG E σ τ)) (va_Qi (fun r (_ : Unit) => r = f) (fun _ t => xP E σ' τ' t.heap) (xA E)) 0 0 (xA E)
theorem xMi_of {y : MethodName} {mL : Nat} {fr lo : Nat} {av : List Value} {rt : FieldType} {f : Int32} (hy : plainFor y = true) (ho : y.cls = own) (hav : (lg_sl av).length ≤ mL) (body : ∀ (p : Program) (e : Env) (s : State) (m : MethodId) (args : Array Value) (below : List Frame) (meth : Method) (c : Code), xC p s m args meth c cc mL own (some rt) E (xA E) { frames := fr, cells := 0, slots := 0, locals := lo } 0 0 → WM p l e { frames := fr, cells := 0, slots := 0, locals := lo } s m args below meth c 0 0 (MQ below (va_Qi (fun r (_ : Unit) => r = f) (fun _ t => xP E σ' τ' t.heap) (xA E)) args s 0 0 (xA E)) E (xA E) mL σ τ 0 (lv_args 0 av) []) : xMi l y cc mL rt fr lo E av σ τ f σ' τ' := by
  refine va_MetF (cc := cc) (maxL := mL) (ret := (some rt)) hy rfl ?_
  intro p e s m args below meth c s₁ B hml hv
  obtain ⟨rfl, hP, hK, hI, hZ⟩ := hv
  have hown : s.vm.findClass own = some m.cls := by rw [← ho]; exact findClass_of_methodNamed B.named
  have hts := atoms_spec (ws := Cond.code y cc mL (some rt) :: xT) B.pre
  have h := body p e s m av.toArray below meth c ⟨⟨B.exec, B.bytes, hml, hown, fun w hw => hts w (List.mem_cons_of_mem _ hw)⟩, B.returns, B.notSynchronized, hK, hI, hZ, Nat.zero_le _, Nat.zero_le _⟩
  rw [lg_entry_eq]
  exact h s.heap [] _ hP va_S.rf (lv_entry av hav)
def xMl (l : Launch) (y : MethodName) (cc : ByteArray) (mL : Nat) (fr lo : Nat) (E : xE) (av : List Value) (σ : Nat → Nat → Int32) (τ : Nat → Int64) (f : Int64) (σ' : Nat → Nat → Int32) (τ' : Nat → Int64) : Prop := Met l y (Cond.code y cc mL (some .long) :: xT) { frames := fr, cells := 0, slots := 0, locals := lo } (va_Pc av (xG E σ τ)) (va_Ql (fun r (_ : Unit) => r = f) (fun _ t => xP E σ' τ' t.heap) (xA E)) 0 0 (xA E)
theorem xMl_of {y : MethodName} {mL : Nat} {fr lo : Nat} {av : List Value} {f : Int64} (hy : plainFor y = true) (ho : y.cls = own) (hav : (lg_sl av).length ≤ mL) (body : ∀ (p : Program) (e : Env) (s : State) (m : MethodId) (args : Array Value) (below : List Frame) (meth : Method) (c : Code), xC p s m args meth c cc mL own (some .long) E (xA E) { frames := fr, cells := 0, slots := 0, locals := lo } 0 0 → WM p l e { frames := fr, cells := 0, slots := 0, locals := lo } s m args below meth c 0 0 (MQ below (va_Ql (fun r (_ : Unit) => r = f) (fun _ t => xP E σ' τ' t.heap) (xA E)) args s 0 0 (xA E)) E (xA E) mL σ τ 0 (lv_args 0 av) []) : xMl l y cc mL fr lo E av σ τ f σ' τ' := by
  refine va_MetF (cc := cc) (maxL := mL) (ret := (some .long)) hy rfl ?_
  intro p e s m args below meth c s₁ B hml hv
  obtain ⟨rfl, hP, hK, hI, hZ⟩ := hv
  have hown : s.vm.findClass own = some m.cls := by rw [← ho]; exact findClass_of_methodNamed B.named
  have hts := atoms_spec (ws := Cond.code y cc mL (some .long) :: xT) B.pre
  have h := body p e s m av.toArray below meth c ⟨⟨B.exec, B.bytes, hml, hown, fun w hw => hts w (List.mem_cons_of_mem _ hw)⟩, B.returns, B.notSynchronized, hK, hI, hZ, Nat.zero_le _, Nat.zero_le _⟩
  rw [lg_entry_eq]
  exact h s.heap [] _ hP va_S.rf (lv_entry av hav)
def xMv (l : Launch) (y : MethodName) (cc : ByteArray) (mL : Nat) (fr lo : Nat) (E : xE) (av : List Value) (σ : Nat → Nat → Int32) (τ : Nat → Int64) (σ' : Nat → Nat → Int32) (τ' : Nat → Int64) : Prop := Met l y (Cond.code y cc mL none :: xT) { frames := fr, cells := 0, slots := 0, locals := lo } (va_Pc av (xG E σ τ)) (va_Qv (fun _ : Unit => True) (fun _ t => xP E σ' τ' t.heap) (xA E)) 0 0 (xA E)
theorem xMv_of {y : MethodName} {mL : Nat} {fr lo : Nat} {av : List Value} (hy : plainFor y = true) (ho : y.cls = own) (hav : (lg_sl av).length ≤ mL) (body : ∀ (p : Program) (e : Env) (s : State) (m : MethodId) (args : Array Value) (below : List Frame) (meth : Method) (c : Code), xC p s m args meth c cc mL own none E (xA E) { frames := fr, cells := 0, slots := 0, locals := lo } 0 0 → WM p l e { frames := fr, cells := 0, slots := 0, locals := lo } s m args below meth c 0 0 (MQ below (va_Qv (fun _ : Unit => True) (fun _ t => xP E σ' τ' t.heap) (xA E)) args s 0 0 (xA E)) E (xA E) mL σ τ 0 (lv_args 0 av) []) : xMv l y cc mL fr lo E av σ τ σ' τ' := by
  refine va_MetF (cc := cc) (maxL := mL) (ret := none) hy rfl ?_
  intro p e s m args below meth c s₁ B hml hv
  obtain ⟨rfl, hP, hK, hI, hZ⟩ := hv
  have hown : s.vm.findClass own = some m.cls := by rw [← ho]; exact findClass_of_methodNamed B.named
  have hts := atoms_spec (ws := Cond.code y cc mL none :: xT) B.pre
  have h := body p e s m av.toArray below meth c ⟨⟨B.exec, B.bytes, hml, hown, fun w hw => hts w (List.mem_cons_of_mem _ hw)⟩, B.returns, B.notSynchronized, hK, hI, hZ, Nat.zero_le _, Nat.zero_le _⟩
  rw [lg_entry_eq]
  exact h s.heap [] _ hP va_S.rf (lv_entry av hav)
def xMr (l : Launch) (y : MethodName) (cc : ByteArray) (mL : Nat) (rt : FieldType) (fr lo : Nat) (E : xE) (av : List Value) (σ : Nat → Nat → Int32) (τ : Nat → Int64) (f : Nat) (σ' : Nat → Nat → Int32) (τ' : Nat → Int64) : Prop := Met l y (Cond.code y cc mL (some rt) :: xT) { frames := fr, cells := 0, slots := 0, locals := lo } (va_Pc av (xG E σ τ)) (va_Qr (fun _ : Unit => True) (fun _ a t => a = f ∧ xP E σ' τ' t.heap) (xA E)) 0 0 (xA E)
theorem xMr_of {y : MethodName} {mL : Nat} {fr lo : Nat} {av : List Value} {rt : FieldType} {f : Nat} (hy : plainFor y = true) (ho : y.cls = own) (hav : (lg_sl av).length ≤ mL) (body : ∀ (p : Program) (e : Env) (s : State) (m : MethodId) (args : Array Value) (below : List Frame) (meth : Method) (c : Code), xC p s m args meth c cc mL own (some rt) E (xA E) { frames := fr, cells := 0, slots := 0, locals := lo } 0 0 → WM p l e { frames := fr, cells := 0, slots := 0, locals := lo } s m args below meth c 0 0 (MQ below (va_Qr (fun _ : Unit => True) (fun _ a t => a = f ∧ xP E σ' τ' t.heap) (xA E)) args s 0 0 (xA E)) E (xA E) mL σ τ 0 (lv_args 0 av) []) : xMr l y cc mL rt fr lo E av σ τ f σ' τ' := by
  refine va_MetF (cc := cc) (maxL := mL) (ret := (some rt)) hy rfl ?_
  intro p e s m args below meth c s₁ B hml hv
  obtain ⟨rfl, hP, hK, hI, hZ⟩ := hv
  have hown : s.vm.findClass own = some m.cls := by rw [← ho]; exact findClass_of_methodNamed B.named
  have hts := atoms_spec (ws := Cond.code y cc mL (some rt) :: xT) B.pre
  have h := body p e s m av.toArray below meth c ⟨⟨B.exec, B.bytes, hml, hown, fun w hw => hts w (List.mem_cons_of_mem _ hw)⟩, B.returns, B.notSynchronized, hK, hI, hZ, Nat.zero_le _, Nat.zero_le _⟩
  rw [lg_entry_eq]
  exact h s.heap [] _ hP va_S.rf (lv_entry av hav)
theorem x_iret (C : xC p s m args meth c cc nL own (some .int) E (xA E) R 0 0) {v f : Int32} (hv : v = f) (hs : σ = σ') (htt : τ = τ') (hdg : decode cc pc = .ok (.ireturn, 1)) : WM p l e R s m args below meth c 0 0 (MQ below (va_Qi (fun r (_ : Unit) => r = f) (fun _ t => xP E σ' τ' t.heap) (xA E)) args s 0 0 (xA E)) E (xA E) nL σ τ pc lv [.int v] := by
  subst hs
  subst htt
  intro H locs ls hP hS hl
  exact W.iret C.hx C.hb C.hr (fun t ht hW => ⟨⟨v, (), rfl, hv, by show xP E σ τ t.heap; rw [ht]; exact hP⟩, hS.F ht⟩) hS.2.2 hdg C.hlk
theorem x_zret {rt : FieldType} (C : xC p s m args meth c cc nL own (some rt) E (xA E) R 0 0) {v f : Int32} (hn : narrow rt (.int v) = .int v) (hv : v = f) (hs : σ = σ') (htt : τ = τ') (hdg : decode cc pc = .ok (.ireturn, 1)) : WM p l e R s m args below meth c 0 0 (MQ below (va_Qi (fun r (_ : Unit) => r = f) (fun _ t => xP E σ' τ' t.heap) (xA E)) args s 0 0 (xA E)) E (xA E) nL σ τ pc lv [.int v] := by
  subst hs
  subst htt
  intro H locs ls hP hS hl
  exact W.zret C.hx C.hb C.hr hn (fun t ht hW => ⟨⟨v, (), rfl, hv, by show xP E σ τ t.heap; rw [ht]; exact hP⟩, hS.F ht⟩) hS.2.2 hdg C.hlk
theorem x_vret (C : xC p s m args meth c cc nL own none E (xA E) R 0 0) (hs : σ = σ') (htt : τ = τ') (hdg : decode cc pc = .ok (.return_, 1)) : WM p l e R s m args below meth c 0 0 (MQ below (va_Qv (fun _ : Unit => True) (fun _ t => xP E σ' τ' t.heap) (xA E)) args s 0 0 (xA E)) E (xA E) nL σ τ pc lv [] := by
  subst hs
  subst htt
  intro H locs ls hP hS hl
  exact W.vret C.hx C.hb C.hr (fun t ht hW => ⟨⟨(), rfl, trivial, by show xP E σ τ t.heap; rw [ht]; exact hP⟩, hS.F ht⟩) hS.2.2 hdg C.hlk
theorem x_lret (C : xC p s m args meth c cc nL own (some .long) E (xA E) R 0 0) {v f : Int64} (hv : v = f) (hs : σ = σ') (htt : τ = τ') (hdg : decode cc pc = .ok (.lreturn, 1)) : WM p l e R s m args below meth c 0 0 (MQ below (va_Ql (fun r (_ : Unit) => r = f) (fun _ t => xP E σ' τ' t.heap) (xA E)) args s 0 0 (xA E)) E (xA E) nL σ τ pc lv [.long v] := by
  subst hs
  subst htt
  intro H locs ls hP hS hl
  exact W.lret C.hx C.hb C.hr (fun t ht hW => ⟨⟨v, (), rfl, hv, by show xP E σ τ t.heap; rw [ht]; exact hP⟩, hS.F ht⟩) hS.2.2 hdg C.hlk
theorem x_aret {rt : FieldType} (C : xC p s m args meth c cc nL own (some rt) E (xA E) R 0 0) {v f : Nat} (hrt : (∃ n, rt = .object n) ∨ ∃ t, rt = .array t) (hv : v = f) (hs : σ = σ') (htt : τ = τ') (hdg : decode cc pc = .ok (.areturn, 1)) : WM p l e R s m args below meth c 0 0 (MQ below (va_Qr (fun _ : Unit => True) (fun _ a t => a = f ∧ xP E σ' τ' t.heap) (xA E)) args s 0 0 (xA E)) E (xA E) nL σ τ pc lv [.ref v] := by
  subst hs
  subst htt
  intro H locs ls hP hS hl
  exact W.aret C.hx C.hb C.hr hrt (Or.inr ⟨_, rfl⟩) (fun t ht hW => ⟨⟨(), v, rfl, trivial, hv, by show xP E σ τ t.heap; rw [ht]; exact hP⟩, hS.F ht⟩) hS.2.2 hdg C.hlk
theorem xGood {y : MethodName} {bytes : ByteArray} {mL : Nat} {rt : Option FieldType} (h : Cond.code y bytes mL rt ∈ xT) : GoodIn xT (Cond.code y bytes mL rt :: xT) := by
  intro w hw
  rcases List.mem_cons.mp hw with rfl | hw
  · exact ⟨h, xT_good h⟩
  · exact ⟨hw, xT_good hw⟩
def xLV (own : String) (index : Nat) (Cn : String) (y : MethodName) (bytes : ByteArray) (mL : Nat) (rt : Option FieldType) (n : Nat) : Prop :=
  Cond.methodLink own index y ∈ xT ∧ Cond.instanceMethod y ∈ xT ∧ Cond.selects Cn y y ∈ xT ∧ Cond.initialized Cn ∈ xT ∧ Cond.code y bytes mL rt ∈ xT ∧ y.cls = Cn ∧ y.cls ≠ "java/lang/invoke/MethodHandle" ∧ y.cls ≠ "java/lang/invoke/VarHandle" ∧ (parseMethodDescriptor y.desc).map (fun d => d.parameters.length) = some n
def xLS (own : String) (index : Nat) (y : MethodName) (bytes : ByteArray) (mL : Nat) (rt : Option FieldType) (n : Nat) : Prop :=
  Cond.methodLink own index y ∈ xT ∧ Cond.static y ∈ xT ∧ Cond.initialized y.cls ∈ xT ∧ Cond.code y bytes mL rt ∈ xT ∧ y.cls ≠ "java/lang/invoke/MethodHandle" ∧ y.cls ≠ "java/lang/invoke/VarHandle" ∧ (parseMethodDescriptor y.desc).map (fun d => d.parameters.length) = some n
def xLN (own : String) (index : Nat) (y : MethodName) (host : String) (bytes : ByteArray) (mL : Nat) (rt : Option FieldType) (n : Nat) : Prop :=
  Cond.methodLinkNest own index y host ∈ lw_tbl ∧ Cond.static y ∈ xT ∧ Cond.initialized y.cls ∈ xT ∧ Cond.code y bytes mL rt ∈ xT ∧ y.cls ≠ "java/lang/invoke/MethodHandle" ∧ y.cls ≠ "java/lang/invoke/VarHandle" ∧ (parseMethodDescriptor y.desc).map (fun d => d.parameters.length) = some n
theorem xgi3 {a b c2 : Cond} {ws : List Cond} (ha : a ∈ xT) (hb : b ∈ xT) (hc : c2 ∈ xT) (hw : GoodIn xT ws) : GoodIn xT ([a, b, c2] ++ ws) := by
  intro w h
  rcases List.mem_append.mp h with h | h
  · have hm : w ∈ xT := by
      rcases List.mem_cons.mp h with rfl | h
      · exact ha
      · rcases List.mem_cons.mp h with rfl | h
        · exact hb
        · rw [List.mem_singleton.mp h]; exact hc
    exact ⟨hm, xT_good hm⟩
  · exact hw w h
theorem xgi4 {a b c2 d : Cond} {ws : List Cond} (ha : a ∈ xT) (hb : b ∈ xT) (hc : c2 ∈ xT) (hd : d ∈ xT) (hw : GoodIn xT ws) : GoodIn xT ([a, b, c2, d] ++ ws) := by
  intro w h
  rcases List.mem_append.mp h with h | h
  · have hm : w ∈ xT := by
      rcases List.mem_cons.mp h with rfl | h
      · exact ha
      · rcases List.mem_cons.mp h with rfl | h
        · exact hb
        · rcases List.mem_cons.mp h with rfl | h
          · exact hc
          · rw [List.mem_singleton.mp h]; exact hd
    exact ⟨hm, xT_good hm⟩
  · exact hw w h
theorem x_callVi (C : xC p s m args meth c cc nL own ret E A R cells slots) {b index mL fr lo n : Nat} {Cn : String} {y : MethodName} {bytes : ByteArray} {As st : List Value} {rt : FieldType} {f : Int32} (hM : xMi l y bytes mL rt fr lo E (.ref b :: As) σ τ f σ' τ') (hL : xLV own index Cn y bytes mL (some rt) n) (hr : ∀ H : Heap, xP E σ τ H → ∃ cell : Cell, H[b]? = some cell ∧ cell.vm.isStatics = false ∧ s.vm.findClass Cn = some cell.cls) (hR : fr + 1 ≤ R.frames ∧ 8 + (mL + 11) + lo ≤ R.locals) (hn : As.length = n) (hst : st = As.reverse ++ .ref b :: rest) (hrm : (rest.map fun v => v.category).sum ≤ 8) (hdg : decode cc pc = .ok (.invokevirtual index, 3)) (kk : WM p l e R s m args below meth c cells slots Q E A nL σ' τ' (pc + 3) lv (.int f :: rest)) : WM p l e R s m args below meth c cells slots Q E A nL σ τ pc lv (st) := by
  subst hst
  obtain ⟨h1, h2, h3, h4, h5, h6, h7, h8, h9⟩ := hL
  intro H locs ls hP hS hl
  have hAA : ∀ q, xA E q → A q := C.hI.sub
  exact va_calli (va_runV (As := As) (rest := rest) C.1 hM (cwV n C.hts (xgi4 h1 h2 h3 h4 (xGood h5)) rfl rfl rfl ⟨h6, h7, h8, h9⟩ hR) ⟨xG.blind, hr H hP, fun U hU hW => ⟨rfl, by rw [hU]; exact hP, va_K.moved hW.alike C.hK, C.hI.self, C.hZ.go (H := U.heap) (by rw [hU]; exact hS) hW C.hI.sub⟩⟩ rfl hn hl.1 rfl (lv_room hrm) hdg C.hc) hS (fun q _ h => hAA q h) hAA (fun r u t H1 locs1 ht hvm hw hB hz hk1 hS1 => by
    subst hw
    rw [ht] at hB
    exact kk H1 locs1 ls hB hS1 hl)
theorem x_callSi (C : xC p s m args meth c cc nL own ret E A R cells slots) {index mL fr lo n : Nat} {y : MethodName} {bytes : ByteArray} {As st : List Value} {rt : FieldType} {f : Int32} (hM : xMi l y bytes mL rt fr lo E As σ τ f σ' τ') (hL : xLS own index y bytes mL (some rt) n) (hR : fr + 1 ≤ R.frames ∧ 8 + (mL + 11) + lo ≤ R.locals) (hn : As.length = n) (hst : st = As.reverse ++ rest) (hrm : (rest.map fun v => v.category).sum ≤ 8) (hdg : decode cc pc = .ok (.invokestatic index, 3)) (kk : WM p l e R s m args below meth c cells slots Q E A nL σ' τ' (pc + 3) lv (.int f :: rest)) : WM p l e R s m args below meth c cells slots Q E A nL σ τ pc lv (st) := by
  subst hst
  obtain ⟨h1, h2, h3, h5, h7, h8, h9⟩ := hL
  intro H locs ls hP hS hl
  have hAA : ∀ q, xA E q → A q := C.hI.sub
  exact va_calli (va_runS (As := As) (rest := rest) C.1 hM (va_cwS n C.hts (xgi3 h1 h2 h3 (xGood h5)) rfl rfl rfl ⟨h7, h8, h9⟩ hR) ⟨xG.blind, fun U hU hW => ⟨rfl, by rw [hU]; exact hP, va_K.moved hW.alike C.hK, C.hI.self, C.hZ.go (H := U.heap) (by rw [hU]; exact hS) hW C.hI.sub⟩⟩ rfl hn hl.1 rfl (lv_room hrm) hdg C.hc) hS (fun q _ h => hAA q h) hAA (fun r u t H1 locs1 ht hvm hw hB hz hk1 hS1 => by
    subst hw
    rw [ht] at hB
    exact kk H1 locs1 ls hB hS1 hl)
theorem x_callNi (C : xC p s m args meth c cc nL own ret E A R cells slots) {index mL fr lo n : Nat} {host : String} {y : MethodName} {bytes : ByteArray} {As st : List Value} {rt : FieldType} {f : Int32} (hM : xMi l y bytes mL rt fr lo E As σ τ f σ' τ') (hL : xLN own index y host bytes mL (some rt) n) (hR : fr + 1 ≤ R.frames ∧ 8 + (mL + 11) + lo ≤ R.locals) (hn : As.length = n) (hst : st = As.reverse ++ rest) (hrm : (rest.map fun v => v.category).sum ≤ 8) (hdg : decode cc pc = .ok (.invokestatic index, 3)) (kk : WM p l e R s m args below meth c cells slots Q E A nL σ' τ' (pc + 3) lv (.int f :: rest)) : WM p l e R s m args below meth c cells slots Q E A nL σ τ pc lv (st) := by
  subst hst
  obtain ⟨h1, h2, h3, h5, h7, h8, h9⟩ := hL
  intro H locs ls hP hS hl
  have hAA : ∀ q, xA E q → A q := C.hI.sub
  exact va_calli (va_runSN (As := As) (rest := rest) C.1 hM ⟨va_cnB n C.hts (xGood h5) rfl rfl rfl (C.hZ.2.2.2.1 _ _ _ _ h1) (C.hts _ h3) ⟨h7, h8, h9⟩ hR, C.hts _ h2, trivial⟩ ⟨xG.blind, fun U hU hW => ⟨rfl, by rw [hU]; exact hP, va_K.moved hW.alike C.hK, C.hI.self, C.hZ.go (H := U.heap) (by rw [hU]; exact hS) hW C.hI.sub⟩⟩ rfl hn hl.1 rfl (lv_room hrm) hdg C.hc) hS (fun q _ h => hAA q h) hAA (fun r u t H1 locs1 ht hvm hw hB hz hk1 hS1 => by
    subst hw
    rw [ht] at hB
    exact kk H1 locs1 ls hB hS1 hl)
theorem x_callVl (C : xC p s m args meth c cc nL own ret E A R cells slots) {b index mL fr lo n : Nat} {Cn : String} {y : MethodName} {bytes : ByteArray} {As st : List Value} {f : Int64} (hM : xMl l y bytes mL fr lo E (.ref b :: As) σ τ f σ' τ') (hL : xLV own index Cn y bytes mL (some .long) n) (hr : ∀ H : Heap, xP E σ τ H → ∃ cell : Cell, H[b]? = some cell ∧ cell.vm.isStatics = false ∧ s.vm.findClass Cn = some cell.cls) (hR : fr + 1 ≤ R.frames ∧ 8 + (mL + 11) + lo ≤ R.locals) (hn : As.length = n) (hst : st = As.reverse ++ .ref b :: rest) (hrm : (rest.map fun v => v.category).sum ≤ 8) (hdg : decode cc pc = .ok (.invokevirtual index, 3)) (kk : WM p l e R s m args below meth c cells slots Q E A nL σ' τ' (pc + 3) lv (.long f :: rest)) : WM p l e R s m args below meth c cells slots Q E A nL σ τ pc lv (st) := by
  subst hst
  obtain ⟨h1, h2, h3, h4, h5, h6, h7, h8, h9⟩ := hL
  intro H locs ls hP hS hl
  have hAA : ∀ q, xA E q → A q := C.hI.sub
  exact va_calll (va_runV (As := As) (rest := rest) C.1 hM (cwV n C.hts (xgi4 h1 h2 h3 h4 (xGood h5)) rfl rfl rfl ⟨h6, h7, h8, h9⟩ hR) ⟨xG.blind, hr H hP, fun U hU hW => ⟨rfl, by rw [hU]; exact hP, va_K.moved hW.alike C.hK, C.hI.self, C.hZ.go (H := U.heap) (by rw [hU]; exact hS) hW C.hI.sub⟩⟩ rfl hn hl.1 rfl (lv_room hrm) hdg C.hc) hS (fun q _ h => hAA q h) hAA (fun r u t H1 locs1 ht hvm hw hB hz hk1 hS1 => by
    subst hw
    rw [ht] at hB
    exact kk H1 locs1 ls hB hS1 hl)
theorem x_callSl (C : xC p s m args meth c cc nL own ret E A R cells slots) {index mL fr lo n : Nat} {y : MethodName} {bytes : ByteArray} {As st : List Value} {f : Int64} (hM : xMl l y bytes mL fr lo E As σ τ f σ' τ') (hL : xLS own index y bytes mL (some .long) n) (hR : fr + 1 ≤ R.frames ∧ 8 + (mL + 11) + lo ≤ R.locals) (hn : As.length = n) (hst : st = As.reverse ++ rest) (hrm : (rest.map fun v => v.category).sum ≤ 8) (hdg : decode cc pc = .ok (.invokestatic index, 3)) (kk : WM p l e R s m args below meth c cells slots Q E A nL σ' τ' (pc + 3) lv (.long f :: rest)) : WM p l e R s m args below meth c cells slots Q E A nL σ τ pc lv (st) := by
  subst hst
  obtain ⟨h1, h2, h3, h5, h7, h8, h9⟩ := hL
  intro H locs ls hP hS hl
  have hAA : ∀ q, xA E q → A q := C.hI.sub
  exact va_calll (va_runS (As := As) (rest := rest) C.1 hM (va_cwS n C.hts (xgi3 h1 h2 h3 (xGood h5)) rfl rfl rfl ⟨h7, h8, h9⟩ hR) ⟨xG.blind, fun U hU hW => ⟨rfl, by rw [hU]; exact hP, va_K.moved hW.alike C.hK, C.hI.self, C.hZ.go (H := U.heap) (by rw [hU]; exact hS) hW C.hI.sub⟩⟩ rfl hn hl.1 rfl (lv_room hrm) hdg C.hc) hS (fun q _ h => hAA q h) hAA (fun r u t H1 locs1 ht hvm hw hB hz hk1 hS1 => by
    subst hw
    rw [ht] at hB
    exact kk H1 locs1 ls hB hS1 hl)
theorem x_callVv (C : xC p s m args meth c cc nL own ret E A R cells slots) {b index mL fr lo n : Nat} {Cn : String} {y : MethodName} {bytes : ByteArray} {As st : List Value} (hM : xMv l y bytes mL fr lo E (.ref b :: As) σ τ σ' τ') (hL : xLV own index Cn y bytes mL none n) (hr : ∀ H : Heap, xP E σ τ H → ∃ cell : Cell, H[b]? = some cell ∧ cell.vm.isStatics = false ∧ s.vm.findClass Cn = some cell.cls) (hR : fr + 1 ≤ R.frames ∧ 8 + (mL + 11) + lo ≤ R.locals) (hn : As.length = n) (hst : st = As.reverse ++ .ref b :: rest) (hrm : (rest.map fun v => v.category).sum ≤ 8) (hdg : decode cc pc = .ok (.invokevirtual index, 3)) (kk : WM p l e R s m args below meth c cells slots Q E A nL σ' τ' (pc + 3) lv (rest)) : WM p l e R s m args below meth c cells slots Q E A nL σ τ pc lv (st) := by
  subst hst
  obtain ⟨h1, h2, h3, h4, h5, h6, h7, h8, h9⟩ := hL
  intro H locs ls hP hS hl
  have hAA : ∀ q, xA E q → A q := C.hI.sub
  exact va_callv (va_runV (As := As) (rest := rest) C.1 hM (cwV n C.hts (xgi4 h1 h2 h3 h4 (xGood h5)) rfl rfl rfl ⟨h6, h7, h8, h9⟩ hR) ⟨xG.blind, hr H hP, fun U hU hW => ⟨rfl, by rw [hU]; exact hP, va_K.moved hW.alike C.hK, C.hI.self, C.hZ.go (H := U.heap) (by rw [hU]; exact hS) hW C.hI.sub⟩⟩ rfl hn hl.1 rfl (lv_room hrm) hdg C.hc) hS (fun q _ h => hAA q h) hAA (fun u t H1 locs1 ht hvm hw hB hz hk1 hS1 => by
    rw [ht] at hB
    exact kk H1 locs1 ls hB hS1 hl)
theorem x_callSv (C : xC p s m args meth c cc nL own ret E A R cells slots) {index mL fr lo n : Nat} {y : MethodName} {bytes : ByteArray} {As st : List Value} (hM : xMv l y bytes mL fr lo E As σ τ σ' τ') (hL : xLS own index y bytes mL none n) (hR : fr + 1 ≤ R.frames ∧ 8 + (mL + 11) + lo ≤ R.locals) (hn : As.length = n) (hst : st = As.reverse ++ rest) (hrm : (rest.map fun v => v.category).sum ≤ 8) (hdg : decode cc pc = .ok (.invokestatic index, 3)) (kk : WM p l e R s m args below meth c cells slots Q E A nL σ' τ' (pc + 3) lv (rest)) : WM p l e R s m args below meth c cells slots Q E A nL σ τ pc lv (st) := by
  subst hst
  obtain ⟨h1, h2, h3, h5, h7, h8, h9⟩ := hL
  intro H locs ls hP hS hl
  have hAA : ∀ q, xA E q → A q := C.hI.sub
  exact va_callv (va_runS (As := As) (rest := rest) C.1 hM (va_cwS n C.hts (xgi3 h1 h2 h3 (xGood h5)) rfl rfl rfl ⟨h7, h8, h9⟩ hR) ⟨xG.blind, fun U hU hW => ⟨rfl, by rw [hU]; exact hP, va_K.moved hW.alike C.hK, C.hI.self, C.hZ.go (H := U.heap) (by rw [hU]; exact hS) hW C.hI.sub⟩⟩ rfl hn hl.1 rfl (lv_room hrm) hdg C.hc) hS (fun q _ h => hAA q h) hAA (fun u t H1 locs1 ht hvm hw hB hz hk1 hS1 => by
    rw [ht] at hB
    exact kk H1 locs1 ls hB hS1 hl)
theorem x_callVr (C : xC p s m args meth c cc nL own ret E A R cells slots) {b index mL fr lo n : Nat} {Cn : String} {y : MethodName} {bytes : ByteArray} {As st : List Value} {rt : FieldType} {f : Nat} (hM : xMr l y bytes mL rt fr lo E (.ref b :: As) σ τ f σ' τ') (hL : xLV own index Cn y bytes mL (some rt) n) (hr : ∀ H : Heap, xP E σ τ H → ∃ cell : Cell, H[b]? = some cell ∧ cell.vm.isStatics = false ∧ s.vm.findClass Cn = some cell.cls) (hR : fr + 1 ≤ R.frames ∧ 8 + (mL + 11) + lo ≤ R.locals) (hn : As.length = n) (hst : st = As.reverse ++ .ref b :: rest) (hrm : (rest.map fun v => v.category).sum ≤ 8) (hdg : decode cc pc = .ok (.invokevirtual index, 3)) (kk : WM p l e R s m args below meth c cells slots Q E A nL σ' τ' (pc + 3) lv (.ref f :: rest)) : WM p l e R s m args below meth c cells slots Q E A nL σ τ pc lv (st) := by
  subst hst
  obtain ⟨h1, h2, h3, h4, h5, h6, h7, h8, h9⟩ := hL
  intro H locs ls hP hS hl
  have hAA : ∀ q, xA E q → A q := C.hI.sub
  exact va_callr (va_runV (As := As) (rest := rest) C.1 hM (cwV n C.hts (xgi4 h1 h2 h3 h4 (xGood h5)) rfl rfl rfl ⟨h6, h7, h8, h9⟩ hR) ⟨xG.blind, hr H hP, fun U hU hW => ⟨rfl, by rw [hU]; exact hP, va_K.moved hW.alike C.hK, C.hI.self, C.hZ.go (H := U.heap) (by rw [hU]; exact hS) hW C.hI.sub⟩⟩ rfl hn hl.1 rfl (lv_room hrm) hdg C.hc) hS (fun q _ h => hAA q h) hAA (fun u ra t H1 locs1 ht hvm hw hB hz hk1 hS1 => by
    obtain ⟨hra, hB⟩ := hB
    subst hra
    rw [ht] at hB
    exact kk H1 locs1 ls hB hS1 hl)
theorem x_callSr (C : xC p s m args meth c cc nL own ret E A R cells slots) {index mL fr lo n : Nat} {y : MethodName} {bytes : ByteArray} {As st : List Value} {rt : FieldType} {f : Nat} (hM : xMr l y bytes mL rt fr lo E As σ τ f σ' τ') (hL : xLS own index y bytes mL (some rt) n) (hR : fr + 1 ≤ R.frames ∧ 8 + (mL + 11) + lo ≤ R.locals) (hn : As.length = n) (hst : st = As.reverse ++ rest) (hrm : (rest.map fun v => v.category).sum ≤ 8) (hdg : decode cc pc = .ok (.invokestatic index, 3)) (kk : WM p l e R s m args below meth c cells slots Q E A nL σ' τ' (pc + 3) lv (.ref f :: rest)) : WM p l e R s m args below meth c cells slots Q E A nL σ τ pc lv (st) := by
  subst hst
  obtain ⟨h1, h2, h3, h5, h7, h8, h9⟩ := hL
  intro H locs ls hP hS hl
  have hAA : ∀ q, xA E q → A q := C.hI.sub
  exact va_callr (va_runS (As := As) (rest := rest) C.1 hM (va_cwS n C.hts (xgi3 h1 h2 h3 (xGood h5)) rfl rfl rfl ⟨h7, h8, h9⟩ hR) ⟨xG.blind, fun U hU hW => ⟨rfl, by rw [hU]; exact hP, va_K.moved hW.alike C.hK, C.hI.self, C.hZ.go (H := U.heap) (by rw [hU]; exact hS) hW C.hI.sub⟩⟩ rfl hn hl.1 rfl (lv_room hrm) hdg C.hc) hS (fun q _ h => hAA q h) hAA (fun u ra t H1 locs1 ht hvm hw hB hz hk1 hS1 => by
    obtain ⟨hra, hB⟩ := hB
    subst hra
    rw [ht] at hB
    exact kk H1 locs1 ls hB hS1 hl)
theorem x_copy (C : xC p s m args meth c cc nL own ret E A R cells slots) {index k0 k1 n0 b0 o0 st0 n1 b1 o1 st1 : Nat} {sp dp n : Int32} (hk0 : k0 < 94) (hd0 : xd k0 = (9, [(n0, b0, o0), (st0, 0, 0)])) (hk1 : k1 < 94) (hd1 : xd k1 = (9, [(n1, b1, o1), (st1, 0, 0)])) (h1 : ¬ sp < 0) (h2 : ¬ dp < 0) (h3 : ¬ n < 0) (h4 : sp.toNatClampNeg + n.toNatClampNeg ≤ n0) (h5 : dp.toNatClampNeg + n.toNatClampNeg ≤ n1) (hσ : ∀ j, j < n1 → σ' b1 (o1 + st1 * j) = if dp.toNatClampNeg ≤ j ∧ j < dp.toNatClampNeg + n.toNatClampNeg then σ b0 (o0 + st0 * (sp.toNatClampNeg + (j - dp.toNatClampNeg))) else σ b1 (o1 + st1 * j)) (ho : ∀ b i, xin (xd k1) b i = false → σ' b i = σ b i)
    (hw : Cond.methodLink own index arraycopyName ∈ xT ∧ Cond.native arraycopyName ∈ xT ∧ Cond.static arraycopyName ∈ xT ∧ Cond.initialized "java/lang/System" ∈ xT) (hR : 1 ≤ R.frames ∧ (rest.map fun v => v.category).sum + (nativeFrameWords "java/lang/System" "arraycopy" 5 + 11) ≤ R.locals) (hdg : decode cc pc = .ok (.invokestatic index, 3)) (kk : WM p l e R s m args below meth c cells slots Q E A nL σ' τ (pc + 3) lv (rest)) : WM p l e R s m args below meth c cells slots Q E A nL σ τ pc lv (.int n :: .int dp :: .ref (xad E k1) :: .int sp :: .ref (xad E k0) :: rest) := by
  intro H locs ls hP hS hl
  refine va_copyi C.hx C.hb (by rw [C.hml]; exact hl.1.symm) C.hown (C.hts _ hw.1) (C.hts _ hw.2.1) (C.hts _ hw.2.2.1) (C.hts _ hw.2.2.2) C.hK hP C.hI.D hS k0 k1 0 0 (xw_arr hk0 hd0) (xw_arr hk1 hd1) (ty := .int) rfl rfl rfl h1 h2 h3 h4 h5 (fun _ _ => rfl) hR.1 hR.2 hdg (fun H1 locs1 hP1 hD1 hS1 => kk H1 locs1 ls ?_ hS1 hl)
  refine xP.set hk1 hP1 (fun h => ?_) (fun j hj hne => xce_agree (fun b i hb => ho b i (xsep hj hk1 (Ne.symm hne) hb)) (fun _ _ => rfl))
  have e : va_cpy (xtr n0 (fun j => σ b0 (o0 + st0 * j))) (xtr n1 (fun j => σ b1 (o1 + st1 * j))) sp.toNatClampNeg dp.toNatClampNeg n.toNatClampNeg = xtr n1 (fun j => σ' b1 (o1 + st1 * j)) := by
    funext j
    unfold va_cpy xtr
    by_cases hj : j < n1
    · rw [if_pos hj, if_pos hj]
      show _ = σ' b1 (o1 + st1 * j)
      rw [hσ j hj]
      by_cases hr : dp.toNatClampNeg ≤ j ∧ j < dp.toNatClampNeg + n.toNatClampNeg
      · rw [if_pos hr, if_pos hr, if_pos (by omega)]
      · rw [if_neg hr, if_neg hr]
    · rw [if_neg hj, if_neg hj, if_neg (by omega)]
  rw [e] at h
  rw [hd1]
  exact h
theorem x_recv (C : xC p s m args meth c cc nL own ret E A R cells slots) {k ci : Nat} {fs : List (Nat × Nat × Nat)} {Cn : String} {T : u_T} {N : Nat} (hk : k < 94) (hd : xd k = (ci, fs)) (hc : vwCl[ci]? = some (Cn, T, N)) : ∀ H : Heap, xP E σ τ H → ∃ cell : Cell, H[xad E k]? = some cell ∧ cell.vm.isStatics = false ∧ s.vm.findClass Cn = some cell.cls := fun H hP => va_recv C.hK hP hc (xw_obj hk hd (xcl_lt hc))
end XROWS
end
section
/-! the cells, a row each; what the instructions link, a fact each -/
theorem xm_all {ws : List Cond} (is : List Nat) (h : is.map (fun i => lw_tbl[i]?) = ws.map some) (g : ws.all goodWord = true) : ∀ w ∈ ws, w ∈ xT := by
  intro w hw
  obtain ⟨j, hj⟩ := List.mem_iff_getElem?.mp hw
  have h1 : (ws.map some)[j]? = some (some w) := by rw [List.getElem?_map, hj]; rfl
  rw [← h, List.getElem?_map] at h1
  cases hi : is[j]? with
  | none => rw [hi] at h1; cases h1
  | some i =>
    rw [hi] at h1
    exact xm i (Option.some.inj h1) (List.all_eq_true.mp g w hw)
theorem xd_0 : xd 0 = (7, [(0, 1, 0), (0, 28, 0), (1, 6, 0), (0, 55, 0), (0, 57, 0), (0, 58, 0), (0, 59, 0), (0, 65, 0), (0, 71, 0), (0, 72, 0)]) := rfl
theorem xd_1 : xd 1 = (3, [(0, 2, 0), (0, 8, 0), (1, 0, 13), (0, 9, 0), (1, 0, 12)]) := rfl
theorem xd_2 : xd 2 = (6, [(0, 3, 0), (0, 4, 0), (0, 5, 0), (0, 6, 0), (0, 7, 0), (1, 0, 4), (1, 0, 5), (1, 0, 6), (1, 0, 7), (1, 0, 8), (1, 0, 9), (1, 0, 10), (1, 0, 11)]) := rfl
theorem xd_3 : xd 3 = (9, [(4, 0, 0), (1, 0, 0)]) := rfl
theorem xd_4 : xd 4 = (9, [(12, 0, 32), (1, 0, 0)]) := rfl
theorem xd_5 : xd 5 = (9, [(12, 0, 20), (1, 0, 0)]) := rfl
theorem xd_6 : xd 6 = (9, [(40, 0, 44), (2, 0, 0)]) := rfl
theorem xd_7 : xd 7 = (9, [(40, 0, 45), (2, 0, 0)]) := rfl
theorem xd_8 : xd 8 = (10, [(6, 10, 3)]) := rfl
theorem xd_9 : xd 9 = (9, [(10, 0, 124), (1, 0, 0)]) := rfl
theorem xd_10 : xd 10 = (0, [(0, 11, 0), (0, 12, 0), (1, 0, 134)]) := rfl
theorem xd_11 : xd 11 = (9, [(12, 0, 135), (2, 0, 0)]) := rfl
theorem xd_12 : xd 12 = (9, [(12, 0, 136), (2, 0, 0)]) := rfl
theorem xd_13 : xd 13 = (0, [(0, 14, 0), (0, 15, 0), (1, 0, 159)]) := rfl
theorem xd_14 : xd 14 = (9, [(12, 0, 160), (2, 0, 0)]) := rfl
theorem xd_15 : xd 15 = (9, [(12, 0, 161), (2, 0, 0)]) := rfl
theorem xd_16 : xd 16 = (0, [(0, 17, 0), (0, 18, 0), (1, 0, 184)]) := rfl
theorem xd_17 : xd 17 = (9, [(12, 0, 185), (2, 0, 0)]) := rfl
theorem xd_18 : xd 18 = (9, [(12, 0, 186), (2, 0, 0)]) := rfl
theorem xd_19 : xd 19 = (0, [(0, 20, 0), (0, 21, 0), (1, 0, 209)]) := rfl
theorem xd_20 : xd 20 = (9, [(12, 0, 210), (2, 0, 0)]) := rfl
theorem xd_21 : xd 21 = (9, [(12, 0, 211), (2, 0, 0)]) := rfl
theorem xd_22 : xd 22 = (0, [(0, 23, 0), (0, 24, 0), (1, 0, 234)]) := rfl
theorem xd_23 : xd 23 = (9, [(12, 0, 235), (2, 0, 0)]) := rfl
theorem xd_24 : xd 24 = (9, [(12, 0, 236), (2, 0, 0)]) := rfl
theorem xd_25 : xd 25 = (0, [(0, 26, 0), (0, 27, 0), (1, 0, 259)]) := rfl
theorem xd_26 : xd 26 = (9, [(12, 0, 260), (2, 0, 0)]) := rfl
theorem xd_27 : xd 27 = (9, [(12, 0, 261), (2, 0, 0)]) := rfl
theorem xd_28 : xd 28 = (3, [(0, 29, 0), (0, 35, 0), (1, 1, 13), (0, 36, 0), (1, 1, 12)]) := rfl
theorem xd_29 : xd 29 = (6, [(0, 30, 0), (0, 31, 0), (0, 32, 0), (0, 33, 0), (0, 34, 0), (1, 1, 4), (1, 1, 5), (1, 1, 6), (1, 1, 7), (1, 1, 8), (1, 1, 9), (1, 1, 10), (1, 1, 11)]) := rfl
theorem xd_30 : xd 30 = (9, [(4, 1, 0), (1, 0, 0)]) := rfl
theorem xd_31 : xd 31 = (9, [(12, 1, 32), (1, 0, 0)]) := rfl
theorem xd_32 : xd 32 = (9, [(12, 1, 20), (1, 0, 0)]) := rfl
theorem xd_33 : xd 33 = (9, [(40, 1, 44), (2, 0, 0)]) := rfl
theorem xd_34 : xd 34 = (9, [(40, 1, 45), (2, 0, 0)]) := rfl
theorem xd_35 : xd 35 = (10, [(6, 37, 3)]) := rfl
theorem xd_36 : xd 36 = (9, [(10, 1, 124), (1, 0, 0)]) := rfl
theorem xd_37 : xd 37 = (0, [(0, 38, 0), (0, 39, 0), (1, 1, 134)]) := rfl
theorem xd_38 : xd 38 = (9, [(12, 1, 135), (2, 0, 0)]) := rfl
theorem xd_39 : xd 39 = (9, [(12, 1, 136), (2, 0, 0)]) := rfl
theorem xd_40 : xd 40 = (0, [(0, 41, 0), (0, 42, 0), (1, 1, 159)]) := rfl
theorem xd_41 : xd 41 = (9, [(12, 1, 160), (2, 0, 0)]) := rfl
theorem xd_42 : xd 42 = (9, [(12, 1, 161), (2, 0, 0)]) := rfl
theorem xd_43 : xd 43 = (0, [(0, 44, 0), (0, 45, 0), (1, 1, 184)]) := rfl
theorem xd_44 : xd 44 = (9, [(12, 1, 185), (2, 0, 0)]) := rfl
theorem xd_45 : xd 45 = (9, [(12, 1, 186), (2, 0, 0)]) := rfl
theorem xd_46 : xd 46 = (0, [(0, 47, 0), (0, 48, 0), (1, 1, 209)]) := rfl
theorem xd_47 : xd 47 = (9, [(12, 1, 210), (2, 0, 0)]) := rfl
theorem xd_48 : xd 48 = (9, [(12, 1, 211), (2, 0, 0)]) := rfl
theorem xd_49 : xd 49 = (0, [(0, 50, 0), (0, 51, 0), (1, 1, 234)]) := rfl
theorem xd_50 : xd 50 = (9, [(12, 1, 235), (2, 0, 0)]) := rfl
theorem xd_51 : xd 51 = (9, [(12, 1, 236), (2, 0, 0)]) := rfl
theorem xd_52 : xd 52 = (0, [(0, 53, 0), (0, 54, 0), (1, 1, 259)]) := rfl
theorem xd_53 : xd 53 = (9, [(12, 1, 260), (2, 0, 0)]) := rfl
theorem xd_54 : xd 54 = (9, [(12, 1, 261), (2, 0, 0)]) := rfl
theorem xd_55 : xd 55 = (4, [(0, 56, 0), (1, 6, 1)]) := rfl
theorem xd_56 : xd 56 = (9, [(100, 5, 0), (1, 0, 0)]) := rfl
theorem xd_57 : xd 57 = (5, [(0, 55, 0), (1, 6, 2), (1, 6, 3), (1, 6, 4), (1, 6, 5)]) := rfl
theorem xd_58 : xd 58 = (11, [(4, 73, 2)]) := rfl
theorem xd_59 : xd 59 = (6, [(0, 60, 0), (0, 61, 0), (0, 62, 0), (0, 63, 0), (0, 64, 0), (1, 2, 4), (1, 2, 5), (1, 2, 6), (1, 2, 7), (1, 2, 8), (1, 2, 9), (1, 2, 10), (1, 2, 11)]) := rfl
theorem xd_60 : xd 60 = (9, [(4, 2, 0), (1, 0, 0)]) := rfl
theorem xd_61 : xd 61 = (9, [(12, 2, 32), (1, 0, 0)]) := rfl
theorem xd_62 : xd 62 = (9, [(12, 2, 20), (1, 0, 0)]) := rfl
theorem xd_63 : xd 63 = (9, [(40, 2, 44), (2, 0, 0)]) := rfl
theorem xd_64 : xd 64 = (9, [(40, 2, 45), (2, 0, 0)]) := rfl
theorem xd_65 : xd 65 = (6, [(0, 66, 0), (0, 67, 0), (0, 68, 0), (0, 69, 0), (0, 70, 0), (1, 3, 4), (1, 3, 5), (1, 3, 6), (1, 3, 7), (1, 3, 8), (1, 3, 9), (1, 3, 10), (1, 3, 11)]) := rfl
theorem xd_66 : xd 66 = (9, [(4, 3, 0), (1, 0, 0)]) := rfl
theorem xd_67 : xd 67 = (9, [(12, 3, 32), (1, 0, 0)]) := rfl
theorem xd_68 : xd 68 = (9, [(12, 3, 20), (1, 0, 0)]) := rfl
theorem xd_69 : xd 69 = (9, [(40, 3, 44), (2, 0, 0)]) := rfl
theorem xd_70 : xd 70 = (9, [(40, 3, 45), (2, 0, 0)]) := rfl
theorem xd_71 : xd 71 = (2, [(2, 0, 0), (2, 1, 0), (2, 2, 0)]) := rfl
theorem xd_72 : xd 72 = (9, [(7, 4, 0), (1, 0, 0)]) := rfl
theorem xd_73 : xd 73 = (1, [(0, 74, 0), (1, 7, 0), (1, 8, 0)]) := rfl
theorem xd_74 : xd 74 = (9, [(40, 9, 0), (1, 0, 0)]) := rfl
theorem xd_75 : xd 75 = (1, [(0, 76, 0), (1, 7, 1), (1, 8, 1)]) := rfl
theorem xd_76 : xd 76 = (9, [(40, 9, 40), (1, 0, 0)]) := rfl
theorem xd_77 : xd 77 = (1, [(0, 78, 0), (1, 7, 2), (1, 8, 2)]) := rfl
theorem xd_78 : xd 78 = (9, [(40, 9, 80), (1, 0, 0)]) := rfl
theorem xd_79 : xd 79 = (1, [(0, 80, 0), (1, 7, 3), (1, 8, 3)]) := rfl
theorem xd_80 : xd 80 = (9, [(40, 9, 120), (1, 0, 0)]) := rfl
theorem xd_81 : xd 81 = (8, [(0, 82, 0), (0, 83, 0), (0, 84, 0), (0, 85, 0), (1, 17, 0), (0, 86, 0), (0, 87, 0), (0, 88, 0), (1, 17, 1), (1, 17, 2), (1, 17, 3), (1, 17, 4), (2, 3, 0), (1, 17, 5), (1, 17, 6), (0, 89, 0), (0, 90, 0), (0, 91, 0), (0, 92, 0), (0, 93, 0)]) := rfl
theorem xd_82 : xd 82 = (9, [(284, 10, 0), (1, 0, 0)]) := rfl
theorem xd_83 : xd 83 = (9, [(284, 11, 0), (1, 0, 0)]) := rfl
theorem xd_84 : xd 84 = (9, [(284, 12, 0), (1, 0, 0)]) := rfl
theorem xd_85 : xd 85 = (9, [(284, 13, 0), (1, 0, 0)]) := rfl
theorem xd_86 : xd 86 = (9, [(7, 14, 0), (1, 0, 0)]) := rfl
theorem xd_87 : xd 87 = (9, [(12, 15, 0), (1, 0, 0)]) := rfl
theorem xd_88 : xd 88 = (9, [(100, 16, 0), (1, 0, 0)]) := rfl
theorem xd_89 : xd 89 = (9, [(3, 22, 0), (1, 0, 0)]) := rfl
theorem xd_90 : xd 90 = (9, [(4, 18, 0), (1, 0, 0)]) := rfl
theorem xd_91 : xd 91 = (9, [(4, 19, 0), (1, 0, 0)]) := rfl
theorem xd_92 : xd 92 = (9, [(160, 20, 0), (1, 0, 0)]) := rfl
theorem xd_93 : xd 93 = (9, [(40, 21, 0), (1, 0, 0)]) := rfl
theorem xin_X0 : ∀ w ∈ u_ws RX0 TX0 3, w ∈ xT := xm_all [142, 144, 146] (by decide +kernel) (by decide +kernel)
theorem xin_X1 : ∀ w ∈ u_ws RX1 TX1 3, w ∈ xT := xm_all [241, 243, 245] (by decide +kernel) (by decide +kernel)
theorem xin_X2 : ∀ w ∈ u_ws RX2 TX2 3, w ∈ xT := xm_all [223, 225, 227] (by decide +kernel) (by decide +kernel)
theorem xin_X3 : ∀ w ∈ u_ws RX3 TX3 5, w ∈ xT := xm_all [159, 161, 163, 165, 167] (by decide +kernel) (by decide +kernel)
theorem xin_X4 : ∀ w ∈ u_ws RX4 TX4 2, w ∈ xT := xm_all [180, 182] (by decide +kernel) (by decide +kernel)
theorem xin_X5 : ∀ w ∈ u_ws RX5 TX5 5, w ∈ xT := xm_all [196, 198, 200, 202, 204] (by decide +kernel) (by decide +kernel)
theorem xin_X6 : ∀ w ∈ u_ws RX6 TX6 13, w ∈ xT := xm_all [102, 104, 106, 108, 110, 112, 114, 116, 118, 120, 122, 124, 126] (by decide +kernel) (by decide +kernel)
theorem xin_X7 : ∀ w ∈ u_ws RX7 TX7 10, w ∈ xT := xm_all [258, 260, 262, 264, 266, 268, 270, 272, 274, 276] (by decide +kernel) (by decide +kernel)
theorem xin_X8 : ∀ w ∈ u_ws RX8 TX8 20, w ∈ xT := xm_all [851, 853, 855, 857, 859, 861, 863, 865, 867, 869, 871, 873, 875, 877, 879, 881, 883, 885, 887, 889] (by decide +kernel) (by decide +kernel)
def yJ_Icmp : MethodName := ⟨"java/lang/Integer", "compare", "(II)I"⟩
abbrev cJ_Icmp : ByteArray := prog_11_method_40_code
theorem dJ_Icmp_0 : decode cJ_Icmp 0 = .ok (.iload_n 0, 1) := by decide +kernel
theorem dJ_Icmp_1 : decode cJ_Icmp 1 = .ok (.iload_n 1, 1) := by decide +kernel
theorem dJ_Icmp_2 : decode cJ_Icmp 2 = .ok (.if_icmp .ge 7, 3) := by decide +kernel
theorem dJ_Icmp_5 : decode cJ_Icmp 5 = .ok (.iconst (-1), 1) := by decide +kernel
theorem dJ_Icmp_6 : decode cJ_Icmp 6 = .ok (.goto 13, 3) := by decide +kernel
theorem dJ_Icmp_9 : decode cJ_Icmp 9 = .ok (.iload_n 0, 1) := by decide +kernel
theorem dJ_Icmp_10 : decode cJ_Icmp 10 = .ok (.iload_n 1, 1) := by decide +kernel
theorem dJ_Icmp_11 : decode cJ_Icmp 11 = .ok (.if_icmp .ne 7, 3) := by decide +kernel
theorem dJ_Icmp_14 : decode cJ_Icmp 14 = .ok (.iconst 0, 1) := by decide +kernel
theorem dJ_Icmp_15 : decode cJ_Icmp 15 = .ok (.goto 4, 3) := by decide +kernel
theorem dJ_Icmp_18 : decode cJ_Icmp 18 = .ok (.iconst 1, 1) := by decide +kernel
theorem dJ_Icmp_19 : decode cJ_Icmp 19 = .ok (.ireturn, 1) := by decide +kernel
def yJ_Lcmp : MethodName := ⟨"java/lang/Long", "compare", "(JJ)I"⟩
abbrev cJ_Lcmp : ByteArray := prog_12_method_42_code
theorem dJ_Lcmp_0 : decode cJ_Lcmp 0 = .ok (.lload_n 0, 1) := by decide +kernel
theorem dJ_Lcmp_1 : decode cJ_Lcmp 1 = .ok (.lload_n 2, 1) := by decide +kernel
theorem dJ_Lcmp_2 : decode cJ_Lcmp 2 = .ok (.lcmp, 1) := by decide +kernel
theorem dJ_Lcmp_3 : decode cJ_Lcmp 3 = .ok (.ifCond .ge 7, 3) := by decide +kernel
theorem dJ_Lcmp_6 : decode cJ_Lcmp 6 = .ok (.iconst (-1), 1) := by decide +kernel
theorem dJ_Lcmp_7 : decode cJ_Lcmp 7 = .ok (.goto 14, 3) := by decide +kernel
theorem dJ_Lcmp_10 : decode cJ_Lcmp 10 = .ok (.lload_n 0, 1) := by decide +kernel
theorem dJ_Lcmp_11 : decode cJ_Lcmp 11 = .ok (.lload_n 2, 1) := by decide +kernel
theorem dJ_Lcmp_12 : decode cJ_Lcmp 12 = .ok (.lcmp, 1) := by decide +kernel
theorem dJ_Lcmp_13 : decode cJ_Lcmp 13 = .ok (.ifCond .ne 7, 3) := by decide +kernel
theorem dJ_Lcmp_16 : decode cJ_Lcmp 16 = .ok (.iconst 0, 1) := by decide +kernel
theorem dJ_Lcmp_17 : decode cJ_Lcmp 17 = .ok (.goto 4, 3) := by decide +kernel
theorem dJ_Lcmp_20 : decode cJ_Lcmp 20 = .ok (.iconst 1, 1) := by decide +kernel
theorem dJ_Lcmp_21 : decode cJ_Lcmp 21 = .ok (.ireturn, 1) := by decide +kernel
def yJ_fmod : MethodName := ⟨"java/lang/Math", "floorMod", "(II)I"⟩
abbrev cJ_fmod : ByteArray := prog_13_method_50_code
theorem dJ_fmod_0 : decode cJ_fmod 0 = .ok (.iload_n 0, 1) := by decide +kernel
theorem dJ_fmod_1 : decode cJ_fmod 1 = .ok (.iload_n 1, 1) := by decide +kernel
theorem dJ_fmod_2 : decode cJ_fmod 2 = .ok (.irem, 1) := by decide +kernel
theorem dJ_fmod_3 : decode cJ_fmod 3 = .ok (.istore_n 2, 1) := by decide +kernel
theorem dJ_fmod_4 : decode cJ_fmod 4 = .ok (.iload_n 0, 1) := by decide +kernel
theorem dJ_fmod_5 : decode cJ_fmod 5 = .ok (.iload_n 1, 1) := by decide +kernel
theorem dJ_fmod_6 : decode cJ_fmod 6 = .ok (.ixor, 1) := by decide +kernel
theorem dJ_fmod_7 : decode cJ_fmod 7 = .ok (.ifCond .ge 11, 3) := by decide +kernel
theorem dJ_fmod_10 : decode cJ_fmod 10 = .ok (.iload_n 2, 1) := by decide +kernel
theorem dJ_fmod_11 : decode cJ_fmod 11 = .ok (.ifCond .eq 7, 3) := by decide +kernel
theorem dJ_fmod_14 : decode cJ_fmod 14 = .ok (.iload_n 2, 1) := by decide +kernel
theorem dJ_fmod_15 : decode cJ_fmod 15 = .ok (.iload_n 1, 1) := by decide +kernel
theorem dJ_fmod_16 : decode cJ_fmod 16 = .ok (.iadd, 1) := by decide +kernel
theorem dJ_fmod_17 : decode cJ_fmod 17 = .ok (.ireturn, 1) := by decide +kernel
theorem dJ_fmod_18 : decode cJ_fmod 18 = .ok (.iload_n 2, 1) := by decide +kernel
theorem dJ_fmod_19 : decode cJ_fmod 19 = .ok (.ireturn, 1) := by decide +kernel
def yJ_Slen : MethodName := ⟨"java/lang/String", "length", "()I"⟩
abbrev cJ_Slen : ByteArray := prog_14_method_54_code
theorem dJ_Slen_0 : decode cJ_Slen 0 = .ok (.aload_n 0, 1) := by decide +kernel
theorem dJ_Slen_1 : decode cJ_Slen 1 = .ok (.getfield 9, 3) := by decide +kernel
theorem dJ_Slen_4 : decode cJ_Slen 4 = .ok (.arraylength, 1) := by decide +kernel
theorem dJ_Slen_5 : decode cJ_Slen 5 = .ok (.aload_n 0, 1) := by decide +kernel
theorem dJ_Slen_6 : decode cJ_Slen 6 = .ok (.invokevirtual 335, 3) := by decide +kernel
theorem dJ_Slen_9 : decode cJ_Slen 9 = .ok (.ishr, 1) := by decide +kernel
theorem dJ_Slen_10 : decode cJ_Slen 10 = .ok (.ireturn, 1) := by decide +kernel
def yJ_Scod : MethodName := ⟨"java/lang/String", "coder", "()B"⟩
abbrev cJ_Scod : ByteArray := prog_14_method_152_code
theorem dJ_Scod_0 : decode cJ_Scod 0 = .ok (.getstatic 38, 3) := by decide +kernel
theorem dJ_Scod_3 : decode cJ_Scod 3 = .ok (.ifCond .eq 10, 3) := by decide +kernel
theorem dJ_Scod_6 : decode cJ_Scod 6 = .ok (.aload_n 0, 1) := by decide +kernel
theorem dJ_Scod_7 : decode cJ_Scod 7 = .ok (.getfield 15, 3) := by decide +kernel
theorem dJ_Scod_10 : decode cJ_Scod 10 = .ok (.goto 4, 3) := by decide +kernel
theorem dJ_Scod_13 : decode cJ_Scod 13 = .ok (.iconst 1, 1) := by decide +kernel
theorem dJ_Scod_14 : decode cJ_Scod 14 = .ok (.ireturn, 1) := by decide +kernel
def yJ_Sch : MethodName := ⟨"java/lang/String", "charAt", "(I)C"⟩
abbrev cJ_Sch : ByteArray := prog_14_method_56_code
theorem dJ_Sch_0 : decode cJ_Sch 0 = .ok (.aload_n 0, 1) := by decide +kernel
theorem dJ_Sch_1 : decode cJ_Sch 1 = .ok (.invokevirtual 492, 3) := by decide +kernel
theorem dJ_Sch_4 : decode cJ_Sch 4 = .ok (.ifCond .eq 12, 3) := by decide +kernel
theorem dJ_Sch_7 : decode cJ_Sch 7 = .ok (.aload_n 0, 1) := by decide +kernel
theorem dJ_Sch_8 : decode cJ_Sch 8 = .ok (.getfield 9, 3) := by decide +kernel
theorem dJ_Sch_11 : decode cJ_Sch 11 = .ok (.iload_n 1, 1) := by decide +kernel
theorem dJ_Sch_12 : decode cJ_Sch 12 = .ok (.invokestatic 495, 3) := by decide +kernel
theorem dJ_Sch_15 : decode cJ_Sch 15 = .ok (.ireturn, 1) := by decide +kernel
theorem dJ_Sch_16 : decode cJ_Sch 16 = .ok (.aload_n 0, 1) := by decide +kernel
theorem dJ_Sch_17 : decode cJ_Sch 17 = .ok (.getfield 9, 3) := by decide +kernel
theorem dJ_Sch_20 : decode cJ_Sch 20 = .ok (.iload_n 1, 1) := by decide +kernel
theorem dJ_Sch_21 : decode cJ_Sch 21 = .ok (.invokestatic 498, 3) := by decide +kernel
theorem dJ_Sch_24 : decode cJ_Sch 24 = .ok (.ireturn, 1) := by decide +kernel
def yJ_Slat : MethodName := ⟨"java/lang/String", "isLatin1", "()Z"⟩
abbrev cJ_Slat : ByteArray := prog_14_method_154_code
theorem dJ_Slat_0 : decode cJ_Slat 0 = .ok (.getstatic 38, 3) := by decide +kernel
theorem dJ_Slat_3 : decode cJ_Slat 3 = .ok (.ifCond .eq 14, 3) := by decide +kernel
theorem dJ_Slat_6 : decode cJ_Slat 6 = .ok (.aload_n 0, 1) := by decide +kernel
theorem dJ_Slat_7 : decode cJ_Slat 7 = .ok (.getfield 15, 3) := by decide +kernel
theorem dJ_Slat_10 : decode cJ_Slat 10 = .ok (.ifCond .ne 7, 3) := by decide +kernel
theorem dJ_Slat_13 : decode cJ_Slat 13 = .ok (.iconst 1, 1) := by decide +kernel
theorem dJ_Slat_14 : decode cJ_Slat 14 = .ok (.goto 4, 3) := by decide +kernel
theorem dJ_Slat_17 : decode cJ_Slat 17 = .ok (.iconst 0, 1) := by decide +kernel
theorem dJ_Slat_18 : decode cJ_Slat 18 = .ok (.ireturn, 1) := by decide +kernel
def yJ_Lch : MethodName := ⟨"java/lang/StringLatin1", "charAt", "([BI)C"⟩
abbrev cJ_Lch : ByteArray := prog_15_method_2_code
theorem dJ_Lch_0 : decode cJ_Lch 0 = .ok (.iload_n 1, 1) := by decide +kernel
theorem dJ_Lch_1 : decode cJ_Lch 1 = .ok (.aload_n 0, 1) := by decide +kernel
theorem dJ_Lch_2 : decode cJ_Lch 2 = .ok (.arraylength, 1) := by decide +kernel
theorem dJ_Lch_3 : decode cJ_Lch 3 = .ok (.invokestatic 9, 3) := by decide +kernel
theorem dJ_Lch_6 : decode cJ_Lch 6 = .ok (.aload_n 0, 1) := by decide +kernel
theorem dJ_Lch_7 : decode cJ_Lch 7 = .ok (.iload_n 1, 1) := by decide +kernel
theorem dJ_Lch_8 : decode cJ_Lch 8 = .ok (.baload, 1) := by decide +kernel
theorem dJ_Lch_9 : decode cJ_Lch 9 = .ok (.sipush 255, 3) := by decide +kernel
theorem dJ_Lch_12 : decode cJ_Lch 12 = .ok (.iand, 1) := by decide +kernel
theorem dJ_Lch_13 : decode cJ_Lch 13 = .ok (.i2c, 1) := by decide +kernel
theorem dJ_Lch_14 : decode cJ_Lch 14 = .ok (.ireturn, 1) := by decide +kernel
def yJ_Schk : MethodName := ⟨"java/lang/String", "checkIndex", "(II)V"⟩
abbrev cJ_Schk : ByteArray := prog_14_method_155_code
theorem dJ_Schk_0 : decode cJ_Schk 0 = .ok (.iload_n 0, 1) := by decide +kernel
theorem dJ_Schk_1 : decode cJ_Schk 1 = .ok (.iload_n 1, 1) := by decide +kernel
theorem dJ_Schk_2 : decode cJ_Schk 2 = .ok (.getstatic 1053, 3) := by decide +kernel
theorem dJ_Schk_5 : decode cJ_Schk 5 = .ok (.invokestatic 1059, 3) := by decide +kernel
theorem dJ_Schk_8 : decode cJ_Schk 8 = .ok (.pop, 1) := by decide +kernel
theorem dJ_Schk_9 : decode cJ_Schk 9 = .ok (.return_, 1) := by decide +kernel
def yJ_Pchk : MethodName := ⟨"jdk/internal/util/Preconditions", "checkIndex", "(IILjava/util/function/BiFunction;)I"⟩
abbrev cJ_Pchk : ByteArray := prog_18_method_11_code
theorem dJ_Pchk_0 : decode cJ_Pchk 0 = .ok (.iload_n 0, 1) := by decide +kernel
theorem dJ_Pchk_1 : decode cJ_Pchk 1 = .ok (.ifCond .lt 8, 3) := by decide +kernel
theorem dJ_Pchk_4 : decode cJ_Pchk 4 = .ok (.iload_n 0, 1) := by decide +kernel
theorem dJ_Pchk_5 : decode cJ_Pchk 5 = .ok (.iload_n 1, 1) := by decide +kernel
theorem dJ_Pchk_6 : decode cJ_Pchk 6 = .ok (.if_icmp .lt 10, 3) := by decide +kernel
theorem dJ_Pchk_9 : decode cJ_Pchk 9 = .ok (.aload_n 2, 1) := by decide +kernel
theorem dJ_Pchk_10 : decode cJ_Pchk 10 = .ok (.iload_n 0, 1) := by decide +kernel
theorem dJ_Pchk_11 : decode cJ_Pchk 11 = .ok (.iload_n 1, 1) := by decide +kernel
theorem dJ_Pchk_12 : decode cJ_Pchk 12 = .ok (.invokestatic 95, 3) := by decide +kernel
theorem dJ_Pchk_15 : decode cJ_Pchk 15 = .ok (.athrow, 1) := by decide +kernel
theorem dJ_Pchk_16 : decode cJ_Pchk 16 = .ok (.iload_n 0, 1) := by decide +kernel
theorem dJ_Pchk_17 : decode cJ_Pchk 17 = .ok (.ireturn, 1) := by decide +kernel
theorem fl_X6_9 : xFl RX6 9 6 0 := ⟨RX6, TX6, 13, rfl, by decide, xin_X6, xm 75 (by decide +kernel) (by decide +kernel)⟩
theorem fl_X7_75 : xFl RX7 75 6 0 := ⟨RX6, TX6, 13, rfl, by decide, xin_X6, xm 76 (by decide +kernel) (by decide +kernel)⟩
theorem fl_X0_37 : xFl RX0 37 6 0 := ⟨RX6, TX6, 13, rfl, by decide, xin_X6, xm 77 (by decide +kernel) (by decide +kernel)⟩
theorem fl_X6_15 : xFl RX6 15 6 1 := ⟨RX6, TX6, 13, rfl, by decide, xin_X6, xm 78 (by decide +kernel) (by decide +kernel)⟩
theorem fl_X7_85 : xFl RX7 85 6 1 := ⟨RX6, TX6, 13, rfl, by decide, xin_X6, xm 79 (by decide +kernel) (by decide +kernel)⟩
theorem fl_X0_32 : xFl RX0 32 6 1 := ⟨RX6, TX6, 13, rfl, by decide, xin_X6, xm 80 (by decide +kernel) (by decide +kernel)⟩
theorem fl_X6_18 : xFl RX6 18 6 2 := ⟨RX6, TX6, 13, rfl, by decide, xin_X6, xm 81 (by decide +kernel) (by decide +kernel)⟩
theorem fl_X7_88 : xFl RX7 88 6 2 := ⟨RX6, TX6, 13, rfl, by decide, xin_X6, xm 82 (by decide +kernel) (by decide +kernel)⟩
theorem fl_X6_21 : xFl RX6 21 6 3 := ⟨RX6, TX6, 13, rfl, by decide, xin_X6, xm 83 (by decide +kernel) (by decide +kernel)⟩
theorem fl_X7_143 : xFl RX7 143 6 3 := ⟨RX6, TX6, 13, rfl, by decide, xin_X6, xm 84 (by decide +kernel) (by decide +kernel)⟩
theorem fl_X6_24 : xFl RX6 24 6 4 := ⟨RX6, TX6, 13, rfl, by decide, xin_X6, xm 85 (by decide +kernel) (by decide +kernel)⟩
theorem fl_X7_146 : xFl RX7 146 6 4 := ⟨RX6, TX6, 13, rfl, by decide, xin_X6, xm 86 (by decide +kernel) (by decide +kernel)⟩
theorem fl_X6_33 : xFl RX6 33 6 5 := ⟨RX6, TX6, 13, rfl, by decide, xin_X6, xm 87 (by decide +kernel) (by decide +kernel)⟩
theorem fp_X6_33 : xFp RX6 33 6 5 .int := ⟨RX6, TX6, 13, tyX6, rfl, by decide, xin_X6, xm 87 (by decide +kernel) (by decide +kernel), tyX6_ok, nmX6, rfl, by decide +kernel⟩
theorem fl_X7_108 : xFl RX7 108 6 5 := ⟨RX6, TX6, 13, rfl, by decide, xin_X6, xm 88 (by decide +kernel) (by decide +kernel)⟩
theorem fp_X7_108 : xFp RX7 108 6 5 .int := ⟨RX6, TX6, 13, tyX6, rfl, by decide, xin_X6, xm 88 (by decide +kernel) (by decide +kernel), tyX6_ok, nmX6, rfl, by decide +kernel⟩
theorem fl_X6_37 : xFl RX6 37 6 6 := ⟨RX6, TX6, 13, rfl, by decide, xin_X6, xm 89 (by decide +kernel) (by decide +kernel)⟩
theorem fp_X6_37 : xFp RX6 37 6 6 .int := ⟨RX6, TX6, 13, tyX6, rfl, by decide, xin_X6, xm 89 (by decide +kernel) (by decide +kernel), tyX6_ok, nmX6, rfl, by decide +kernel⟩
theorem fl_X7_112 : xFl RX7 112 6 6 := ⟨RX6, TX6, 13, rfl, by decide, xin_X6, xm 90 (by decide +kernel) (by decide +kernel)⟩
theorem fp_X7_112 : xFp RX7 112 6 6 .int := ⟨RX6, TX6, 13, tyX6, rfl, by decide, xin_X6, xm 90 (by decide +kernel) (by decide +kernel), tyX6_ok, nmX6, rfl, by decide +kernel⟩
theorem fl_X6_40 : xFl RX6 40 6 7 := ⟨RX6, TX6, 13, rfl, by decide, xin_X6, xm 91 (by decide +kernel) (by decide +kernel)⟩
theorem fp_X6_40 : xFp RX6 40 6 7 .int := ⟨RX6, TX6, 13, tyX6, rfl, by decide, xin_X6, xm 91 (by decide +kernel) (by decide +kernel), tyX6_ok, nmX6, rfl, by decide +kernel⟩
theorem fl_X7_118 : xFl RX7 118 6 7 := ⟨RX6, TX6, 13, rfl, by decide, xin_X6, xm 92 (by decide +kernel) (by decide +kernel)⟩
theorem fp_X7_118 : xFp RX7 118 6 7 .int := ⟨RX6, TX6, 13, tyX6, rfl, by decide, xin_X6, xm 92 (by decide +kernel) (by decide +kernel), tyX6_ok, nmX6, rfl, by decide +kernel⟩
theorem fl_X6_43 : xFl RX6 43 6 8 := ⟨RX6, TX6, 13, rfl, by decide, xin_X6, xm 93 (by decide +kernel) (by decide +kernel)⟩
theorem fp_X6_43 : xFp RX6 43 6 8 .int := ⟨RX6, TX6, 13, tyX6, rfl, by decide, xin_X6, xm 93 (by decide +kernel) (by decide +kernel), tyX6_ok, nmX6, rfl, by decide +kernel⟩
theorem fl_X7_125 : xFl RX7 125 6 8 := ⟨RX6, TX6, 13, rfl, by decide, xin_X6, xm 94 (by decide +kernel) (by decide +kernel)⟩
theorem fp_X7_125 : xFp RX7 125 6 8 .int := ⟨RX6, TX6, 13, tyX6, rfl, by decide, xin_X6, xm 94 (by decide +kernel) (by decide +kernel), tyX6_ok, nmX6, rfl, by decide +kernel⟩
theorem fl_X6_46 : xFl RX6 46 6 9 := ⟨RX6, TX6, 13, rfl, by decide, xin_X6, xm 95 (by decide +kernel) (by decide +kernel)⟩
theorem fp_X6_46 : xFp RX6 46 6 9 .int := ⟨RX6, TX6, 13, tyX6, rfl, by decide, xin_X6, xm 95 (by decide +kernel) (by decide +kernel), tyX6_ok, nmX6, rfl, by decide +kernel⟩
theorem fl_X7_128 : xFl RX7 128 6 9 := ⟨RX6, TX6, 13, rfl, by decide, xin_X6, xm 96 (by decide +kernel) (by decide +kernel)⟩
theorem fp_X7_128 : xFp RX7 128 6 9 .int := ⟨RX6, TX6, 13, tyX6, rfl, by decide, xin_X6, xm 96 (by decide +kernel) (by decide +kernel), tyX6_ok, nmX6, rfl, by decide +kernel⟩
theorem fl_X6_49 : xFl RX6 49 6 10 := ⟨RX6, TX6, 13, rfl, by decide, xin_X6, xm 97 (by decide +kernel) (by decide +kernel)⟩
theorem fp_X6_49 : xFp RX6 49 6 10 .int := ⟨RX6, TX6, 13, tyX6, rfl, by decide, xin_X6, xm 97 (by decide +kernel) (by decide +kernel), tyX6_ok, nmX6, rfl, by decide +kernel⟩
theorem fl_X7_131 : xFl RX7 131 6 10 := ⟨RX6, TX6, 13, rfl, by decide, xin_X6, xm 98 (by decide +kernel) (by decide +kernel)⟩
theorem fp_X7_131 : xFp RX7 131 6 10 .int := ⟨RX6, TX6, 13, tyX6, rfl, by decide, xin_X6, xm 98 (by decide +kernel) (by decide +kernel), tyX6_ok, nmX6, rfl, by decide +kernel⟩
theorem fl_X6_52 : xFl RX6 52 6 11 := ⟨RX6, TX6, 13, rfl, by decide, xin_X6, xm 99 (by decide +kernel) (by decide +kernel)⟩
theorem fp_X6_52 : xFp RX6 52 6 11 .int := ⟨RX6, TX6, 13, tyX6, rfl, by decide, xin_X6, xm 99 (by decide +kernel) (by decide +kernel), tyX6_ok, nmX6, rfl, by decide +kernel⟩
theorem fl_X7_196 : xFl RX7 196 6 11 := ⟨RX6, TX6, 13, rfl, by decide, xin_X6, xm 100 (by decide +kernel) (by decide +kernel)⟩
theorem fp_X7_196 : xFp RX7 196 6 11 .int := ⟨RX6, TX6, 13, tyX6, rfl, by decide, xin_X6, xm 100 (by decide +kernel) (by decide +kernel), tyX6_ok, nmX6, rfl, by decide +kernel⟩
theorem fl_X6_55 : xFl RX6 55 6 12 := ⟨RX6, TX6, 13, rfl, by decide, xin_X6, xm 101 (by decide +kernel) (by decide +kernel)⟩
theorem fp_X6_55 : xFp RX6 55 6 12 .int := ⟨RX6, TX6, 13, tyX6, rfl, by decide, xin_X6, xm 101 (by decide +kernel) (by decide +kernel), tyX6_ok, nmX6, rfl, by decide +kernel⟩
theorem fl_X0_9 : xFl RX0 9 0 0 := ⟨RX0, TX0, 3, rfl, by decide, xin_X0, xm 137 (by decide +kernel) (by decide +kernel)⟩
theorem fl_X0_15 : xFl RX0 15 0 1 := ⟨RX0, TX0, 3, rfl, by decide, xin_X0, xm 138 (by decide +kernel) (by decide +kernel)⟩
theorem fl_X5_19 : xFl RX5 19 0 2 := ⟨RX0, TX0, 3, rfl, by decide, xin_X0, xm 139 (by decide +kernel) (by decide +kernel)⟩
theorem fp_X5_19 : xFp RX5 19 0 2 .int := ⟨RX0, TX0, 3, tyX0, rfl, by decide, xin_X0, xm 139 (by decide +kernel) (by decide +kernel), tyX0_ok, nmX0, rfl, by decide +kernel⟩
theorem fl_X0_24 : xFl RX0 24 0 2 := ⟨RX0, TX0, 3, rfl, by decide, xin_X0, xm 140 (by decide +kernel) (by decide +kernel)⟩
theorem fp_X0_24 : xFp RX0 24 0 2 .int := ⟨RX0, TX0, 3, tyX0, rfl, by decide, xin_X0, xm 140 (by decide +kernel) (by decide +kernel), tyX0_ok, nmX0, rfl, by decide +kernel⟩
theorem fl_X7_179 : xFl RX7 179 0 2 := ⟨RX0, TX0, 3, rfl, by decide, xin_X0, xm 141 (by decide +kernel) (by decide +kernel)⟩
theorem fp_X7_179 : xFp RX7 179 0 2 .int := ⟨RX0, TX0, 3, tyX0, rfl, by decide, xin_X0, xm 141 (by decide +kernel) (by decide +kernel), tyX0_ok, nmX0, rfl, by decide +kernel⟩
theorem fl_X3_12 : xFl RX3 12 3 0 := ⟨RX3, TX3, 5, rfl, by decide, xin_X3, xm 149 (by decide +kernel) (by decide +kernel)⟩
theorem fl_X7_72 : xFl RX7 72 3 0 := ⟨RX3, TX3, 5, rfl, by decide, xin_X3, xm 150 (by decide +kernel) (by decide +kernel)⟩
theorem fl_X3_20 : xFl RX3 20 3 1 := ⟨RX3, TX3, 5, rfl, by decide, xin_X3, xm 151 (by decide +kernel) (by decide +kernel)⟩
theorem fl_X7_168 : xFl RX7 168 3 1 := ⟨RX3, TX3, 5, rfl, by decide, xin_X3, xm 152 (by decide +kernel) (by decide +kernel)⟩
theorem fl_X3_40 : xFl RX3 40 3 2 := ⟨RX3, TX3, 5, rfl, by decide, xin_X3, xm 153 (by decide +kernel) (by decide +kernel)⟩
theorem fp_X3_40 : xFp RX3 40 3 2 .int := ⟨RX3, TX3, 5, tyX3, rfl, by decide, xin_X3, xm 153 (by decide +kernel) (by decide +kernel), tyX3_ok, nmX3, rfl, by decide +kernel⟩
theorem fl_X7_165 : xFl RX7 165 3 2 := ⟨RX3, TX3, 5, rfl, by decide, xin_X3, xm 154 (by decide +kernel) (by decide +kernel)⟩
theorem fp_X7_165 : xFp RX7 165 3 2 .int := ⟨RX3, TX3, 5, tyX3, rfl, by decide, xin_X3, xm 154 (by decide +kernel) (by decide +kernel), tyX3_ok, nmX3, rfl, by decide +kernel⟩
theorem fl_X3_24 : xFl RX3 24 3 3 := ⟨RX3, TX3, 5, rfl, by decide, xin_X3, xm 155 (by decide +kernel) (by decide +kernel)⟩
theorem fl_X7_255 : xFl RX7 255 3 3 := ⟨RX3, TX3, 5, rfl, by decide, xin_X3, xm 156 (by decide +kernel) (by decide +kernel)⟩
theorem fl_X3_28 : xFl RX3 28 3 4 := ⟨RX3, TX3, 5, rfl, by decide, xin_X3, xm 157 (by decide +kernel) (by decide +kernel)⟩
theorem fp_X3_28 : xFp RX3 28 3 4 .int := ⟨RX3, TX3, 5, tyX3, rfl, by decide, xin_X3, xm 157 (by decide +kernel) (by decide +kernel), tyX3_ok, nmX3, rfl, by decide +kernel⟩
theorem fl_X7_250 : xFl RX7 250 3 4 := ⟨RX3, TX3, 5, rfl, by decide, xin_X3, xm 158 (by decide +kernel) (by decide +kernel)⟩
theorem fp_X7_250 : xFp RX7 250 3 4 .int := ⟨RX3, TX3, 5, tyX3, rfl, by decide, xin_X3, xm 158 (by decide +kernel) (by decide +kernel), tyX3_ok, nmX3, rfl, by decide +kernel⟩
theorem fl_X4_9 : xFl RX4 9 4 0 := ⟨RX4, TX4, 2, rfl, by decide, xin_X4, xm 176 (by decide +kernel) (by decide +kernel)⟩
theorem fl_X4_13 : xFl RX4 13 4 1 := ⟨RX4, TX4, 2, rfl, by decide, xin_X4, xm 177 (by decide +kernel) (by decide +kernel)⟩
theorem fp_X4_13 : xFp RX4 13 4 1 .int := ⟨RX4, TX4, 2, tyX4, rfl, by decide, xin_X4, xm 177 (by decide +kernel) (by decide +kernel), tyX4_ok, nmX4, rfl, by decide +kernel⟩
theorem fl_X5_34 : xFl RX5 34 4 1 := ⟨RX4, TX4, 2, rfl, by decide, xin_X4, xm 178 (by decide +kernel) (by decide +kernel)⟩
theorem fp_X5_34 : xFp RX5 34 4 1 .int := ⟨RX4, TX4, 2, tyX4, rfl, by decide, xin_X4, xm 178 (by decide +kernel) (by decide +kernel), tyX4_ok, nmX4, rfl, by decide +kernel⟩
theorem fl_X7_159 : xFl RX7 159 4 1 := ⟨RX4, TX4, 2, rfl, by decide, xin_X4, xm 179 (by decide +kernel) (by decide +kernel)⟩
theorem fp_X7_159 : xFp RX7 159 4 1 .int := ⟨RX4, TX4, 2, tyX4, rfl, by decide, xin_X4, xm 179 (by decide +kernel) (by decide +kernel), tyX4_ok, nmX4, rfl, by decide +kernel⟩
theorem fl_X5_9 : xFl RX5 9 5 0 := ⟨RX5, TX5, 5, rfl, by decide, xin_X5, xm 191 (by decide +kernel) (by decide +kernel)⟩
theorem fl_X5_44 : xFl RX5 44 5 1 := ⟨RX5, TX5, 5, rfl, by decide, xin_X5, xm 192 (by decide +kernel) (by decide +kernel)⟩
theorem fp_X5_44 : xFp RX5 44 5 1 .int := ⟨RX5, TX5, 5, tyX5, rfl, by decide, xin_X5, xm 192 (by decide +kernel) (by decide +kernel), tyX5_ok, nmX5, rfl, by decide +kernel⟩
theorem fl_X5_31 : xFl RX5 31 5 2 := ⟨RX5, TX5, 5, rfl, by decide, xin_X5, xm 193 (by decide +kernel) (by decide +kernel)⟩
theorem fp_X5_31 : xFp RX5 31 5 2 .int := ⟨RX5, TX5, 5, tyX5, rfl, by decide, xin_X5, xm 193 (by decide +kernel) (by decide +kernel), tyX5_ok, nmX5, rfl, by decide +kernel⟩
theorem fl_X5_15 : xFl RX5 15 5 3 := ⟨RX5, TX5, 5, rfl, by decide, xin_X5, xm 194 (by decide +kernel) (by decide +kernel)⟩
theorem fp_X5_15 : xFp RX5 15 5 3 .int := ⟨RX5, TX5, 5, tyX5, rfl, by decide, xin_X5, xm 194 (by decide +kernel) (by decide +kernel), tyX5_ok, nmX5, rfl, by decide +kernel⟩
theorem fl_X5_41 : xFl RX5 41 5 4 := ⟨RX5, TX5, 5, rfl, by decide, xin_X5, xm 195 (by decide +kernel) (by decide +kernel)⟩
theorem fp_X5_41 : xFp RX5 41 5 4 .int := ⟨RX5, TX5, 5, tyX5, rfl, by decide, xin_X5, xm 195 (by decide +kernel) (by decide +kernel), tyX5_ok, nmX5, rfl, by decide +kernel⟩
theorem fl_X2_7 : xFl RX2 7 2 0 := ⟨RX2, TX2, 3, rfl, by decide, xin_X2, xm 217 (by decide +kernel) (by decide +kernel)⟩
theorem fp_X2_7 : xFp RX2 7 2 0 .long := ⟨RX2, TX2, 3, tyX2, rfl, by decide, xin_X2, xm 217 (by decide +kernel) (by decide +kernel), tyX2_ok, nmX2, rfl, by decide +kernel⟩
theorem fl_X7_234 : xFl RX7 234 2 0 := ⟨RX2, TX2, 3, rfl, by decide, xin_X2, xm 218 (by decide +kernel) (by decide +kernel)⟩
theorem fp_X7_234 : xFp RX7 234 2 0 .long := ⟨RX2, TX2, 3, tyX2, rfl, by decide, xin_X2, xm 218 (by decide +kernel) (by decide +kernel), tyX2_ok, nmX2, rfl, by decide +kernel⟩
theorem fl_X2_13 : xFl RX2 13 2 1 := ⟨RX2, TX2, 3, rfl, by decide, xin_X2, xm 219 (by decide +kernel) (by decide +kernel)⟩
theorem fp_X2_13 : xFp RX2 13 2 1 .long := ⟨RX2, TX2, 3, tyX2, rfl, by decide, xin_X2, xm 219 (by decide +kernel) (by decide +kernel), tyX2_ok, nmX2, rfl, by decide +kernel⟩
theorem fl_X7_238 : xFl RX7 238 2 1 := ⟨RX2, TX2, 3, rfl, by decide, xin_X2, xm 220 (by decide +kernel) (by decide +kernel)⟩
theorem fp_X7_238 : xFp RX7 238 2 1 .long := ⟨RX2, TX2, 3, tyX2, rfl, by decide, xin_X2, xm 220 (by decide +kernel) (by decide +kernel), tyX2_ok, nmX2, rfl, by decide +kernel⟩
theorem fl_X2_16 : xFl RX2 16 2 2 := ⟨RX2, TX2, 3, rfl, by decide, xin_X2, xm 221 (by decide +kernel) (by decide +kernel)⟩
theorem fp_X2_16 : xFp RX2 16 2 2 .long := ⟨RX2, TX2, 3, tyX2, rfl, by decide, xin_X2, xm 221 (by decide +kernel) (by decide +kernel), tyX2_ok, nmX2, rfl, by decide +kernel⟩
theorem fl_X7_241 : xFl RX7 241 2 2 := ⟨RX2, TX2, 3, rfl, by decide, xin_X2, xm 222 (by decide +kernel) (by decide +kernel)⟩
theorem fp_X7_241 : xFp RX7 241 2 2 .long := ⟨RX2, TX2, 3, tyX2, rfl, by decide, xin_X2, xm 222 (by decide +kernel) (by decide +kernel), tyX2_ok, nmX2, rfl, by decide +kernel⟩
theorem fl_X1_9 : xFl RX1 9 1 0 := ⟨RX1, TX1, 3, rfl, by decide, xin_X1, xm 235 (by decide +kernel) (by decide +kernel)⟩
theorem fl_X7_282 : xFl RX7 282 1 0 := ⟨RX1, TX1, 3, rfl, by decide, xin_X1, xm 236 (by decide +kernel) (by decide +kernel)⟩
theorem fl_X1_13 : xFl RX1 13 1 1 := ⟨RX1, TX1, 3, rfl, by decide, xin_X1, xm 237 (by decide +kernel) (by decide +kernel)⟩
theorem fp_X1_13 : xFp RX1 13 1 1 .int := ⟨RX1, TX1, 3, tyX1, rfl, by decide, xin_X1, xm 237 (by decide +kernel) (by decide +kernel), tyX1_ok, nmX1, rfl, by decide +kernel⟩
theorem fl_X7_276 : xFl RX7 276 1 1 := ⟨RX1, TX1, 3, rfl, by decide, xin_X1, xm 238 (by decide +kernel) (by decide +kernel)⟩
theorem fp_X7_276 : xFp RX7 276 1 1 .int := ⟨RX1, TX1, 3, tyX1, rfl, by decide, xin_X1, xm 238 (by decide +kernel) (by decide +kernel), tyX1_ok, nmX1, rfl, by decide +kernel⟩
theorem fl_X1_17 : xFl RX1 17 1 2 := ⟨RX1, TX1, 3, rfl, by decide, xin_X1, xm 239 (by decide +kernel) (by decide +kernel)⟩
theorem fp_X1_17 : xFp RX1 17 1 2 .int := ⟨RX1, TX1, 3, tyX1, rfl, by decide, xin_X1, xm 239 (by decide +kernel) (by decide +kernel), tyX1_ok, nmX1, rfl, by decide +kernel⟩
theorem fl_X7_272 : xFl RX7 272 1 2 := ⟨RX1, TX1, 3, rfl, by decide, xin_X1, xm 240 (by decide +kernel) (by decide +kernel)⟩
theorem fp_X7_272 : xFp RX7 272 1 2 .int := ⟨RX1, TX1, 3, tyX1, rfl, by decide, xin_X1, xm 240 (by decide +kernel) (by decide +kernel), tyX1_ok, nmX1, rfl, by decide +kernel⟩
theorem fl_X7_12 : xFl RX7 12 7 0 := ⟨RX7, TX7, 10, rfl, by decide, xin_X7, xm 248 (by decide +kernel) (by decide +kernel)⟩
theorem fl_X7_16 : xFl RX7 16 7 1 := ⟨RX7, TX7, 10, rfl, by decide, xin_X7, xm 249 (by decide +kernel) (by decide +kernel)⟩
theorem fl_X7_294 : xFl RX7 294 7 2 := ⟨RX7, TX7, 10, rfl, by decide, xin_X7, xm 250 (by decide +kernel) (by decide +kernel)⟩
theorem fp_X7_294 : xFp RX7 294 7 2 .boolean := ⟨RX7, TX7, 10, tyX7, rfl, by decide, xin_X7, xm 250 (by decide +kernel) (by decide +kernel), tyX7_ok, nmX7, rfl, by decide +kernel⟩
theorem fl_X7_22 : xFl RX7 22 7 3 := ⟨RX7, TX7, 10, rfl, by decide, xin_X7, xm 251 (by decide +kernel) (by decide +kernel)⟩
theorem fl_X7_31 : xFl RX7 31 7 4 := ⟨RX7, TX7, 10, rfl, by decide, xin_X7, xm 252 (by decide +kernel) (by decide +kernel)⟩
theorem fl_X7_37 : xFl RX7 37 7 5 := ⟨RX7, TX7, 10, rfl, by decide, xin_X7, xm 253 (by decide +kernel) (by decide +kernel)⟩
theorem fl_X7_44 : xFl RX7 44 7 6 := ⟨RX7, TX7, 10, rfl, by decide, xin_X7, xm 254 (by decide +kernel) (by decide +kernel)⟩
theorem fl_X7_48 : xFl RX7 48 7 7 := ⟨RX7, TX7, 10, rfl, by decide, xin_X7, xm 255 (by decide +kernel) (by decide +kernel)⟩
theorem fl_X7_54 : xFl RX7 54 7 8 := ⟨RX7, TX7, 10, rfl, by decide, xin_X7, xm 256 (by decide +kernel) (by decide +kernel)⟩
theorem fl_X7_58 : xFl RX7 58 7 9 := ⟨RX7, TX7, 10, rfl, by decide, xin_X7, xm 257 (by decide +kernel) (by decide +kernel)⟩
theorem kv_JLeakCupsLaw_13 : xLV "LeakCupsLaw" 13 RX7 yX7_set cX7_set 5 (some .int) 2 := ⟨xm 279 (by decide +kernel) (by decide +kernel), xm 280 (by decide +kernel) (by decide +kernel), xm 281 (by decide +kernel) (by decide +kernel), xm 38 (by decide +kernel) (by decide +kernel), xm 282 (by decide +kernel) (by decide +kernel), rfl, by decide +kernel, by decide +kernel, by decide +kernel⟩
theorem ks_X7_63 : xLS RX7 63 yX7_within cX7_within 3 (some .boolean) 3 := ⟨xm 283 (by decide +kernel) (by decide +kernel), xm 284 (by decide +kernel) (by decide +kernel), xm 38 (by decide +kernel) (by decide +kernel), xm 285 (by decide +kernel) (by decide +kernel), by decide +kernel, by decide +kernel, by decide +kernel⟩
theorem kc_X7_67 : Jvm.Cond.constant RX7 67 (-1000001) ∈ xT := xm 286 (by decide +kernel) (by decide +kernel)
theorem kv_X7_68 : xLV RX7 68 RX7 yX7_finding cX7_finding 3 (some .int) 1 := ⟨xm 287 (by decide +kernel) (by decide +kernel), xm 289 (by decide +kernel) (by decide +kernel), xm 0 (by decide +kernel) (by decide +kernel), xm 38 (by decide +kernel) (by decide +kernel), xm 290 (by decide +kernel) (by decide +kernel), rfl, by decide +kernel, by decide +kernel, by decide +kernel⟩
theorem kv_JLeakCupsLaw_18 : xLV "LeakCupsLaw" 18 RX7 yX7_kind cX7_kind 4 (some .int) 2 := ⟨xm 291 (by decide +kernel) (by decide +kernel), xm 292 (by decide +kernel) (by decide +kernel), xm 293 (by decide +kernel) (by decide +kernel), xm 38 (by decide +kernel) (by decide +kernel), xm 294 (by decide +kernel) (by decide +kernel), rfl, by decide +kernel, by decide +kernel, by decide +kernel⟩
theorem ks_X7_78 : xLS RX7 78 yX7_isCup cX7_isCup 1 (some .boolean) 1 := ⟨xm 295 (by decide +kernel) (by decide +kernel), xm 296 (by decide +kernel) (by decide +kernel), xm 38 (by decide +kernel) (by decide +kernel), xm 297 (by decide +kernel) (by decide +kernel), by decide +kernel, by decide +kernel, by decide +kernel⟩
theorem ks_X7_82 : xLS RX7 82 yX7_isKind cX7_isKind 1 (some .boolean) 1 := ⟨xm 298 (by decide +kernel) (by decide +kernel), xm 299 (by decide +kernel) (by decide +kernel), xm 38 (by decide +kernel) (by decide +kernel), xm 300 (by decide +kernel) (by decide +kernel), by decide +kernel, by decide +kernel, by decide +kernel⟩
theorem kv_JLeakCupsLaw_22 : xLV "LeakCupsLaw" 22 RX7 yX7_cupOf cX7_cupOf 3 (some .int) 2 := ⟨xm 301 (by decide +kernel) (by decide +kernel), xm 302 (by decide +kernel) (by decide +kernel), xm 303 (by decide +kernel) (by decide +kernel), xm 38 (by decide +kernel) (by decide +kernel), xm 304 (by decide +kernel) (by decide +kernel), rfl, by decide +kernel, by decide +kernel, by decide +kernel⟩
theorem kv_X7_91 : xLV RX7 91 RX6 yX6_placeOf cX6_placeOf 2 (some .int) 1 := ⟨xm 305 (by decide +kernel) (by decide +kernel), xm 306 (by decide +kernel) (by decide +kernel), xm 307 (by decide +kernel) (by decide +kernel), xm 40 (by decide +kernel) (by decide +kernel), xm 308 (by decide +kernel) (by decide +kernel), rfl, by decide +kernel, by decide +kernel, by decide +kernel⟩
theorem kv_X7_94 : xLV RX7 94 RX6 yX6_roomOf cX6_roomOf 2 (some .int) 1 := ⟨xm 309 (by decide +kernel) (by decide +kernel), xm 310 (by decide +kernel) (by decide +kernel), xm 311 (by decide +kernel) (by decide +kernel), xm 40 (by decide +kernel) (by decide +kernel), xm 312 (by decide +kernel) (by decide +kernel), rfl, by decide +kernel, by decide +kernel, by decide +kernel⟩
theorem fs_X6_64 : Cond.fieldLink RX6 64 (xzc 0) (xzn 0) "[I" ∈ xT := xm 313 (by decide +kernel) (by decide +kernel)
theorem kv_X7_97 : xLV RX7 97 RX6 yX6_leakOf cX6_leakOf 5 (some .int) 1 := ⟨xm 315 (by decide +kernel) (by decide +kernel), xm 316 (by decide +kernel) (by decide +kernel), xm 317 (by decide +kernel) (by decide +kernel), xm 40 (by decide +kernel) (by decide +kernel), xm 318 (by decide +kernel) (by decide +kernel), rfl, by decide +kernel, by decide +kernel, by decide +kernel⟩
theorem km_X6_74 : Cond.methodLink RX6 74 (⟨"java/lang/Math", "max", "(II)I"⟩ : MethodName) ∈ xT := xm 319 (by decide +kernel) (by decide +kernel)
theorem km_X6_58 : Cond.methodLink RX6 58 (⟨"java/lang/Math", "min", "(II)I"⟩ : MethodName) ∈ xT := xm 322 (by decide +kernel) (by decide +kernel)
theorem kv_X6_77 : xLV RX6 77 RX6 yX6_placeOf cX6_placeOf 2 (some .int) 1 := ⟨xm 325 (by decide +kernel) (by decide +kernel), xm 306 (by decide +kernel) (by decide +kernel), xm 307 (by decide +kernel) (by decide +kernel), xm 40 (by decide +kernel) (by decide +kernel), xm 308 (by decide +kernel) (by decide +kernel), rfl, by decide +kernel, by decide +kernel, by decide +kernel⟩
theorem kv_JLeakCupsLaw_26 : xLV "LeakCupsLaw" 26 RX7 yX7_fill cX7_fill 4 (some .int) 2 := ⟨xm 326 (by decide +kernel) (by decide +kernel), xm 327 (by decide +kernel) (by decide +kernel), xm 328 (by decide +kernel) (by decide +kernel), xm 38 (by decide +kernel) (by decide +kernel), xm 329 (by decide +kernel) (by decide +kernel), rfl, by decide +kernel, by decide +kernel, by decide +kernel⟩
theorem kc_X7_100 : Jvm.Cond.constant RX7 100 (-1000002) ∈ xT := xm 330 (by decide +kernel) (by decide +kernel)
theorem kv_JLeakCupsLaw_30 : xLV "LeakCupsLaw" 30 RX7 yX7_empty cX7_empty 3 (some .int) 1 := ⟨xm 331 (by decide +kernel) (by decide +kernel), xm 332 (by decide +kernel) (by decide +kernel), xm 333 (by decide +kernel) (by decide +kernel), xm 38 (by decide +kernel) (by decide +kernel), xm 334 (by decide +kernel) (by decide +kernel), rfl, by decide +kernel, by decide +kernel, by decide +kernel⟩
theorem kv_JLeakCupsLaw_35 : xLV "LeakCupsLaw" 35 RX7 yX7_touch cX7_touch 2 (some .int) 1 := ⟨xm 335 (by decide +kernel) (by decide +kernel), xm 336 (by decide +kernel) (by decide +kernel), xm 337 (by decide +kernel) (by decide +kernel), xm 38 (by decide +kernel) (by decide +kernel), xm 338 (by decide +kernel) (by decide +kernel), rfl, by decide +kernel, by decide +kernel, by decide +kernel⟩
theorem ks_X7_101 : xLS RX7 101 yX7_isTouch cX7_isTouch 1 (some .boolean) 1 := ⟨xm 339 (by decide +kernel) (by decide +kernel), xm 340 (by decide +kernel) (by decide +kernel), xm 38 (by decide +kernel) (by decide +kernel), xm 341 (by decide +kernel) (by decide +kernel), by decide +kernel, by decide +kernel, by decide +kernel⟩
theorem kv_X7_104 : xLV RX7 104 RX6 yX6_nudge cX6_nudge 2 none 1 := ⟨xm 342 (by decide +kernel) (by decide +kernel), xm 343 (by decide +kernel) (by decide +kernel), xm 344 (by decide +kernel) (by decide +kernel), xm 40 (by decide +kernel) (by decide +kernel), xm 345 (by decide +kernel) (by decide +kernel), rfl, by decide +kernel, by decide +kernel, by decide +kernel⟩
theorem ks_X6_84 : xLS RX6 84 yX6_held cX6_held 1 (some .int) 1 := ⟨xm 346 (by decide +kernel) (by decide +kernel), xm 347 (by decide +kernel) (by decide +kernel), xm 40 (by decide +kernel) (by decide +kernel), xm 348 (by decide +kernel) (by decide +kernel), by decide +kernel, by decide +kernel, by decide +kernel⟩
theorem ks_X6_87 : xLS RX6 87 yJ_Icmp cJ_Icmp 2 (some .int) 2 := ⟨xm 349 (by decide +kernel) (by decide +kernel), xm 350 (by decide +kernel) (by decide +kernel), xm 48 (by decide +kernel) (by decide +kernel), xm 351 (by decide +kernel) (by decide +kernel), by decide +kernel, by decide +kernel, by decide +kernel⟩
theorem kv_JLeakCupsLaw_39 : xLV "LeakCupsLaw" 39 RX7 yX7_stop cX7_stop 3 (some .int) 1 := ⟨xm 352 (by decide +kernel) (by decide +kernel), xm 353 (by decide +kernel) (by decide +kernel), xm 354 (by decide +kernel) (by decide +kernel), xm 38 (by decide +kernel) (by decide +kernel), xm 355 (by decide +kernel) (by decide +kernel), rfl, by decide +kernel, by decide +kernel, by decide +kernel⟩
theorem kv_JLeakCupsLaw_43 : xLV "LeakCupsLaw" 43 RX7 yX7_tick cX7_tick 2 (some .int) 1 := ⟨xm 356 (by decide +kernel) (by decide +kernel), xm 357 (by decide +kernel) (by decide +kernel), xm 358 (by decide +kernel) (by decide +kernel), xm 38 (by decide +kernel) (by decide +kernel), xm 359 (by decide +kernel) (by decide +kernel), rfl, by decide +kernel, by decide +kernel, by decide +kernel⟩
theorem kv_X7_115 : xLV RX7 115 RX6 yX6_steps cX6_steps 3 none 1 := ⟨xm 360 (by decide +kernel) (by decide +kernel), xm 361 (by decide +kernel) (by decide +kernel), xm 362 (by decide +kernel) (by decide +kernel), xm 40 (by decide +kernel) (by decide +kernel), xm 363 (by decide +kernel) (by decide +kernel), rfl, by decide +kernel, by decide +kernel, by decide +kernel⟩
theorem kv_X6_92 : xLV RX6 92 RX6 yX6_step cX6_step 2 none 0 := ⟨xm 364 (by decide +kernel) (by decide +kernel), xm 365 (by decide +kernel) (by decide +kernel), xm 366 (by decide +kernel) (by decide +kernel), xm 40 (by decide +kernel) (by decide +kernel), xm 367 (by decide +kernel) (by decide +kernel), rfl, by decide +kernel, by decide +kernel, by decide +kernel⟩
theorem kv_X6_95 : xLV RX6 95 RX6 yX6_pour cX6_pour 4 none 0 := ⟨xm 368 (by decide +kernel) (by decide +kernel), xm 370 (by decide +kernel) (by decide +kernel), xm 1 (by decide +kernel) (by decide +kernel), xm 40 (by decide +kernel) (by decide +kernel), xm 371 (by decide +kernel) (by decide +kernel), rfl, by decide +kernel, by decide +kernel, by decide +kernel⟩
theorem kv_X6_111 : xLV RX6 111 RX6 yX6_topCup cX6_topCup 1 (some .int) 0 := ⟨xm 372 (by decide +kernel) (by decide +kernel), xm 373 (by decide +kernel) (by decide +kernel), xm 374 (by decide +kernel) (by decide +kernel), xm 40 (by decide +kernel) (by decide +kernel), xm 375 (by decide +kernel) (by decide +kernel), rfl, by decide +kernel, by decide +kernel, by decide +kernel⟩
theorem kv_X6_115 : xLV RX6 115 RX6 yX6_roomOf cX6_roomOf 2 (some .int) 1 := ⟨xm 376 (by decide +kernel) (by decide +kernel), xm 310 (by decide +kernel) (by decide +kernel), xm 311 (by decide +kernel) (by decide +kernel), xm 40 (by decide +kernel) (by decide +kernel), xm 312 (by decide +kernel) (by decide +kernel), rfl, by decide +kernel, by decide +kernel, by decide +kernel⟩
theorem kv_X6_98 : xLV RX6 98 RX6 yX6_drain cX6_drain 3 none 1 := ⟨xm 377 (by decide +kernel) (by decide +kernel), xm 379 (by decide +kernel) (by decide +kernel), xm 2 (by decide +kernel) (by decide +kernel), xm 40 (by decide +kernel) (by decide +kernel), xm 380 (by decide +kernel) (by decide +kernel), rfl, by decide +kernel, by decide +kernel, by decide +kernel⟩
theorem kv_X6_118 : xLV RX6 118 RX6 yX6_leakOf cX6_leakOf 5 (some .int) 1 := ⟨xm 381 (by decide +kernel) (by decide +kernel), xm 316 (by decide +kernel) (by decide +kernel), xm 317 (by decide +kernel) (by decide +kernel), xm 40 (by decide +kernel) (by decide +kernel), xm 318 (by decide +kernel) (by decide +kernel), rfl, by decide +kernel, by decide +kernel, by decide +kernel⟩
theorem kv_X6_121 : xLV RX6 121 RX6 yX6_passOn cX6_passOn 3 none 1 := ⟨xm 382 (by decide +kernel) (by decide +kernel), xm 384 (by decide +kernel) (by decide +kernel), xm 3 (by decide +kernel) (by decide +kernel), xm 40 (by decide +kernel) (by decide +kernel), xm 385 (by decide +kernel) (by decide +kernel), rfl, by decide +kernel, by decide +kernel, by decide +kernel⟩
theorem kv_X6_102 : xLV RX6 102 RX6 yX6_swing cX6_swing 2 none 0 := ⟨xm 386 (by decide +kernel) (by decide +kernel), xm 388 (by decide +kernel) (by decide +kernel), xm 4 (by decide +kernel) (by decide +kernel), xm 40 (by decide +kernel) (by decide +kernel), xm 389 (by decide +kernel) (by decide +kernel), rfl, by decide +kernel, by decide +kernel, by decide +kernel⟩
theorem kv_X6_124 : xLV RX6 124 RX6 yX6_pull cX6_pull 3 (some .int) 0 := ⟨xm 390 (by decide +kernel) (by decide +kernel), xm 391 (by decide +kernel) (by decide +kernel), xm 392 (by decide +kernel) (by decide +kernel), xm 40 (by decide +kernel) (by decide +kernel), xm 393 (by decide +kernel) (by decide +kernel), rfl, by decide +kernel, by decide +kernel, by decide +kernel⟩
theorem fs_X6_81 : Cond.fieldLink RX6 81 (xzc 1) (xzn 1) "[I" ∈ xT := xm 394 (by decide +kernel) (by decide +kernel)
theorem ks_X6_127 : xLS RX6 127 yJ_fmod cJ_fmod 3 (some .int) 2 := ⟨xm 396 (by decide +kernel) (by decide +kernel), xm 397 (by decide +kernel) (by decide +kernel), xm 47 (by decide +kernel) (by decide +kernel), xm 398 (by decide +kernel) (by decide +kernel), by decide +kernel, by decide +kernel, by decide +kernel⟩
theorem kv_X6_105 : xLV RX6 105 RX6 yX6_watchWay cX6_watchWay 2 none 0 := ⟨xm 399 (by decide +kernel) (by decide +kernel), xm 401 (by decide +kernel) (by decide +kernel), xm 5 (by decide +kernel) (by decide +kernel), xm 40 (by decide +kernel) (by decide +kernel), xm 402 (by decide +kernel) (by decide +kernel), rfl, by decide +kernel, by decide +kernel, by decide +kernel⟩
theorem kv_X6_130 : xLV RX6 130 RX6 yX6_logTurn cX6_logTurn 1 none 0 := ⟨xm 403 (by decide +kernel) (by decide +kernel), xm 405 (by decide +kernel) (by decide +kernel), xm 6 (by decide +kernel) (by decide +kernel), xm 40 (by decide +kernel) (by decide +kernel), xm 406 (by decide +kernel) (by decide +kernel), rfl, by decide +kernel, by decide +kernel, by decide +kernel⟩
theorem kn_X6_67 : xLN RX6 67 yX7_within "LeakCups" cX7_within 3 (some .boolean) 3 := ⟨List.mem_of_getElem? (i := 407) (by decide +kernel), xm 284 (by decide +kernel) (by decide +kernel), xm 38 (by decide +kernel) (by decide +kernel), xm 285 (by decide +kernel) (by decide +kernel), by decide +kernel, by decide +kernel, by decide +kernel⟩
theorem km_X6_133 : Cond.methodLink RX6 133 (⟨"java/lang/Math", "abs", "(I)I"⟩ : MethodName) ∈ xT := xm 408 (by decide +kernel) (by decide +kernel)
theorem kv_JLeakCupsLaw_47 : xLV "LeakCupsLaw" 47 RX7 yX7_now cX7_now 3 (some .int) 1 := ⟨xm 411 (by decide +kernel) (by decide +kernel), xm 412 (by decide +kernel) (by decide +kernel), xm 413 (by decide +kernel) (by decide +kernel), xm 38 (by decide +kernel) (by decide +kernel), xm 414 (by decide +kernel) (by decide +kernel), rfl, by decide +kernel, by decide +kernel, by decide +kernel⟩
theorem kv_X7_121 : xLV RX7 121 RX6 yX6_waterOfAll cX6_waterOfAll 3 (some .int) 0 := ⟨xm 415 (by decide +kernel) (by decide +kernel), xm 416 (by decide +kernel) (by decide +kernel), xm 417 (by decide +kernel) (by decide +kernel), xm 40 (by decide +kernel) (by decide +kernel), xm 418 (by decide +kernel) (by decide +kernel), rfl, by decide +kernel, by decide +kernel, by decide +kernel⟩
theorem kv_X7_134 : xLV RX7 134 RX6 yX6_topCup cX6_topCup 1 (some .int) 0 := ⟨xm 419 (by decide +kernel) (by decide +kernel), xm 373 (by decide +kernel) (by decide +kernel), xm 374 (by decide +kernel) (by decide +kernel), xm 40 (by decide +kernel) (by decide +kernel), xm 375 (by decide +kernel) (by decide +kernel), rfl, by decide +kernel, by decide +kernel, by decide +kernel⟩
theorem kv_JLeakCupsLaw_51 : xLV "LeakCupsLaw" 51 RX7 yX7_torque cX7_torque 1 (some .int) 0 := ⟨xm 420 (by decide +kernel) (by decide +kernel), xm 421 (by decide +kernel) (by decide +kernel), xm 422 (by decide +kernel) (by decide +kernel), xm 38 (by decide +kernel) (by decide +kernel), xm 423 (by decide +kernel) (by decide +kernel), rfl, by decide +kernel, by decide +kernel, by decide +kernel⟩
theorem kv_X7_137 : xLV RX7 137 RX6 yX6_pull cX6_pull 3 (some .int) 0 := ⟨xm 424 (by decide +kernel) (by decide +kernel), xm 391 (by decide +kernel) (by decide +kernel), xm 392 (by decide +kernel) (by decide +kernel), xm 40 (by decide +kernel) (by decide +kernel), xm 393 (by decide +kernel) (by decide +kernel), rfl, by decide +kernel, by decide +kernel, by decide +kernel⟩
theorem kv_JLeakCupsLaw_56 : xLV "LeakCupsLaw" 56 RX7 yX7_turn cX7_turn 3 (some .int) 2 := ⟨xm 425 (by decide +kernel) (by decide +kernel), xm 426 (by decide +kernel) (by decide +kernel), xm 427 (by decide +kernel) (by decide +kernel), xm 38 (by decide +kernel) (by decide +kernel), xm 428 (by decide +kernel) (by decide +kernel), rfl, by decide +kernel, by decide +kernel, by decide +kernel⟩
theorem kv_X7_140 : xLV RX7 140 RX6 yX6_logged cX6_logged 1 (some .int) 0 := ⟨xm 429 (by decide +kernel) (by decide +kernel), xm 430 (by decide +kernel) (by decide +kernel), xm 431 (by decide +kernel) (by decide +kernel), xm 40 (by decide +kernel) (by decide +kernel), xm 432 (by decide +kernel) (by decide +kernel), rfl, by decide +kernel, by decide +kernel, by decide +kernel⟩
theorem kv_JLeakCupsLaw_60 : xLV "LeakCupsLaw" 60 RX7 yX7_nextPeak cX7_nextPeak 6 (some .int) 1 := ⟨xm 433 (by decide +kernel) (by decide +kernel), xm 434 (by decide +kernel) (by decide +kernel), xm 435 (by decide +kernel) (by decide +kernel), xm 38 (by decide +kernel) (by decide +kernel), xm 436 (by decide +kernel) (by decide +kernel), rfl, by decide +kernel, by decide +kernel, by decide +kernel⟩
theorem kc_X7_149 : Jvm.Cond.constant RX7 149 (-1000004) ∈ xT := xm 437 (by decide +kernel) (by decide +kernel)
theorem km_X7_150 : Cond.methodLink RX7 150 (⟨"java/lang/Math", "abs", "(I)I"⟩ : MethodName) ∈ xT := xm 438 (by decide +kernel) (by decide +kernel)
theorem kv_JLeakCupsLaw_64 : xLV "LeakCupsLaw" 64 RX7 yX7_rising cX7_rising 4 (some .int) 0 := ⟨xm 439 (by decide +kernel) (by decide +kernel), xm 440 (by decide +kernel) (by decide +kernel), xm 441 (by decide +kernel) (by decide +kernel), xm 38 (by decide +kernel) (by decide +kernel), xm 442 (by decide +kernel) (by decide +kernel), rfl, by decide +kernel, by decide +kernel, by decide +kernel⟩
theorem kv_JLeakCupsLaw_68 : xLV "LeakCupsLaw" 68 RX7 yX7_quickest cX7_quickest 5 (some .int) 0 := ⟨xm 443 (by decide +kernel) (by decide +kernel), xm 444 (by decide +kernel) (by decide +kernel), xm 445 (by decide +kernel) (by decide +kernel), xm 38 (by decide +kernel) (by decide +kernel), xm 446 (by decide +kernel) (by decide +kernel), rfl, by decide +kernel, by decide +kernel, by decide +kernel⟩
theorem km_X7_155 : Cond.methodLink RX7 155 (⟨"java/lang/Math", "min", "(II)I"⟩ : MethodName) ∈ xT := xm 447 (by decide +kernel) (by decide +kernel)
theorem kv_JLeakCupsLaw_72 : xLV "LeakCupsLaw" 72 RX7 yX7_feed cX7_feed 4 (some .int) 2 := ⟨xm 448 (by decide +kernel) (by decide +kernel), xm 449 (by decide +kernel) (by decide +kernel), xm 450 (by decide +kernel) (by decide +kernel), xm 38 (by decide +kernel) (by decide +kernel), xm 451 (by decide +kernel) (by decide +kernel), rfl, by decide +kernel, by decide +kernel, by decide +kernel⟩
theorem kv_X7_162 : xLV RX7 162 RX4 yX4_append cX4_append 2 none 1 := ⟨xm 452 (by decide +kernel) (by decide +kernel), xm 453 (by decide +kernel) (by decide +kernel), xm 454 (by decide +kernel) (by decide +kernel), xm 42 (by decide +kernel) (by decide +kernel), xm 455 (by decide +kernel) (by decide +kernel), rfl, by decide +kernel, by decide +kernel, by decide +kernel⟩
theorem kn_X4_17 : xLN RX4 17 yX7_within "LeakCups" cX7_within 3 (some .boolean) 3 := ⟨List.mem_of_getElem? (i := 456) (by decide +kernel), xm 284 (by decide +kernel) (by decide +kernel), xm 38 (by decide +kernel) (by decide +kernel), xm 285 (by decide +kernel) (by decide +kernel), by decide +kernel, by decide +kernel, by decide +kernel⟩
theorem kv_JLeakCupsLaw_76 : xLV "LeakCupsLaw" 76 RX7 yX7_wipe cX7_wipe 2 (some .int) 0 := ⟨xm 457 (by decide +kernel) (by decide +kernel), xm 458 (by decide +kernel) (by decide +kernel), xm 459 (by decide +kernel) (by decide +kernel), xm 38 (by decide +kernel) (by decide +kernel), xm 460 (by decide +kernel) (by decide +kernel), rfl, by decide +kernel, by decide +kernel, by decide +kernel⟩
theorem kv_JLeakCupsLaw_80 : xLV "LeakCupsLaw" 80 RX7 yX7_program cX7_program 2 (some .int) 0 := ⟨xm 461 (by decide +kernel) (by decide +kernel), xm 462 (by decide +kernel) (by decide +kernel), xm 463 (by decide +kernel) (by decide +kernel), xm 38 (by decide +kernel) (by decide +kernel), xm 464 (by decide +kernel) (by decide +kernel), rfl, by decide +kernel, by decide +kernel, by decide +kernel⟩
theorem kv_X7_172 : xLV RX7 172 RX5 yX5_read cX5_read 3 (some .int) 1 := ⟨xm 465 (by decide +kernel) (by decide +kernel), xm 466 (by decide +kernel) (by decide +kernel), xm 467 (by decide +kernel) (by decide +kernel), xm 43 (by decide +kernel) (by decide +kernel), xm 468 (by decide +kernel) (by decide +kernel), rfl, by decide +kernel, by decide +kernel, by decide +kernel⟩
theorem kv_X5_24 : xLV RX5 24 RX5 yX5_next cX5_next 1 none 0 := ⟨xm 469 (by decide +kernel) (by decide +kernel), xm 471 (by decide +kernel) (by decide +kernel), xm 7 (by decide +kernel) (by decide +kernel), xm 43 (by decide +kernel) (by decide +kernel), xm 472 (by decide +kernel) (by decide +kernel), rfl, by decide +kernel, by decide +kernel, by decide +kernel⟩
theorem kv_X5_55 : xLV RX5 55 RX4 yX4_byteAt cX4_byteAt 2 (some .int) 1 := ⟨xm 473 (by decide +kernel) (by decide +kernel), xm 474 (by decide +kernel) (by decide +kernel), xm 475 (by decide +kernel) (by decide +kernel), xm 42 (by decide +kernel) (by decide +kernel), xm 476 (by decide +kernel) (by decide +kernel), rfl, by decide +kernel, by decide +kernel, by decide +kernel⟩
theorem kv_X5_59 : xLV RX5 59 RX4 yX4_isLetter cX4_isLetter 2 (some .boolean) 1 := ⟨xm 477 (by decide +kernel) (by decide +kernel), xm 478 (by decide +kernel) (by decide +kernel), xm 479 (by decide +kernel) (by decide +kernel), xm 42 (by decide +kernel) (by decide +kernel), xm 480 (by decide +kernel) (by decide +kernel), rfl, by decide +kernel, by decide +kernel, by decide +kernel⟩
theorem kv_X4_23 : xLV RX4 23 RX4 yX4_byteAt cX4_byteAt 2 (some .int) 1 := ⟨xm 481 (by decide +kernel) (by decide +kernel), xm 474 (by decide +kernel) (by decide +kernel), xm 475 (by decide +kernel) (by decide +kernel), xm 42 (by decide +kernel) (by decide +kernel), xm 476 (by decide +kernel) (by decide +kernel), rfl, by decide +kernel, by decide +kernel, by decide +kernel⟩
theorem kv_X5_63 : xLV RX5 63 RX5 yX5_readWord cX5_readWord 2 none 0 := ⟨xm 482 (by decide +kernel) (by decide +kernel), xm 484 (by decide +kernel) (by decide +kernel), xm 8 (by decide +kernel) (by decide +kernel), xm 43 (by decide +kernel) (by decide +kernel), xm 485 (by decide +kernel) (by decide +kernel), rfl, by decide +kernel, by decide +kernel, by decide +kernel⟩
theorem ks_X5_75 : xLS RX5 75 yX0_wordOf cX0_wordOf 1 (some (.object "java/lang/String")) 1 := ⟨xm 486 (by decide +kernel) (by decide +kernel), xm 487 (by decide +kernel) (by decide +kernel), xm 41 (by decide +kernel) (by decide +kernel), xm 488 (by decide +kernel) (by decide +kernel), by decide +kernel, by decide +kernel, by decide +kernel⟩
theorem kv_X5_79 : xLV RX5 79 RX4 yX4_isWordAt cX4_isWordAt 5 (some .boolean) 3 := ⟨xm 502 (by decide +kernel) (by decide +kernel), xm 503 (by decide +kernel) (by decide +kernel), xm 504 (by decide +kernel) (by decide +kernel), xm 42 (by decide +kernel) (by decide +kernel), xm 505 (by decide +kernel) (by decide +kernel), rfl, by decide +kernel, by decide +kernel, by decide +kernel⟩
theorem kv_X4_27 : xLV RX4 27 "java/lang/String" yJ_Slen cJ_Slen 1 (some .int) 0 := ⟨xm 506 (by decide +kernel) (by decide +kernel), xm 507 (by decide +kernel) (by decide +kernel), xm 508 (by decide +kernel) (by decide +kernel), xm 49 (by decide +kernel) (by decide +kernel), xm 509 (by decide +kernel) (by decide +kernel), rfl, by decide +kernel, by decide +kernel, by decide +kernel⟩
theorem kv_JString_335 : xLV "java/lang/String" 335 "java/lang/String" yJ_Scod cJ_Scod 1 (some .byte) 0 := ⟨xm 510 (by decide +kernel) (by decide +kernel), xm 511 (by decide +kernel) (by decide +kernel), xm 512 (by decide +kernel) (by decide +kernel), xm 49 (by decide +kernel) (by decide +kernel), xm 513 (by decide +kernel) (by decide +kernel), rfl, by decide +kernel, by decide +kernel, by decide +kernel⟩
theorem fj_JString_38 : Cond.fieldLink "java/lang/String" 38 "java/lang/String" "COMPACT_STRINGS" "Z" ∈ xT := xm 514 (by decide +kernel) (by decide +kernel)
theorem kv_X4_33 : xLV RX4 33 "java/lang/String" yJ_Sch cJ_Sch 2 (some .char) 1 := ⟨xm 516 (by decide +kernel) (by decide +kernel), xm 517 (by decide +kernel) (by decide +kernel), xm 518 (by decide +kernel) (by decide +kernel), xm 49 (by decide +kernel) (by decide +kernel), xm 519 (by decide +kernel) (by decide +kernel), rfl, by decide +kernel, by decide +kernel, by decide +kernel⟩
theorem kv_JString_492 : xLV "java/lang/String" 492 "java/lang/String" yJ_Slat cJ_Slat 1 (some .boolean) 0 := ⟨xm 520 (by decide +kernel) (by decide +kernel), xm 521 (by decide +kernel) (by decide +kernel), xm 522 (by decide +kernel) (by decide +kernel), xm 49 (by decide +kernel) (by decide +kernel), xm 523 (by decide +kernel) (by decide +kernel), rfl, by decide +kernel, by decide +kernel, by decide +kernel⟩
theorem ks_JString_495 : xLS "java/lang/String" 495 yJ_Lch cJ_Lch 2 (some .char) 2 := ⟨xm 524 (by decide +kernel) (by decide +kernel), xm 525 (by decide +kernel) (by decide +kernel), xm 50 (by decide +kernel) (by decide +kernel), xm 526 (by decide +kernel) (by decide +kernel), by decide +kernel, by decide +kernel, by decide +kernel⟩
theorem ks_JStringLatin1_9 : xLS "java/lang/StringLatin1" 9 yJ_Schk cJ_Schk 2 none 2 := ⟨xm 527 (by decide +kernel) (by decide +kernel), xm 528 (by decide +kernel) (by decide +kernel), xm 49 (by decide +kernel) (by decide +kernel), xm 529 (by decide +kernel) (by decide +kernel), by decide +kernel, by decide +kernel, by decide +kernel⟩
theorem fj_JString_1053 : Cond.fieldLink "java/lang/String" 1053 "jdk/internal/util/Preconditions" "SIOOBE_FORMATTER" "Ljava/util/function/BiFunction;" ∈ xT := xm 530 (by decide +kernel) (by decide +kernel)
theorem ks_JString_1059 : xLS "java/lang/String" 1059 yJ_Pchk cJ_Pchk 3 (some .int) 3 := ⟨xm 532 (by decide +kernel) (by decide +kernel), xm 533 (by decide +kernel) (by decide +kernel), xm 51 (by decide +kernel) (by decide +kernel), xm 534 (by decide +kernel) (by decide +kernel), by decide +kernel, by decide +kernel, by decide +kernel⟩
theorem ks_JStringUTF16_414 : xLS "java/lang/StringUTF16" 414 yJ_Schk cJ_Schk 2 none 2 := ⟨xm 544 (by decide +kernel) (by decide +kernel), xm 528 (by decide +kernel) (by decide +kernel), xm 49 (by decide +kernel) (by decide +kernel), xm 529 (by decide +kernel) (by decide +kernel), by decide +kernel, by decide +kernel, by decide +kernel⟩
theorem fj_JStringUTF16_44 : Cond.fieldLink "java/lang/StringUTF16" 44 "java/lang/StringUTF16" "$assertionsDisabled" "Z" ∈ xT := xm 548 (by decide +kernel) (by decide +kernel)
theorem fj_JStringUTF16_59 : Cond.fieldLink "java/lang/StringUTF16" 59 "java/lang/StringUTF16" "HI_BYTE_SHIFT" "I" ∈ xT := xm 550 (by decide +kernel) (by decide +kernel)
theorem fj_JStringUTF16_63 : Cond.fieldLink "java/lang/StringUTF16" 63 "java/lang/StringUTF16" "LO_BYTE_SHIFT" "I" ∈ xT := xm 552 (by decide +kernel) (by decide +kernel)
theorem kv_X5_66 : xLV RX5 66 RX4 yX4_isDigit cX4_isDigit 2 (some .boolean) 1 := ⟨xm 554 (by decide +kernel) (by decide +kernel), xm 555 (by decide +kernel) (by decide +kernel), xm 556 (by decide +kernel) (by decide +kernel), xm 42 (by decide +kernel) (by decide +kernel), xm 557 (by decide +kernel) (by decide +kernel), rfl, by decide +kernel, by decide +kernel, by decide +kernel⟩
theorem kv_X5_69 : xLV RX5 69 RX5 yX5_readNumber cX5_readNumber 1 none 0 := ⟨xm 558 (by decide +kernel) (by decide +kernel), xm 560 (by decide +kernel) (by decide +kernel), xm 9 (by decide +kernel) (by decide +kernel), xm 43 (by decide +kernel) (by decide +kernel), xm 561 (by decide +kernel) (by decide +kernel), rfl, by decide +kernel, by decide +kernel, by decide +kernel⟩
theorem km_X5_83 : Cond.methodLink RX5 83 (⟨"java/lang/Math", "min", "(II)I"⟩ : MethodName) ∈ xT := xm 562 (by decide +kernel) (by decide +kernel)
theorem kv_X5_72 : xLV RX5 72 RX5 yX5_readSign cX5_readSign 1 none 0 := ⟨xm 563 (by decide +kernel) (by decide +kernel), xm 565 (by decide +kernel) (by decide +kernel), xm 10 (by decide +kernel) (by decide +kernel), xm 43 (by decide +kernel) (by decide +kernel), xm 566 (by decide +kernel) (by decide +kernel), rfl, by decide +kernel, by decide +kernel, by decide +kernel⟩
theorem kv_X5_27 : xLV RX5 27 RX5 yX5_readDeed cX5_readDeed 4 (some .boolean) 1 := ⟨xm 567 (by decide +kernel) (by decide +kernel), xm 569 (by decide +kernel) (by decide +kernel), xm 11 (by decide +kernel) (by decide +kernel), xm 43 (by decide +kernel) (by decide +kernel), xm 570 (by decide +kernel) (by decide +kernel), rfl, by decide +kernel, by decide +kernel, by decide +kernel⟩
theorem kv_X5_37 : xLV RX5 37 RX5 yX5_isSign cX5_isSign 2 (some .boolean) 1 := ⟨xm 571 (by decide +kernel) (by decide +kernel), xm 573 (by decide +kernel) (by decide +kernel), xm 12 (by decide +kernel) (by decide +kernel), xm 43 (by decide +kernel) (by decide +kernel), xm 574 (by decide +kernel) (by decide +kernel), rfl, by decide +kernel, by decide +kernel, by decide +kernel⟩
theorem ks_X5_47 : xLS RX5 47 yX0_takes cX0_takes 2 (some .boolean) 2 := ⟨xm 575 (by decide +kernel) (by decide +kernel), xm 576 (by decide +kernel) (by decide +kernel), xm 41 (by decide +kernel) (by decide +kernel), xm 577 (by decide +kernel) (by decide +kernel), by decide +kernel, by decide +kernel, by decide +kernel⟩
theorem fs_X0_47 : Cond.fieldLink RX0 47 (xzc 2) (xzn 2) "[I" ∈ xT := xm 578 (by decide +kernel) (by decide +kernel)
theorem fs_X0_50 : Cond.fieldLink RX0 50 (xzc 3) (xzn 3) "[I" ∈ xT := xm 580 (by decide +kernel) (by decide +kernel)
theorem kn_X0_28 : xLN RX0 28 yX7_within "LeakCups" cX7_within 3 (some .boolean) 3 := ⟨List.mem_of_getElem? (i := 582) (by decide +kernel), xm 284 (by decide +kernel) (by decide +kernel), xm 38 (by decide +kernel) (by decide +kernel), xm 285 (by decide +kernel) (by decide +kernel), by decide +kernel, by decide +kernel, by decide +kernel⟩
theorem kv_X5_51 : xLV RX5 51 RX0 yX0_add cX0_add 3 none 2 := ⟨xm 583 (by decide +kernel) (by decide +kernel), xm 584 (by decide +kernel) (by decide +kernel), xm 585 (by decide +kernel) (by decide +kernel), xm 41 (by decide +kernel) (by decide +kernel), xm 586 (by decide +kernel) (by decide +kernel), rfl, by decide +kernel, by decide +kernel, by decide +kernel⟩
theorem kv_JLeakCupsLaw_84 : xLV "LeakCupsLaw" 84 RX7 yX7_programOf cX7_programOf 3 (some .int) 2 := ⟨xm 588 (by decide +kernel) (by decide +kernel), xm 589 (by decide +kernel) (by decide +kernel), xm 590 (by decide +kernel) (by decide +kernel), xm 38 (by decide +kernel) (by decide +kernel), xm 591 (by decide +kernel) (by decide +kernel), rfl, by decide +kernel, by decide +kernel, by decide +kernel⟩
theorem kv_X7_176 : xLV RX7 176 RX7 yX7_isProgram cX7_isProgram 2 (some .boolean) 1 := ⟨xm 592 (by decide +kernel) (by decide +kernel), xm 594 (by decide +kernel) (by decide +kernel), xm 13 (by decide +kernel) (by decide +kernel), xm 38 (by decide +kernel) (by decide +kernel), xm 595 (by decide +kernel) (by decide +kernel), rfl, by decide +kernel, by decide +kernel, by decide +kernel⟩
theorem kv_X7_182 : xLV RX7 182 RX0 yX0_ticksOfAll cX0_ticksOfAll 3 (some .int) 0 := ⟨xm 596 (by decide +kernel) (by decide +kernel), xm 597 (by decide +kernel) (by decide +kernel), xm 598 (by decide +kernel) (by decide +kernel), xm 41 (by decide +kernel) (by decide +kernel), xm 599 (by decide +kernel) (by decide +kernel), rfl, by decide +kernel, by decide +kernel, by decide +kernel⟩
theorem kv_JLeakCupsLaw_88 : xLV "LeakCupsLaw" 88 RX7 yX7_play cX7_play 4 (some .int) 1 := ⟨xm 600 (by decide +kernel) (by decide +kernel), xm 601 (by decide +kernel) (by decide +kernel), xm 602 (by decide +kernel) (by decide +kernel), xm 38 (by decide +kernel) (by decide +kernel), xm 603 (by decide +kernel) (by decide +kernel), rfl, by decide +kernel, by decide +kernel, by decide +kernel⟩
theorem kv_X7_185 : xLV RX7 185 RX0 yX0_doDeed cX0_doDeed 5 none 2 := ⟨xm 604 (by decide +kernel) (by decide +kernel), xm 605 (by decide +kernel) (by decide +kernel), xm 606 (by decide +kernel) (by decide +kernel), xm 41 (by decide +kernel) (by decide +kernel), xm 607 (by decide +kernel) (by decide +kernel), rfl, by decide +kernel, by decide +kernel, by decide +kernel⟩
theorem kv_X0_40 : xLV RX0 40 RX6 yX6_nudge cX6_nudge 2 none 1 := ⟨xm 608 (by decide +kernel) (by decide +kernel), xm 343 (by decide +kernel) (by decide +kernel), xm 344 (by decide +kernel) (by decide +kernel), xm 40 (by decide +kernel) (by decide +kernel), xm 345 (by decide +kernel) (by decide +kernel), rfl, by decide +kernel, by decide +kernel, by decide +kernel⟩
theorem kv_X0_44 : xLV RX0 44 RX6 yX6_steps cX6_steps 3 none 1 := ⟨xm 609 (by decide +kernel) (by decide +kernel), xm 361 (by decide +kernel) (by decide +kernel), xm 362 (by decide +kernel) (by decide +kernel), xm 40 (by decide +kernel) (by decide +kernel), xm 363 (by decide +kernel) (by decide +kernel), rfl, by decide +kernel, by decide +kernel, by decide +kernel⟩
theorem kv_JLeakCupsLaw_92 : xLV "LeakCupsLaw" 92 RX7 yX7_ahead cX7_ahead 3 (some .int) 2 := ⟨xm 610 (by decide +kernel) (by decide +kernel), xm 611 (by decide +kernel) (by decide +kernel), xm 612 (by decide +kernel) (by decide +kernel), xm 38 (by decide +kernel) (by decide +kernel), xm 613 (by decide +kernel) (by decide +kernel), rfl, by decide +kernel, by decide +kernel, by decide +kernel⟩
theorem ks_X7_189 : xLS RX7 189 yX7_isAhead cX7_isAhead 1 (some .boolean) 1 := ⟨xm 614 (by decide +kernel) (by decide +kernel), xm 615 (by decide +kernel) (by decide +kernel), xm 38 (by decide +kernel) (by decide +kernel), xm 616 (by decide +kernel) (by decide +kernel), by decide +kernel, by decide +kernel, by decide +kernel⟩
theorem kv_X7_192 : xLV RX7 192 RX6 yX6_become cX6_become 2 none 1 := ⟨xm 617 (by decide +kernel) (by decide +kernel), xm 618 (by decide +kernel) (by decide +kernel), xm 619 (by decide +kernel) (by decide +kernel), xm 40 (by decide +kernel) (by decide +kernel), xm 620 (by decide +kernel) (by decide +kernel), rfl, by decide +kernel, by decide +kernel, by decide +kernel⟩
theorem km_X6_27 : Cond.methodLink RX6 27 arraycopyName ∈ xT := xm 621 (by decide +kernel) (by decide +kernel)
theorem kv_JLeakCupsLaw_96 : xLV "LeakCupsLaw" 96 RX7 yX7_apart cX7_apart 3 (some .int) 2 := ⟨xm 624 (by decide +kernel) (by decide +kernel), xm 625 (by decide +kernel) (by decide +kernel), xm 626 (by decide +kernel) (by decide +kernel), xm 38 (by decide +kernel) (by decide +kernel), xm 627 (by decide +kernel) (by decide +kernel), rfl, by decide +kernel, by decide +kernel, by decide +kernel⟩
theorem kv_X7_199 : xLV RX7 199 RX7 yX7_beginTwoRuns cX7_beginTwoRuns 2 none 1 := ⟨xm 628 (by decide +kernel) (by decide +kernel), xm 630 (by decide +kernel) (by decide +kernel), xm 14 (by decide +kernel) (by decide +kernel), xm 38 (by decide +kernel) (by decide +kernel), xm 631 (by decide +kernel) (by decide +kernel), rfl, by decide +kernel, by decide +kernel, by decide +kernel⟩
theorem kv_X7_202 : xLV RX7 202 RX7 yX7_differenceOfRuns cX7_differenceOfRuns 1 (some .int) 0 := ⟨xm 632 (by decide +kernel) (by decide +kernel), xm 634 (by decide +kernel) (by decide +kernel), xm 15 (by decide +kernel) (by decide +kernel), xm 38 (by decide +kernel) (by decide +kernel), xm 635 (by decide +kernel) (by decide +kernel), rfl, by decide +kernel, by decide +kernel, by decide +kernel⟩
theorem kv_JLeakCupsLaw_100 : xLV "LeakCupsLaw" 100 RX7 yX7_parts cX7_parts 4 (some .int) 2 := ⟨xm 636 (by decide +kernel) (by decide +kernel), xm 637 (by decide +kernel) (by decide +kernel), xm 638 (by decide +kernel) (by decide +kernel), xm 38 (by decide +kernel) (by decide +kernel), xm 639 (by decide +kernel) (by decide +kernel), rfl, by decide +kernel, by decide +kernel, by decide +kernel⟩
theorem kv_X7_205 : xLV RX7 205 RX6 yX6_step cX6_step 2 none 0 := ⟨xm 640 (by decide +kernel) (by decide +kernel), xm 365 (by decide +kernel) (by decide +kernel), xm 366 (by decide +kernel) (by decide +kernel), xm 40 (by decide +kernel) (by decide +kernel), xm 367 (by decide +kernel) (by decide +kernel), rfl, by decide +kernel, by decide +kernel, by decide +kernel⟩
theorem kv_JLeakCupsLaw_104 : xLV "LeakCupsLaw" 104 RX7 yX7_going cX7_going 2 (some .int) 1 := ⟨xm 641 (by decide +kernel) (by decide +kernel), xm 642 (by decide +kernel) (by decide +kernel), xm 643 (by decide +kernel) (by decide +kernel), xm 38 (by decide +kernel) (by decide +kernel), xm 644 (by decide +kernel) (by decide +kernel), rfl, by decide +kernel, by decide +kernel, by decide +kernel⟩
theorem ks_X7_208 : xLS RX7 208 yX7_isLongRun cX7_isLongRun 1 (some .boolean) 1 := ⟨xm 645 (by decide +kernel) (by decide +kernel), xm 646 (by decide +kernel) (by decide +kernel), xm 38 (by decide +kernel) (by decide +kernel), xm 647 (by decide +kernel) (by decide +kernel), by decide +kernel, by decide +kernel, by decide +kernel⟩
theorem kv_X7_211 : xLV RX7 211 RX6 yX6_goes cX6_goes 7 (some .int) 1 := ⟨xm 648 (by decide +kernel) (by decide +kernel), xm 649 (by decide +kernel) (by decide +kernel), xm 650 (by decide +kernel) (by decide +kernel), xm 40 (by decide +kernel) (by decide +kernel), xm 651 (by decide +kernel) (by decide +kernel), rfl, by decide +kernel, by decide +kernel, by decide +kernel⟩
theorem kv_X6_108 : xLV RX6 108 RX6 yX6_steps cX6_steps 3 none 1 := ⟨xm 652 (by decide +kernel) (by decide +kernel), xm 361 (by decide +kernel) (by decide +kernel), xm 362 (by decide +kernel) (by decide +kernel), xm 40 (by decide +kernel) (by decide +kernel), xm 363 (by decide +kernel) (by decide +kernel), rfl, by decide +kernel, by decide +kernel, by decide +kernel⟩
theorem kv_JLeakCupsLaw_108 : xLV "LeakCupsLaw" 108 RX7 yX7_tapFor cX7_tapFor 4 (some .int) 2 := ⟨xm 653 (by decide +kernel) (by decide +kernel), xm 654 (by decide +kernel) (by decide +kernel), xm 655 (by decide +kernel) (by decide +kernel), xm 38 (by decide +kernel) (by decide +kernel), xm 656 (by decide +kernel) (by decide +kernel), rfl, by decide +kernel, by decide +kernel, by decide +kernel⟩
theorem kv_JLeakCupsLaw_112 : xLV "LeakCupsLaw" 112 RX7 yX7_bounds cX7_bounds 6 (some .int) 2 := ⟨xm 657 (by decide +kernel) (by decide +kernel), xm 658 (by decide +kernel) (by decide +kernel), xm 659 (by decide +kernel) (by decide +kernel), xm 38 (by decide +kernel) (by decide +kernel), xm 660 (by decide +kernel) (by decide +kernel), rfl, by decide +kernel, by decide +kernel, by decide +kernel⟩
theorem km_X7_214 : Cond.methodLink RX7 214 (⟨"java/lang/Math", "max", "(II)I"⟩ : MethodName) ∈ xT := xm 661 (by decide +kernel) (by decide +kernel)
theorem kv_JLeakCupsLaw_116 : xLV "LeakCupsLaw" 116 RX7 yX7_often cX7_often 4 (some .int) 1 := ⟨xm 662 (by decide +kernel) (by decide +kernel), xm 663 (by decide +kernel) (by decide +kernel), xm 664 (by decide +kernel) (by decide +kernel), xm 38 (by decide +kernel) (by decide +kernel), xm 665 (by decide +kernel) (by decide +kernel), rfl, by decide +kernel, by decide +kernel, by decide +kernel⟩
theorem kv_JLeakCupsLaw_120 : xLV "LeakCupsLaw" 120 RX7 yX7_holds cX7_holds 3 (some .int) 1 := ⟨xm 666 (by decide +kernel) (by decide +kernel), xm 667 (by decide +kernel) (by decide +kernel), xm 668 (by decide +kernel) (by decide +kernel), xm 38 (by decide +kernel) (by decide +kernel), xm 669 (by decide +kernel) (by decide +kernel), rfl, by decide +kernel, by decide +kernel, by decide +kernel⟩
theorem kv_X7_217 : xLV RX7 217 RX7 yX7_isHeldBy cX7_isHeldBy 4 (some .boolean) 2 := ⟨xm 670 (by decide +kernel) (by decide +kernel), xm 672 (by decide +kernel) (by decide +kernel), xm 16 (by decide +kernel) (by decide +kernel), xm 38 (by decide +kernel) (by decide +kernel), xm 673 (by decide +kernel) (by decide +kernel), rfl, by decide +kernel, by decide +kernel, by decide +kernel⟩
theorem kv_JLeakCupsLaw_124 : xLV "LeakCupsLaw" 124 RX7 yX7_chance cX7_chance 5 (some .int) 2 := ⟨xm 674 (by decide +kernel) (by decide +kernel), xm 675 (by decide +kernel) (by decide +kernel), xm 676 (by decide +kernel) (by decide +kernel), xm 38 (by decide +kernel) (by decide +kernel), xm 677 (by decide +kernel) (by decide +kernel), rfl, by decide +kernel, by decide +kernel, by decide +kernel⟩
theorem kv_X7_221 : xLV RX7 221 RX3 yX3_draw cX3_draw 1 (some .int) 0 := ⟨xm 678 (by decide +kernel) (by decide +kernel), xm 679 (by decide +kernel) (by decide +kernel), xm 680 (by decide +kernel) (by decide +kernel), xm 39 (by decide +kernel) (by decide +kernel), xm 681 (by decide +kernel) (by decide +kernel), rfl, by decide +kernel, by decide +kernel, by decide +kernel⟩
theorem kc_X3_49 : Jvm.Cond.constant RX3 49 (1103515245) ∈ xT := xm 682 (by decide +kernel) (by decide +kernel)
theorem kv_JLeakCupsLaw_128 : xLV "LeakCupsLaw" 128 RX7 yX7_brief cX7_brief 6 (some .int) 4 := ⟨xm 683 (by decide +kernel) (by decide +kernel), xm 684 (by decide +kernel) (by decide +kernel), xm 685 (by decide +kernel) (by decide +kernel), xm 38 (by decide +kernel) (by decide +kernel), xm 686 (by decide +kernel) (by decide +kernel), rfl, by decide +kernel, by decide +kernel, by decide +kernel⟩
theorem ks_X7_224 : xLS RX7 224 yX7_isRuleBegin cX7_isRuleBegin 3 (some .boolean) 3 := ⟨xm 687 (by decide +kernel) (by decide +kernel), xm 688 (by decide +kernel) (by decide +kernel), xm 38 (by decide +kernel) (by decide +kernel), xm 689 (by decide +kernel) (by decide +kernel), by decide +kernel, by decide +kernel, by decide +kernel⟩
theorem kv_X7_227 : xLV RX7 227 RX2 yX2_begin cX2_begin 3 none 2 := ⟨xm 690 (by decide +kernel) (by decide +kernel), xm 691 (by decide +kernel) (by decide +kernel), xm 692 (by decide +kernel) (by decide +kernel), xm 44 (by decide +kernel) (by decide +kernel), xm 693 (by decide +kernel) (by decide +kernel), rfl, by decide +kernel, by decide +kernel, by decide +kernel⟩
theorem kv_X7_231 : xLV RX7 231 RX2 yX2_apply cX2_apply 7 none 0 := ⟨xm 694 (by decide +kernel) (by decide +kernel), xm 695 (by decide +kernel) (by decide +kernel), xm 696 (by decide +kernel) (by decide +kernel), xm 44 (by decide +kernel) (by decide +kernel), xm 697 (by decide +kernel) (by decide +kernel), rfl, by decide +kernel, by decide +kernel, by decide +kernel⟩
theorem kc_X2_19 : Jvm.Cond.constantLong RX2 19 (10) ∈ xT := xm 698 (by decide +kernel) (by decide +kernel)
theorem kc_X2_21 : Jvm.Cond.constantLong RX2 21 (2800) ∈ xT := xm 699 (by decide +kernel) (by decide +kernel)
theorem kc_X2_23 : Jvm.Cond.constantLong RX2 23 (100) ∈ xT := xm 700 (by decide +kernel) (by decide +kernel)
theorem kc_X2_25 : Jvm.Cond.constantLong RX2 25 (8) ∈ xT := xm 701 (by decide +kernel) (by decide +kernel)
theorem kc_X2_27 : Jvm.Cond.constantLong RX2 27 (3) ∈ xT := xm 702 (by decide +kernel) (by decide +kernel)
theorem ks_X2_29 : xLS RX2 29 yX2_held cX2_held 2 (some .long) 1 := ⟨xm 703 (by decide +kernel) (by decide +kernel), xm 704 (by decide +kernel) (by decide +kernel), xm 44 (by decide +kernel) (by decide +kernel), xm 705 (by decide +kernel) (by decide +kernel), by decide +kernel, by decide +kernel, by decide +kernel⟩
theorem kc_X2_33 : Jvm.Cond.constantLong RX2 33 (-99999) ∈ xT := xm 706 (by decide +kernel) (by decide +kernel)
theorem kc_X2_35 : Jvm.Cond.constantLong RX2 35 (99999) ∈ xT := xm 707 (by decide +kernel) (by decide +kernel)
theorem km_X2_37 : Cond.methodLink RX2 37 (⟨"java/lang/Math", "min", "(JJ)J"⟩ : MethodName) ∈ xT := xm 708 (by decide +kernel) (by decide +kernel)
theorem km_X2_43 : Cond.methodLink RX2 43 (⟨"java/lang/Math", "max", "(JJ)J"⟩ : MethodName) ∈ xT := xm 711 (by decide +kernel) (by decide +kernel)
theorem kv_JLeakCupsLaw_133 : xLV "LeakCupsLaw" 133 RX7 yX7_flips cX7_flips 8 (some .int) 3 := ⟨xm 714 (by decide +kernel) (by decide +kernel), xm 715 (by decide +kernel) (by decide +kernel), xm 716 (by decide +kernel) (by decide +kernel), xm 38 (by decide +kernel) (by decide +kernel), xm 717 (by decide +kernel) (by decide +kernel), rfl, by decide +kernel, by decide +kernel, by decide +kernel⟩
theorem ks_X7_244 : xLS RX7 244 yJ_Lcmp cJ_Lcmp 4 (some .int) 2 := ⟨xm 718 (by decide +kernel) (by decide +kernel), xm 719 (by decide +kernel) (by decide +kernel), xm 54 (by decide +kernel) (by decide +kernel), xm 720 (by decide +kernel) (by decide +kernel), by decide +kernel, by decide +kernel, by decide +kernel⟩
theorem kv_JLeakCupsLaw_138 : xLV "LeakCupsLaw" 138 RX7 yX7_seed cX7_seed 3 (some .int) 1 := ⟨xm 721 (by decide +kernel) (by decide +kernel), xm 722 (by decide +kernel) (by decide +kernel), xm 723 (by decide +kernel) (by decide +kernel), xm 38 (by decide +kernel) (by decide +kernel), xm 724 (by decide +kernel) (by decide +kernel), rfl, by decide +kernel, by decide +kernel, by decide +kernel⟩
theorem kv_JLeakCupsLaw_142 : xLV "LeakCupsLaw" 142 RX7 yX7_hold cX7_hold 3 (some .int) 2 := ⟨xm 725 (by decide +kernel) (by decide +kernel), xm 726 (by decide +kernel) (by decide +kernel), xm 727 (by decide +kernel) (by decide +kernel), xm 38 (by decide +kernel) (by decide +kernel), xm 728 (by decide +kernel) (by decide +kernel), rfl, by decide +kernel, by decide +kernel, by decide +kernel⟩
theorem ks_X7_252 : xLS RX7 252 yX7_isSpot cX7_isSpot 1 (some .boolean) 1 := ⟨xm 729 (by decide +kernel) (by decide +kernel), xm 730 (by decide +kernel) (by decide +kernel), xm 38 (by decide +kernel) (by decide +kernel), xm 731 (by decide +kernel) (by decide +kernel), by decide +kernel, by decide +kernel, by decide +kernel⟩
theorem kv_JLeakCupsLaw_146 : xLV "LeakCupsLaw" 146 RX7 yX7_as cX7_as 4 (some .int) 2 := ⟨xm 732 (by decide +kernel) (by decide +kernel), xm 733 (by decide +kernel) (by decide +kernel), xm 734 (by decide +kernel) (by decide +kernel), xm 38 (by decide +kernel) (by decide +kernel), xm 735 (by decide +kernel) (by decide +kernel), rfl, by decide +kernel, by decide +kernel, by decide +kernel⟩
theorem kc_X7_258 : Jvm.Cond.constant RX7 258 (-1000006) ∈ xT := xm 736 (by decide +kernel) (by decide +kernel)
theorem kv_X7_259 : xLV RX7 259 RX6 yX6_isOf cX6_isOf 5 (some .boolean) 2 := ⟨xm 737 (by decide +kernel) (by decide +kernel), xm 738 (by decide +kernel) (by decide +kernel), xm 739 (by decide +kernel) (by decide +kernel), xm 40 (by decide +kernel) (by decide +kernel), xm 740 (by decide +kernel) (by decide +kernel), rfl, by decide +kernel, by decide +kernel, by decide +kernel⟩
theorem fs_X6_71 : Cond.fieldLink RX6 71 (xzc 4) (xzn 4) "[I" ∈ xT := xm 741 (by decide +kernel) (by decide +kernel)
theorem kc_X7_262 : Jvm.Cond.constant RX7 262 (-1000003) ∈ xT := xm 743 (by decide +kernel) (by decide +kernel)
theorem kv_JLeakCupsLaw_150 : xLV "LeakCupsLaw" 150 RX7 yX7_sheet cX7_sheet 5 (some .int) 3 := ⟨xm 744 (by decide +kernel) (by decide +kernel), xm 745 (by decide +kernel) (by decide +kernel), xm 746 (by decide +kernel) (by decide +kernel), xm 38 (by decide +kernel) (by decide +kernel), xm 747 (by decide +kernel) (by decide +kernel), rfl, by decide +kernel, by decide +kernel, by decide +kernel⟩
theorem ks_X7_263 : xLS RX7 263 yX7_isSheet cX7_isSheet 1 (some .boolean) 1 := ⟨xm 748 (by decide +kernel) (by decide +kernel), xm 749 (by decide +kernel) (by decide +kernel), xm 38 (by decide +kernel) (by decide +kernel), xm 750 (by decide +kernel) (by decide +kernel), by decide +kernel, by decide +kernel, by decide +kernel⟩
theorem kc_X7_266 : Jvm.Cond.constant RX7 266 (-1000007) ∈ xT := xm 751 (by decide +kernel) (by decide +kernel)
theorem kv_X7_267 : xLV RX7 267 RX1 yX1_begin cX1_begin 4 none 2 := ⟨xm 752 (by decide +kernel) (by decide +kernel), xm 753 (by decide +kernel) (by decide +kernel), xm 754 (by decide +kernel) (by decide +kernel), xm 45 (by decide +kernel) (by decide +kernel), xm 755 (by decide +kernel) (by decide +kernel), rfl, by decide +kernel, by decide +kernel, by decide +kernel⟩
theorem kv_JLeakCupsLaw_154 : xLV "LeakCupsLaw" 154 RX7 yX7_write cX7_write 4 (some .int) 3 := ⟨xm 756 (by decide +kernel) (by decide +kernel), xm 757 (by decide +kernel) (by decide +kernel), xm 758 (by decide +kernel) (by decide +kernel), xm 38 (by decide +kernel) (by decide +kernel), xm 759 (by decide +kernel) (by decide +kernel), rfl, by decide +kernel, by decide +kernel, by decide +kernel⟩
theorem kv_X7_268 : xLV RX7 268 RX1 yX1_isMissing cX1_isMissing 1 (some .boolean) 0 := ⟨xm 760 (by decide +kernel) (by decide +kernel), xm 761 (by decide +kernel) (by decide +kernel), xm 762 (by decide +kernel) (by decide +kernel), xm 45 (by decide +kernel) (by decide +kernel), xm 763 (by decide +kernel) (by decide +kernel), rfl, by decide +kernel, by decide +kernel, by decide +kernel⟩
theorem kv_X7_273 : xLV RX7 273 RX1 yX1_put cX1_put 3 none 2 := ⟨xm 764 (by decide +kernel) (by decide +kernel), xm 765 (by decide +kernel) (by decide +kernel), xm 766 (by decide +kernel) (by decide +kernel), xm 45 (by decide +kernel) (by decide +kernel), xm 767 (by decide +kernel) (by decide +kernel), rfl, by decide +kernel, by decide +kernel, by decide +kernel⟩
theorem kn_X1_20 : xLN RX1 20 yX7_within "LeakCups" cX7_within 3 (some .boolean) 3 := ⟨List.mem_of_getElem? (i := 768) (by decide +kernel), xm 284 (by decide +kernel) (by decide +kernel), xm 38 (by decide +kernel) (by decide +kernel), xm 285 (by decide +kernel) (by decide +kernel), by decide +kernel, by decide +kernel, by decide +kernel⟩
theorem kv_X1_26 : xLV RX1 26 RX1 yX1_cut cX1_cut 2 (some .int) 1 := ⟨xm 769 (by decide +kernel) (by decide +kernel), xm 771 (by decide +kernel) (by decide +kernel), xm 17 (by decide +kernel) (by decide +kernel), xm 45 (by decide +kernel) (by decide +kernel), xm 772 (by decide +kernel) (by decide +kernel), rfl, by decide +kernel, by decide +kernel, by decide +kernel⟩
theorem kv_JLeakCupsLaw_158 : xLV "LeakCupsLaw" 158 RX7 yX7_copy cX7_copy 8 (some .int) 5 := ⟨xm 773 (by decide +kernel) (by decide +kernel), xm 774 (by decide +kernel) (by decide +kernel), xm 775 (by decide +kernel) (by decide +kernel), xm 38 (by decide +kernel) (by decide +kernel), xm 776 (by decide +kernel) (by decide +kernel), rfl, by decide +kernel, by decide +kernel, by decide +kernel⟩
theorem kv_X7_279 : xLV RX7 279 RX1 yX1_has cX1_has 3 (some .boolean) 2 := ⟨xm 777 (by decide +kernel) (by decide +kernel), xm 778 (by decide +kernel) (by decide +kernel), xm 779 (by decide +kernel) (by decide +kernel), xm 45 (by decide +kernel) (by decide +kernel), xm 780 (by decide +kernel) (by decide +kernel), rfl, by decide +kernel, by decide +kernel, by decide +kernel⟩
theorem km_X7_285 : Cond.methodLink RX7 285 arraycopyName ∈ xT := xm 781 (by decide +kernel) (by decide +kernel)
theorem kv_JLeakCupsLaw_163 : xLV "LeakCupsLaw" 163 RX7 yX7_load cX7_load 4 (some .int) 1 := ⟨xm 782 (by decide +kernel) (by decide +kernel), xm 783 (by decide +kernel) (by decide +kernel), xm 784 (by decide +kernel) (by decide +kernel), xm 38 (by decide +kernel) (by decide +kernel), xm 785 (by decide +kernel) (by decide +kernel), rfl, by decide +kernel, by decide +kernel, by decide +kernel⟩
theorem kv_JLeakCupsLaw_167 : xLV "LeakCupsLaw" 167 RX7 yX7_judge cX7_judge 4 (some .int) 1 := ⟨xm 786 (by decide +kernel) (by decide +kernel), xm 787 (by decide +kernel) (by decide +kernel), xm 788 (by decide +kernel) (by decide +kernel), xm 38 (by decide +kernel) (by decide +kernel), xm 789 (by decide +kernel) (by decide +kernel), rfl, by decide +kernel, by decide +kernel, by decide +kernel⟩
theorem kv_JLeakCupsLaw_171 : xLV "LeakCupsLaw" 171 RX7 yX7_image cX7_image 1 (some .int) 0 := ⟨xm 790 (by decide +kernel) (by decide +kernel), xm 791 (by decide +kernel) (by decide +kernel), xm 792 (by decide +kernel) (by decide +kernel), xm 38 (by decide +kernel) (by decide +kernel), xm 793 (by decide +kernel) (by decide +kernel), rfl, by decide +kernel, by decide +kernel, by decide +kernel⟩
theorem kv_X7_291 : xLV RX7 291 RX3 yX3_become cX3_become 3 none 1 := ⟨xm 794 (by decide +kernel) (by decide +kernel), xm 795 (by decide +kernel) (by decide +kernel), xm 796 (by decide +kernel) (by decide +kernel), xm 39 (by decide +kernel) (by decide +kernel), xm 797 (by decide +kernel) (by decide +kernel), rfl, by decide +kernel, by decide +kernel, by decide +kernel⟩
theorem kv_X3_33 : xLV RX3 33 RX6 yX6_become cX6_become 2 none 1 := ⟨xm 798 (by decide +kernel) (by decide +kernel), xm 618 (by decide +kernel) (by decide +kernel), xm 619 (by decide +kernel) (by decide +kernel), xm 40 (by decide +kernel) (by decide +kernel), xm 620 (by decide +kernel) (by decide +kernel), rfl, by decide +kernel, by decide +kernel, by decide +kernel⟩
theorem kv_X3_37 : xLV RX3 37 RX0 yX0_become cX0_become 2 none 1 := ⟨xm 799 (by decide +kernel) (by decide +kernel), xm 800 (by decide +kernel) (by decide +kernel), xm 801 (by decide +kernel) (by decide +kernel), xm 41 (by decide +kernel) (by decide +kernel), xm 802 (by decide +kernel) (by decide +kernel), rfl, by decide +kernel, by decide +kernel, by decide +kernel⟩
theorem km_X0_18 : Cond.methodLink RX0 18 arraycopyName ∈ xT := xm 803 (by decide +kernel) (by decide +kernel)
theorem km_X3_43 : Cond.methodLink RX3 43 arraycopyName ∈ xT := xm 804 (by decide +kernel) (by decide +kernel)
theorem kv_JLeakCupsLaw_175 : xLV "LeakCupsLaw" 175 RX7 yX7_undo cX7_undo 1 (some .int) 0 := ⟨xm 805 (by decide +kernel) (by decide +kernel), xm 806 (by decide +kernel) (by decide +kernel), xm 807 (by decide +kernel) (by decide +kernel), xm 38 (by decide +kernel) (by decide +kernel), xm 808 (by decide +kernel) (by decide +kernel), rfl, by decide +kernel, by decide +kernel, by decide +kernel⟩
theorem kv_JLeakCupsLaw_179 : xLV "LeakCupsLaw" 179 RX7 yX7_tear cX7_tear 2 (some .int) 0 := ⟨xm 809 (by decide +kernel) (by decide +kernel), xm 810 (by decide +kernel) (by decide +kernel), xm 811 (by decide +kernel) (by decide +kernel), xm 38 (by decide +kernel) (by decide +kernel), xm 812 (by decide +kernel) (by decide +kernel), rfl, by decide +kernel, by decide +kernel, by decide +kernel⟩
theorem kv_JLeakCupsLaw_183 : xLV "LeakCupsLaw" 183 RX7 yX7_count cX7_count 2 (some .int) 1 := ⟨xm 813 (by decide +kernel) (by decide +kernel), xm 814 (by decide +kernel) (by decide +kernel), xm 815 (by decide +kernel) (by decide +kernel), xm 38 (by decide +kernel) (by decide +kernel), xm 816 (by decide +kernel) (by decide +kernel), rfl, by decide +kernel, by decide +kernel, by decide +kernel⟩
theorem kv_JLeakCupsLaw_187 : xLV "LeakCupsLaw" 187 RX7 yX7_status cX7_status 2 (some .int) 1 := ⟨xm 817 (by decide +kernel) (by decide +kernel), xm 818 (by decide +kernel) (by decide +kernel), xm 819 (by decide +kernel) (by decide +kernel), xm 38 (by decide +kernel) (by decide +kernel), xm 820 (by decide +kernel) (by decide +kernel), rfl, by decide +kernel, by decide +kernel, by decide +kernel⟩
theorem kv_X7_298 : xLV RX7 298 RX7 yX7_findingsOfAll cX7_findingsOfAll 3 (some .int) 0 := ⟨xm 821 (by decide +kernel) (by decide +kernel), xm 823 (by decide +kernel) (by decide +kernel), xm 18 (by decide +kernel) (by decide +kernel), xm 38 (by decide +kernel) (by decide +kernel), xm 824 (by decide +kernel) (by decide +kernel), rfl, by decide +kernel, by decide +kernel, by decide +kernel⟩
theorem fl_X8_9 : xFl RX8 9 8 0 := ⟨RX8, TX8, 20, rfl, by decide, xin_X8, xm 831 (by decide +kernel) (by decide +kernel)⟩
theorem fl_X8_13 : xFl RX8 13 8 1 := ⟨RX8, TX8, 20, rfl, by decide, xin_X8, xm 832 (by decide +kernel) (by decide +kernel)⟩
theorem fl_X8_16 : xFl RX8 16 8 2 := ⟨RX8, TX8, 20, rfl, by decide, xin_X8, xm 833 (by decide +kernel) (by decide +kernel)⟩
theorem fl_X8_19 : xFl RX8 19 8 3 := ⟨RX8, TX8, 20, rfl, by decide, xin_X8, xm 834 (by decide +kernel) (by decide +kernel)⟩
theorem fl_X8_288 : xFl RX8 288 8 4 := ⟨RX8, TX8, 20, rfl, by decide, xin_X8, xm 835 (by decide +kernel) (by decide +kernel)⟩
theorem fp_X8_288 : xFp RX8 288 8 4 .boolean := ⟨RX8, TX8, 20, tyX8, rfl, by decide, xin_X8, xm 835 (by decide +kernel) (by decide +kernel), tyX8_ok, nmX8, rfl, by decide +kernel⟩
theorem fl_X8_22 : xFl RX8 22 8 5 := ⟨RX8, TX8, 20, rfl, by decide, xin_X8, xm 836 (by decide +kernel) (by decide +kernel)⟩
theorem fl_X8_25 : xFl RX8 25 8 6 := ⟨RX8, TX8, 20, rfl, by decide, xin_X8, xm 837 (by decide +kernel) (by decide +kernel)⟩
theorem fl_X8_28 : xFl RX8 28 8 7 := ⟨RX8, TX8, 20, rfl, by decide, xin_X8, xm 838 (by decide +kernel) (by decide +kernel)⟩
theorem fl_X8_129 : xFl RX8 129 8 8 := ⟨RX8, TX8, 20, rfl, by decide, xin_X8, xm 839 (by decide +kernel) (by decide +kernel)⟩
theorem fp_X8_129 : xFp RX8 129 8 8 .int := ⟨RX8, TX8, 20, tyX8, rfl, by decide, xin_X8, xm 839 (by decide +kernel) (by decide +kernel), tyX8_ok, nmX8, rfl, by decide +kernel⟩
theorem fl_X8_133 : xFl RX8 133 8 9 := ⟨RX8, TX8, 20, rfl, by decide, xin_X8, xm 840 (by decide +kernel) (by decide +kernel)⟩
theorem fp_X8_133 : xFp RX8 133 8 9 .int := ⟨RX8, TX8, 20, tyX8, rfl, by decide, xin_X8, xm 840 (by decide +kernel) (by decide +kernel), tyX8_ok, nmX8, rfl, by decide +kernel⟩
theorem fl_X8_136 : xFl RX8 136 8 10 := ⟨RX8, TX8, 20, rfl, by decide, xin_X8, xm 841 (by decide +kernel) (by decide +kernel)⟩
theorem fp_X8_136 : xFp RX8 136 8 10 .int := ⟨RX8, TX8, 20, tyX8, rfl, by decide, xin_X8, xm 841 (by decide +kernel) (by decide +kernel), tyX8_ok, nmX8, rfl, by decide +kernel⟩
theorem fl_X8_146 : xFl RX8 146 8 11 := ⟨RX8, TX8, 20, rfl, by decide, xin_X8, xm 842 (by decide +kernel) (by decide +kernel)⟩
theorem fp_X8_146 : xFp RX8 146 8 11 .int := ⟨RX8, TX8, 20, tyX8, rfl, by decide, xin_X8, xm 842 (by decide +kernel) (by decide +kernel), tyX8_ok, nmX8, rfl, by decide +kernel⟩
theorem fl_X8_139 : xFl RX8 139 8 12 := ⟨RX8, TX8, 20, rfl, by decide, xin_X8, xm 843 (by decide +kernel) (by decide +kernel)⟩
theorem fp_X8_139 : xFp RX8 139 8 12 .long := ⟨RX8, TX8, 20, tyX8, rfl, by decide, xin_X8, xm 843 (by decide +kernel) (by decide +kernel), tyX8_ok, nmX8, rfl, by decide +kernel⟩
theorem fl_X8_143 : xFl RX8 143 8 13 := ⟨RX8, TX8, 20, rfl, by decide, xin_X8, xm 844 (by decide +kernel) (by decide +kernel)⟩
theorem fp_X8_143 : xFp RX8 143 8 13 .int := ⟨RX8, TX8, 20, tyX8, rfl, by decide, xin_X8, xm 844 (by decide +kernel) (by decide +kernel), tyX8_ok, nmX8, rfl, by decide +kernel⟩
theorem fl_X8_200 : xFl RX8 200 8 14 := ⟨RX8, TX8, 20, rfl, by decide, xin_X8, xm 845 (by decide +kernel) (by decide +kernel)⟩
theorem fp_X8_200 : xFp RX8 200 8 14 .boolean := ⟨RX8, TX8, 20, tyX8, rfl, by decide, xin_X8, xm 845 (by decide +kernel) (by decide +kernel), tyX8_ok, nmX8, rfl, by decide +kernel⟩
theorem fl_X8_31 : xFl RX8 31 8 15 := ⟨RX8, TX8, 20, rfl, by decide, xin_X8, xm 846 (by decide +kernel) (by decide +kernel)⟩
theorem fl_X8_34 : xFl RX8 34 8 16 := ⟨RX8, TX8, 20, rfl, by decide, xin_X8, xm 847 (by decide +kernel) (by decide +kernel)⟩
theorem fl_X8_37 : xFl RX8 37 8 17 := ⟨RX8, TX8, 20, rfl, by decide, xin_X8, xm 848 (by decide +kernel) (by decide +kernel)⟩
theorem fl_X8_40 : xFl RX8 40 8 18 := ⟨RX8, TX8, 20, rfl, by decide, xin_X8, xm 849 (by decide +kernel) (by decide +kernel)⟩
theorem fl_X8_43 : xFl RX8 43 8 19 := ⟨RX8, TX8, 20, rfl, by decide, xin_X8, xm 850 (by decide +kernel) (by decide +kernel)⟩
theorem kv_JLeakCupsLaw_17 : xLV "LeakCupsLaw" 17 RX8 yX8_set cX8_set 4 (some .int) 2 := ⟨xm 892 (by decide +kernel) (by decide +kernel), xm 893 (by decide +kernel) (by decide +kernel), xm 894 (by decide +kernel) (by decide +kernel), xm 46 (by decide +kernel) (by decide +kernel), xm 895 (by decide +kernel) (by decide +kernel), rfl, by decide +kernel, by decide +kernel, by decide +kernel⟩
theorem ks_X8_57 : xLS RX8 57 yX8_mayBe cX8_mayBe 2 (some .boolean) 2 := ⟨xm 896 (by decide +kernel) (by decide +kernel), xm 897 (by decide +kernel) (by decide +kernel), xm 46 (by decide +kernel) (by decide +kernel), xm 898 (by decide +kernel) (by decide +kernel), by decide +kernel, by decide +kernel, by decide +kernel⟩
theorem kc_X8_53 : Jvm.Cond.constantLong RX8 53 (99) ∈ xT := xm 899 (by decide +kernel) (by decide +kernel)
theorem ks_X8_49 : xLS RX8 49 yX8_in cX8_in 6 (some .boolean) 3 := ⟨xm 900 (by decide +kernel) (by decide +kernel), xm 901 (by decide +kernel) (by decide +kernel), xm 46 (by decide +kernel) (by decide +kernel), xm 902 (by decide +kernel) (by decide +kernel), by decide +kernel, by decide +kernel, by decide +kernel⟩
theorem kc_X8_55 : Jvm.Cond.constantLong RX8 55 (2) ∈ xT := xm 903 (by decide +kernel) (by decide +kernel)
theorem kc_X8_46 : Jvm.Cond.constant RX8 46 (-1000001) ∈ xT := xm 904 (by decide +kernel) (by decide +kernel)
theorem kv_X8_61 : xLV RX8 61 RX8 yX8_finds cX8_finds 2 (some .int) 1 := ⟨xm 905 (by decide +kernel) (by decide +kernel), xm 907 (by decide +kernel) (by decide +kernel), xm 19 (by decide +kernel) (by decide +kernel), xm 46 (by decide +kernel) (by decide +kernel), xm 908 (by decide +kernel) (by decide +kernel), rfl, by decide +kernel, by decide +kernel, by decide +kernel⟩
theorem kv_JLeakCupsLaw_21 : xLV "LeakCupsLaw" 21 RX8 yX8_kind cX8_kind 4 (some .int) 2 := ⟨xm 909 (by decide +kernel) (by decide +kernel), xm 910 (by decide +kernel) (by decide +kernel), xm 911 (by decide +kernel) (by decide +kernel), xm 46 (by decide +kernel) (by decide +kernel), xm 912 (by decide +kernel) (by decide +kernel), rfl, by decide +kernel, by decide +kernel, by decide +kernel⟩
theorem ks_X8_65 : xLS RX8 65 yX8_isCup cX8_isCup 1 (some .boolean) 1 := ⟨xm 913 (by decide +kernel) (by decide +kernel), xm 914 (by decide +kernel) (by decide +kernel), xm 46 (by decide +kernel) (by decide +kernel), xm 915 (by decide +kernel) (by decide +kernel), by decide +kernel, by decide +kernel, by decide +kernel⟩
theorem kc_X8_47 : Jvm.Cond.constantLong RX8 47 (11) ∈ xT := xm 916 (by decide +kernel) (by decide +kernel)
theorem kc_X8_69 : Jvm.Cond.constantLong RX8 69 (6) ∈ xT := xm 917 (by decide +kernel) (by decide +kernel)
theorem kv_JLeakCupsLaw_25 : xLV "LeakCupsLaw" 25 RX8 yX8_cupOf cX8_cupOf 3 (some .int) 2 := ⟨xm 918 (by decide +kernel) (by decide +kernel), xm 919 (by decide +kernel) (by decide +kernel), xm 920 (by decide +kernel) (by decide +kernel), xm 46 (by decide +kernel) (by decide +kernel), xm 921 (by decide +kernel) (by decide +kernel), rfl, by decide +kernel, by decide +kernel, by decide +kernel⟩
theorem kc_X8_75 : Jvm.Cond.constantLong RX8 75 (4) ∈ xT := xm 922 (by decide +kernel) (by decide +kernel)
theorem ks_X8_71 : xLS RX8 71 yX8_placeOf cX8_placeOf 2 (some .int) 2 := ⟨xm 923 (by decide +kernel) (by decide +kernel), xm 924 (by decide +kernel) (by decide +kernel), xm 46 (by decide +kernel) (by decide +kernel), xm 925 (by decide +kernel) (by decide +kernel), by decide +kernel, by decide +kernel, by decide +kernel⟩
theorem ks_X8_77 : xLS RX8 77 yX8_roomOf cX8_roomOf 2 (some .int) 2 := ⟨xm 926 (by decide +kernel) (by decide +kernel), xm 927 (by decide +kernel) (by decide +kernel), xm 46 (by decide +kernel) (by decide +kernel), xm 928 (by decide +kernel) (by decide +kernel), by decide +kernel, by decide +kernel, by decide +kernel⟩
theorem ks_X8_80 : xLS RX8 80 yX8_leaksFrom cX8_leaksFrom 5 (some .int) 2 := ⟨xm 929 (by decide +kernel) (by decide +kernel), xm 930 (by decide +kernel) (by decide +kernel), xm 46 (by decide +kernel) (by decide +kernel), xm 931 (by decide +kernel) (by decide +kernel), by decide +kernel, by decide +kernel, by decide +kernel⟩
theorem kv_JLeakCupsLaw_29 : xLV "LeakCupsLaw" 29 RX8 yX8_fill cX8_fill 3 (some .int) 2 := ⟨xm 932 (by decide +kernel) (by decide +kernel), xm 933 (by decide +kernel) (by decide +kernel), xm 934 (by decide +kernel) (by decide +kernel), xm 46 (by decide +kernel) (by decide +kernel), xm 935 (by decide +kernel) (by decide +kernel), rfl, by decide +kernel, by decide +kernel, by decide +kernel⟩
theorem kc_X8_83 : Jvm.Cond.constantLong RX8 83 (999) ∈ xT := xm 936 (by decide +kernel) (by decide +kernel)
theorem kc_X8_85 : Jvm.Cond.constant RX8 85 (-1000002) ∈ xT := xm 937 (by decide +kernel) (by decide +kernel)
theorem kv_JLeakCupsLaw_34 : xLV "LeakCupsLaw" 34 RX8 yX8_empty cX8_empty 3 (some .int) 1 := ⟨xm 938 (by decide +kernel) (by decide +kernel), xm 939 (by decide +kernel) (by decide +kernel), xm 940 (by decide +kernel) (by decide +kernel), xm 46 (by decide +kernel) (by decide +kernel), xm 941 (by decide +kernel) (by decide +kernel), rfl, by decide +kernel, by decide +kernel, by decide +kernel⟩
theorem kv_JLeakCupsLaw_38 : xLV "LeakCupsLaw" 38 RX8 yX8_touch cX8_touch 2 (some .int) 1 := ⟨xm 942 (by decide +kernel) (by decide +kernel), xm 943 (by decide +kernel) (by decide +kernel), xm 944 (by decide +kernel) (by decide +kernel), xm 46 (by decide +kernel) (by decide +kernel), xm 945 (by decide +kernel) (by decide +kernel), rfl, by decide +kernel, by decide +kernel, by decide +kernel⟩
theorem kc_X8_90 : Jvm.Cond.constantLong RX8 90 (-200) ∈ xT := xm 946 (by decide +kernel) (by decide +kernel)
theorem kc_X8_92 : Jvm.Cond.constantLong RX8 92 (200) ∈ xT := xm 947 (by decide +kernel) (by decide +kernel)
theorem ks_X8_94 : xLS RX8 94 yX8_touches cX8_touches 2 none 2 := ⟨xm 948 (by decide +kernel) (by decide +kernel), xm 949 (by decide +kernel) (by decide +kernel), xm 46 (by decide +kernel) (by decide +kernel), xm 950 (by decide +kernel) (by decide +kernel), by decide +kernel, by decide +kernel, by decide +kernel⟩
theorem ks_X8_86 : xLS RX8 86 yX8_held cX8_held 4 (some .int) 3 := ⟨xm 951 (by decide +kernel) (by decide +kernel), xm 952 (by decide +kernel) (by decide +kernel), xm 46 (by decide +kernel) (by decide +kernel), xm 953 (by decide +kernel) (by decide +kernel), by decide +kernel, by decide +kernel, by decide +kernel⟩
theorem kv_JLeakCupsLaw_42 : xLV "LeakCupsLaw" 42 RX8 yX8_stop cX8_stop 3 (some .int) 1 := ⟨xm 954 (by decide +kernel) (by decide +kernel), xm 955 (by decide +kernel) (by decide +kernel), xm 956 (by decide +kernel) (by decide +kernel), xm 46 (by decide +kernel) (by decide +kernel), xm 957 (by decide +kernel) (by decide +kernel), rfl, by decide +kernel, by decide +kernel, by decide +kernel⟩
theorem kc_X8_98 : Jvm.Cond.constantLong RX8 98 (1199) ∈ xT := xm 958 (by decide +kernel) (by decide +kernel)
theorem kv_JLeakCupsLaw_46 : xLV "LeakCupsLaw" 46 RX8 yX8_tick cX8_tick 2 (some .int) 1 := ⟨xm 959 (by decide +kernel) (by decide +kernel), xm 960 (by decide +kernel) (by decide +kernel), xm 961 (by decide +kernel) (by decide +kernel), xm 46 (by decide +kernel) (by decide +kernel), xm 962 (by decide +kernel) (by decide +kernel), rfl, by decide +kernel, by decide +kernel, by decide +kernel⟩
theorem kc_X8_111 : Jvm.Cond.constantLong RX8 111 (100) ∈ xT := xm 963 (by decide +kernel) (by decide +kernel)
theorem kv_X8_113 : xLV RX8 113 RX8 yX8_goesOn cX8_goesOn 4 none 2 := ⟨xm 964 (by decide +kernel) (by decide +kernel), xm 966 (by decide +kernel) (by decide +kernel), xm 20 (by decide +kernel) (by decide +kernel), xm 46 (by decide +kernel) (by decide +kernel), xm 967 (by decide +kernel) (by decide +kernel), rfl, by decide +kernel, by decide +kernel, by decide +kernel⟩
theorem kv_X8_108 : xLV RX8 108 RX8 yX8_goesBy cX8_goesBy 5 none 1 := ⟨xm 968 (by decide +kernel) (by decide +kernel), xm 970 (by decide +kernel) (by decide +kernel), xm 21 (by decide +kernel) (by decide +kernel), xm 46 (by decide +kernel) (by decide +kernel), xm 971 (by decide +kernel) (by decide +kernel), rfl, by decide +kernel, by decide +kernel, by decide +kernel⟩
theorem kv_X8_100 : xLV RX8 100 RX8 yX8_torqueOf cX8_torqueOf 4 (some .int) 1 := ⟨xm 972 (by decide +kernel) (by decide +kernel), xm 974 (by decide +kernel) (by decide +kernel), xm 22 (by decide +kernel) (by decide +kernel), xm 46 (by decide +kernel) (by decide +kernel), xm 975 (by decide +kernel) (by decide +kernel), rfl, by decide +kernel, by decide +kernel, by decide +kernel⟩
theorem ks_X8_104 : xLS RX8 104 yX8_notes cX8_notes 3 none 1 := ⟨xm 976 (by decide +kernel) (by decide +kernel), xm 977 (by decide +kernel) (by decide +kernel), xm 46 (by decide +kernel) (by decide +kernel), xm 978 (by decide +kernel) (by decide +kernel), by decide +kernel, by decide +kernel, by decide +kernel⟩
theorem kv_JLeakCupsLaw_50 : xLV "LeakCupsLaw" 50 RX8 yX8_now cX8_now 2 (some .int) 1 := ⟨xm 979 (by decide +kernel) (by decide +kernel), xm 980 (by decide +kernel) (by decide +kernel), xm 981 (by decide +kernel) (by decide +kernel), xm 46 (by decide +kernel) (by decide +kernel), xm 982 (by decide +kernel) (by decide +kernel), rfl, by decide +kernel, by decide +kernel, by decide +kernel⟩
theorem ks_X8_116 : xLS RX8 116 yX8_allWater cX8_allWater 3 (some .int) 1 := ⟨xm 983 (by decide +kernel) (by decide +kernel), xm 984 (by decide +kernel) (by decide +kernel), xm 46 (by decide +kernel) (by decide +kernel), xm 985 (by decide +kernel) (by decide +kernel), by decide +kernel, by decide +kernel, by decide +kernel⟩
theorem kv_JLeakCupsLaw_55 : xLV "LeakCupsLaw" 55 RX8 yX8_torque cX8_torque 1 (some .int) 0 := ⟨xm 986 (by decide +kernel) (by decide +kernel), xm 987 (by decide +kernel) (by decide +kernel), xm 988 (by decide +kernel) (by decide +kernel), xm 46 (by decide +kernel) (by decide +kernel), xm 989 (by decide +kernel) (by decide +kernel), rfl, by decide +kernel, by decide +kernel, by decide +kernel⟩
theorem kv_JLeakCupsLaw_59 : xLV "LeakCupsLaw" 59 RX8 yX8_turn cX8_turn 3 (some .int) 2 := ⟨xm 990 (by decide +kernel) (by decide +kernel), xm 991 (by decide +kernel) (by decide +kernel), xm 992 (by decide +kernel) (by decide +kernel), xm 46 (by decide +kernel) (by decide +kernel), xm 993 (by decide +kernel) (by decide +kernel), rfl, by decide +kernel, by decide +kernel, by decide +kernel⟩
theorem kv_X8_119 : xLV RX8 119 RX8 yX8_logged cX8_logged 1 (some .int) 0 := ⟨xm 994 (by decide +kernel) (by decide +kernel), xm 996 (by decide +kernel) (by decide +kernel), xm 23 (by decide +kernel) (by decide +kernel), xm 46 (by decide +kernel) (by decide +kernel), xm 997 (by decide +kernel) (by decide +kernel), rfl, by decide +kernel, by decide +kernel, by decide +kernel⟩
theorem kv_JLeakCupsLaw_63 : xLV "LeakCupsLaw" 63 RX8 yX8_nextPeak cX8_nextPeak 6 (some .int) 1 := ⟨xm 998 (by decide +kernel) (by decide +kernel), xm 999 (by decide +kernel) (by decide +kernel), xm 1000 (by decide +kernel) (by decide +kernel), xm 46 (by decide +kernel) (by decide +kernel), xm 1001 (by decide +kernel) (by decide +kernel), rfl, by decide +kernel, by decide +kernel, by decide +kernel⟩
theorem kc_X8_123 : Jvm.Cond.constantLong RX8 123 (600) ∈ xT := xm 1002 (by decide +kernel) (by decide +kernel)
theorem kc_X8_125 : Jvm.Cond.constant RX8 125 (-1000004) ∈ xT := xm 1003 (by decide +kernel) (by decide +kernel)
theorem kv_X8_126 : xLV RX8 126 RX8 yX8_peak cX8_peak 2 (some .int) 1 := ⟨xm 1004 (by decide +kernel) (by decide +kernel), xm 1006 (by decide +kernel) (by decide +kernel), xm 24 (by decide +kernel) (by decide +kernel), xm 46 (by decide +kernel) (by decide +kernel), xm 1007 (by decide +kernel) (by decide +kernel), rfl, by decide +kernel, by decide +kernel, by decide +kernel⟩
theorem kv_JLeakCupsLaw_67 : xLV "LeakCupsLaw" 67 RX8 yX8_rising cX8_rising 3 (some .int) 0 := ⟨xm 1008 (by decide +kernel) (by decide +kernel), xm 1009 (by decide +kernel) (by decide +kernel), xm 1010 (by decide +kernel) (by decide +kernel), xm 46 (by decide +kernel) (by decide +kernel), xm 1011 (by decide +kernel) (by decide +kernel), rfl, by decide +kernel, by decide +kernel, by decide +kernel⟩
theorem kv_JLeakCupsLaw_71 : xLV "LeakCupsLaw" 71 RX8 yX8_quickest cX8_quickest 4 (some .int) 0 := ⟨xm 1012 (by decide +kernel) (by decide +kernel), xm 1013 (by decide +kernel) (by decide +kernel), xm 1014 (by decide +kernel) (by decide +kernel), xm 46 (by decide +kernel) (by decide +kernel), xm 1015 (by decide +kernel) (by decide +kernel), rfl, by decide +kernel, by decide +kernel, by decide +kernel⟩
theorem kv_JLeakCupsLaw_75 : xLV "LeakCupsLaw" 75 RX8 yX8_feed cX8_feed 4 (some .int) 2 := ⟨xm 1016 (by decide +kernel) (by decide +kernel), xm 1017 (by decide +kernel) (by decide +kernel), xm 1018 (by decide +kernel) (by decide +kernel), xm 46 (by decide +kernel) (by decide +kernel), xm 1019 (by decide +kernel) (by decide +kernel), rfl, by decide +kernel, by decide +kernel, by decide +kernel⟩
theorem kv_JLeakCupsLaw_79 : xLV "LeakCupsLaw" 79 RX8 yX8_wipe cX8_wipe 2 (some .int) 0 := ⟨xm 1020 (by decide +kernel) (by decide +kernel), xm 1021 (by decide +kernel) (by decide +kernel), xm 1022 (by decide +kernel) (by decide +kernel), xm 46 (by decide +kernel) (by decide +kernel), xm 1023 (by decide +kernel) (by decide +kernel), rfl, by decide +kernel, by decide +kernel, by decide +kernel⟩
theorem kv_JLeakCupsLaw_83 : xLV "LeakCupsLaw" 83 RX8 yX8_program cX8_program 2 (some .int) 0 := ⟨xm 1024 (by decide +kernel) (by decide +kernel), xm 1025 (by decide +kernel) (by decide +kernel), xm 1026 (by decide +kernel) (by decide +kernel), xm 46 (by decide +kernel) (by decide +kernel), xm 1027 (by decide +kernel) (by decide +kernel), rfl, by decide +kernel, by decide +kernel, by decide +kernel⟩
theorem kv_X8_211 : xLV RX8 211 RX8 yX8_look cX8_look 2 none 0 := ⟨xm 1028 (by decide +kernel) (by decide +kernel), xm 1030 (by decide +kernel) (by decide +kernel), xm 25 (by decide +kernel) (by decide +kernel), xm 46 (by decide +kernel) (by decide +kernel), xm 1031 (by decide +kernel) (by decide +kernel), rfl, by decide +kernel, by decide +kernel, by decide +kernel⟩
theorem ks_X8_149 : xLS RX8 149 yX8_isLetter cX8_isLetter 1 (some .boolean) 1 := ⟨xm 1032 (by decide +kernel) (by decide +kernel), xm 1033 (by decide +kernel) (by decide +kernel), xm 46 (by decide +kernel) (by decide +kernel), xm 1034 (by decide +kernel) (by decide +kernel), by decide +kernel, by decide +kernel, by decide +kernel⟩
theorem ks_X8_152 : xLS RX8 152 yX8_isDigit cX8_isDigit 1 (some .boolean) 1 := ⟨xm 1035 (by decide +kernel) (by decide +kernel), xm 1036 (by decide +kernel) (by decide +kernel), xm 46 (by decide +kernel) (by decide +kernel), xm 1037 (by decide +kernel) (by decide +kernel), by decide +kernel, by decide +kernel, by decide +kernel⟩
theorem kc_X8_155 : Jvm.Cond.constantLong RX8 155 (32) ∈ xT := xm 1038 (by decide +kernel) (by decide +kernel)
theorem kc_X8_157 : Jvm.Cond.constantLong RX8 157 (97) ∈ xT := xm 1039 (by decide +kernel) (by decide +kernel)
theorem kc_X8_159 : Jvm.Cond.constantLong RX8 159 (-1) ∈ xT := xm 1040 (by decide +kernel) (by decide +kernel)
theorem kv_X8_220 : xLV RX8 220 RX8 yX8_reads cX8_reads 4 none 1 := ⟨xm 1041 (by decide +kernel) (by decide +kernel), xm 1043 (by decide +kernel) (by decide +kernel), xm 26 (by decide +kernel) (by decide +kernel), xm 46 (by decide +kernel) (by decide +kernel), xm 1044 (by decide +kernel) (by decide +kernel), rfl, by decide +kernel, by decide +kernel, by decide +kernel⟩
theorem kv_X8_204 : xLV RX8 204 RX8 yX8_deed cX8_deed 1 (some .int) 0 := ⟨xm 1045 (by decide +kernel) (by decide +kernel), xm 1047 (by decide +kernel) (by decide +kernel), xm 27 (by decide +kernel) (by decide +kernel), xm 46 (by decide +kernel) (by decide +kernel), xm 1048 (by decide +kernel) (by decide +kernel), rfl, by decide +kernel, by decide +kernel, by decide +kernel⟩
theorem kv_X8_172 : xLV RX8 172 RX8 yX8_isWord cX8_isWord 5 (some .boolean) 1 := ⟨xm 1050 (by decide +kernel) (by decide +kernel), xm 1052 (by decide +kernel) (by decide +kernel), xm 28 (by decide +kernel) (by decide +kernel), xm 46 (by decide +kernel) (by decide +kernel), xm 1053 (by decide +kernel) (by decide +kernel), rfl, by decide +kernel, by decide +kernel, by decide +kernel⟩
theorem kv_X8_161 : xLV RX8 161 "java/lang/String" yJ_Slen cJ_Slen 1 (some .int) 0 := ⟨xm 1054 (by decide +kernel) (by decide +kernel), xm 507 (by decide +kernel) (by decide +kernel), xm 508 (by decide +kernel) (by decide +kernel), xm 49 (by decide +kernel) (by decide +kernel), xm 509 (by decide +kernel) (by decide +kernel), rfl, by decide +kernel, by decide +kernel, by decide +kernel⟩
theorem kv_X8_166 : xLV RX8 166 "java/lang/String" yJ_Sch cJ_Sch 2 (some .char) 1 := ⟨xm 1055 (by decide +kernel) (by decide +kernel), xm 517 (by decide +kernel) (by decide +kernel), xm 518 (by decide +kernel) (by decide +kernel), xm 49 (by decide +kernel) (by decide +kernel), xm 519 (by decide +kernel) (by decide +kernel), rfl, by decide +kernel, by decide +kernel, by decide +kernel⟩
theorem kv_X8_207 : xLV RX8 207 RX8 yX8_must cX8_must 2 none 1 := ⟨xm 1068 (by decide +kernel) (by decide +kernel), xm 1070 (by decide +kernel) (by decide +kernel), xm 29 (by decide +kernel) (by decide +kernel), xm 46 (by decide +kernel) (by decide +kernel), xm 1071 (by decide +kernel) (by decide +kernel), rfl, by decide +kernel, by decide +kernel, by decide +kernel⟩
theorem ks_X8_214 : xLS RX8 214 yX8_leastOf cX8_leastOf 1 (some .int) 1 := ⟨xm 1072 (by decide +kernel) (by decide +kernel), xm 1073 (by decide +kernel) (by decide +kernel), xm 46 (by decide +kernel) (by decide +kernel), xm 1074 (by decide +kernel) (by decide +kernel), by decide +kernel, by decide +kernel, by decide +kernel⟩
theorem ks_X8_217 : xLS RX8 217 yX8_mostOf cX8_mostOf 1 (some .int) 1 := ⟨xm 1075 (by decide +kernel) (by decide +kernel), xm 1076 (by decide +kernel) (by decide +kernel), xm 46 (by decide +kernel) (by decide +kernel), xm 1077 (by decide +kernel) (by decide +kernel), by decide +kernel, by decide +kernel, by decide +kernel⟩
theorem kv_JLeakCupsLaw_87 : xLV "LeakCupsLaw" 87 RX8 yX8_programOf cX8_programOf 6 (some .int) 2 := ⟨xm 1078 (by decide +kernel) (by decide +kernel), xm 1079 (by decide +kernel) (by decide +kernel), xm 1080 (by decide +kernel) (by decide +kernel), xm 46 (by decide +kernel) (by decide +kernel), xm 1081 (by decide +kernel) (by decide +kernel), rfl, by decide +kernel, by decide +kernel, by decide +kernel⟩
theorem kv_X8_224 : xLV RX8 224 RX8 yX8_isProgram cX8_isProgram 2 (some .boolean) 1 := ⟨xm 1082 (by decide +kernel) (by decide +kernel), xm 1084 (by decide +kernel) (by decide +kernel), xm 30 (by decide +kernel) (by decide +kernel), xm 46 (by decide +kernel) (by decide +kernel), xm 1085 (by decide +kernel) (by decide +kernel), rfl, by decide +kernel, by decide +kernel, by decide +kernel⟩
theorem kv_JLeakCupsLaw_91 : xLV "LeakCupsLaw" 91 RX8 yX8_play cX8_play 4 (some .int) 1 := ⟨xm 1086 (by decide +kernel) (by decide +kernel), xm 1087 (by decide +kernel) (by decide +kernel), xm 1088 (by decide +kernel) (by decide +kernel), xm 46 (by decide +kernel) (by decide +kernel), xm 1089 (by decide +kernel) (by decide +kernel), rfl, by decide +kernel, by decide +kernel, by decide +kernel⟩
theorem kv_X8_227 : xLV RX8 227 RX8 yX8_plays cX8_plays 3 none 2 := ⟨xm 1090 (by decide +kernel) (by decide +kernel), xm 1092 (by decide +kernel) (by decide +kernel), xm 31 (by decide +kernel) (by decide +kernel), xm 46 (by decide +kernel) (by decide +kernel), xm 1093 (by decide +kernel) (by decide +kernel), rfl, by decide +kernel, by decide +kernel, by decide +kernel⟩
theorem kv_JLeakCupsLaw_95 : xLV "LeakCupsLaw" 95 RX8 yX8_ahead cX8_ahead 3 (some .int) 2 := ⟨xm 1094 (by decide +kernel) (by decide +kernel), xm 1095 (by decide +kernel) (by decide +kernel), xm 1096 (by decide +kernel) (by decide +kernel), xm 46 (by decide +kernel) (by decide +kernel), xm 1097 (by decide +kernel) (by decide +kernel), rfl, by decide +kernel, by decide +kernel, by decide +kernel⟩
theorem kc_X8_231 : Jvm.Cond.constantLong RX8 231 (400) ∈ xT := xm 1098 (by decide +kernel) (by decide +kernel)
theorem kc_X8_233 : Jvm.Cond.constantLong RX8 233 (3) ∈ xT := xm 1099 (by decide +kernel) (by decide +kernel)
theorem ks_X8_235 : xLS RX8 235 yX8_copies cX8_copies 3 none 2 := ⟨xm 1100 (by decide +kernel) (by decide +kernel), xm 1101 (by decide +kernel) (by decide +kernel), xm 46 (by decide +kernel) (by decide +kernel), xm 1102 (by decide +kernel) (by decide +kernel), by decide +kernel, by decide +kernel, by decide +kernel⟩
theorem kv_JLeakCupsLaw_99 : xLV "LeakCupsLaw" 99 RX8 yX8_apart cX8_apart 3 (some .int) 2 := ⟨xm 1103 (by decide +kernel) (by decide +kernel), xm 1104 (by decide +kernel) (by decide +kernel), xm 1105 (by decide +kernel) (by decide +kernel), xm 46 (by decide +kernel) (by decide +kernel), xm 1106 (by decide +kernel) (by decide +kernel), rfl, by decide +kernel, by decide +kernel, by decide +kernel⟩
theorem kv_X8_239 : xLV RX8 239 RX8 yX8_twoBegin cX8_twoBegin 2 none 1 := ⟨xm 1107 (by decide +kernel) (by decide +kernel), xm 1109 (by decide +kernel) (by decide +kernel), xm 32 (by decide +kernel) (by decide +kernel), xm 46 (by decide +kernel) (by decide +kernel), xm 1110 (by decide +kernel) (by decide +kernel), rfl, by decide +kernel, by decide +kernel, by decide +kernel⟩
theorem ks_X8_242 : xLS RX8 242 yX8_differ cX8_differ 3 (some .int) 2 := ⟨xm 1111 (by decide +kernel) (by decide +kernel), xm 1112 (by decide +kernel) (by decide +kernel), xm 46 (by decide +kernel) (by decide +kernel), xm 1113 (by decide +kernel) (by decide +kernel), by decide +kernel, by decide +kernel, by decide +kernel⟩
theorem kv_JLeakCupsLaw_103 : xLV "LeakCupsLaw" 103 RX8 yX8_parts cX8_parts 4 (some .int) 2 := ⟨xm 1114 (by decide +kernel) (by decide +kernel), xm 1115 (by decide +kernel) (by decide +kernel), xm 1116 (by decide +kernel) (by decide +kernel), xm 46 (by decide +kernel) (by decide +kernel), xm 1117 (by decide +kernel) (by decide +kernel), rfl, by decide +kernel, by decide +kernel, by decide +kernel⟩
theorem kc_X8_246 : Jvm.Cond.constantLong RX8 246 (1200) ∈ xT := xm 1118 (by decide +kernel) (by decide +kernel)
theorem kv_JLeakCupsLaw_107 : xLV "LeakCupsLaw" 107 RX8 yX8_going cX8_going 2 (some .int) 1 := ⟨xm 1119 (by decide +kernel) (by decide +kernel), xm 1120 (by decide +kernel) (by decide +kernel), xm 1121 (by decide +kernel) (by decide +kernel), xm 46 (by decide +kernel) (by decide +kernel), xm 1122 (by decide +kernel) (by decide +kernel), rfl, by decide +kernel, by decide +kernel, by decide +kernel⟩
theorem kc_X8_248 : Jvm.Cond.constantLong RX8 248 (10) ∈ xT := xm 1123 (by decide +kernel) (by decide +kernel)
theorem kv_X8_250 : xLV RX8 250 RX8 yX8_goingOf cX8_goingOf 6 (some .int) 1 := ⟨xm 1124 (by decide +kernel) (by decide +kernel), xm 1126 (by decide +kernel) (by decide +kernel), xm 33 (by decide +kernel) (by decide +kernel), xm 46 (by decide +kernel) (by decide +kernel), xm 1127 (by decide +kernel) (by decide +kernel), rfl, by decide +kernel, by decide +kernel, by decide +kernel⟩
theorem kv_JLeakCupsLaw_111 : xLV "LeakCupsLaw" 111 RX8 yX8_tapFor cX8_tapFor 4 (some .int) 2 := ⟨xm 1128 (by decide +kernel) (by decide +kernel), xm 1129 (by decide +kernel) (by decide +kernel), xm 1130 (by decide +kernel) (by decide +kernel), xm 46 (by decide +kernel) (by decide +kernel), xm 1131 (by decide +kernel) (by decide +kernel), rfl, by decide +kernel, by decide +kernel, by decide +kernel⟩
theorem kv_JLeakCupsLaw_115 : xLV "LeakCupsLaw" 115 RX8 yX8_bounds cX8_bounds 5 (some .int) 2 := ⟨xm 1132 (by decide +kernel) (by decide +kernel), xm 1133 (by decide +kernel) (by decide +kernel), xm 1134 (by decide +kernel) (by decide +kernel), xm 46 (by decide +kernel) (by decide +kernel), xm 1135 (by decide +kernel) (by decide +kernel), rfl, by decide +kernel, by decide +kernel, by decide +kernel⟩
theorem kv_JLeakCupsLaw_119 : xLV "LeakCupsLaw" 119 RX8 yX8_often cX8_often 4 (some .int) 1 := ⟨xm 1136 (by decide +kernel) (by decide +kernel), xm 1137 (by decide +kernel) (by decide +kernel), xm 1138 (by decide +kernel) (by decide +kernel), xm 46 (by decide +kernel) (by decide +kernel), xm 1139 (by decide +kernel) (by decide +kernel), rfl, by decide +kernel, by decide +kernel, by decide +kernel⟩
theorem kv_JLeakCupsLaw_123 : xLV "LeakCupsLaw" 123 RX8 yX8_holds cX8_holds 4 (some .int) 1 := ⟨xm 1140 (by decide +kernel) (by decide +kernel), xm 1141 (by decide +kernel) (by decide +kernel), xm 1142 (by decide +kernel) (by decide +kernel), xm 46 (by decide +kernel) (by decide +kernel), xm 1143 (by decide +kernel) (by decide +kernel), rfl, by decide +kernel, by decide +kernel, by decide +kernel⟩
theorem kv_JLeakCupsLaw_127 : xLV "LeakCupsLaw" 127 RX8 yX8_chance cX8_chance 6 (some .int) 2 := ⟨xm 1144 (by decide +kernel) (by decide +kernel), xm 1145 (by decide +kernel) (by decide +kernel), xm 1146 (by decide +kernel) (by decide +kernel), xm 46 (by decide +kernel) (by decide +kernel), xm 1147 (by decide +kernel) (by decide +kernel), rfl, by decide +kernel, by decide +kernel, by decide +kernel⟩
theorem kc_X8_254 : Jvm.Cond.constantLong RX8 254 (20) ∈ xT := xm 1148 (by decide +kernel) (by decide +kernel)
theorem kv_X8_256 : xLV RX8 256 RX8 yX8_drawn cX8_drawn 1 (some .int) 0 := ⟨xm 1149 (by decide +kernel) (by decide +kernel), xm 1151 (by decide +kernel) (by decide +kernel), xm 34 (by decide +kernel) (by decide +kernel), xm 46 (by decide +kernel) (by decide +kernel), xm 1152 (by decide +kernel) (by decide +kernel), rfl, by decide +kernel, by decide +kernel, by decide +kernel⟩
theorem kc_X8_253 : Jvm.Cond.constant RX8 253 (1103515245) ∈ xT := xm 1153 (by decide +kernel) (by decide +kernel)
theorem kv_JLeakCupsLaw_132 : xLV "LeakCupsLaw" 132 RX8 yX8_brief cX8_brief 6 (some .int) 4 := ⟨xm 1154 (by decide +kernel) (by decide +kernel), xm 1155 (by decide +kernel) (by decide +kernel), xm 1156 (by decide +kernel) (by decide +kernel), xm 46 (by decide +kernel) (by decide +kernel), xm 1157 (by decide +kernel) (by decide +kernel), rfl, by decide +kernel, by decide +kernel, by decide +kernel⟩
theorem ks_X8_267 : xLS RX8 267 yX8_isBrief cX8_isBrief 3 (some .boolean) 3 := ⟨xm 1158 (by decide +kernel) (by decide +kernel), xm 1159 (by decide +kernel) (by decide +kernel), xm 46 (by decide +kernel) (by decide +kernel), xm 1160 (by decide +kernel) (by decide +kernel), by decide +kernel, by decide +kernel, by decide +kernel⟩
theorem kc_X8_265 : Jvm.Cond.constantLong RX8 265 (-999) ∈ xT := xm 1161 (by decide +kernel) (by decide +kernel)
theorem kv_X8_271 : xLV RX8 271 RX8 yX8_begins cX8_begins 3 none 2 := ⟨xm 1162 (by decide +kernel) (by decide +kernel), xm 1164 (by decide +kernel) (by decide +kernel), xm 35 (by decide +kernel) (by decide +kernel), xm 46 (by decide +kernel) (by decide +kernel), xm 1165 (by decide +kernel) (by decide +kernel), rfl, by decide +kernel, by decide +kernel, by decide +kernel⟩
theorem kv_X8_274 : xLV RX8 274 RX8 yX8_briefly cX8_briefly 7 none 0 := ⟨xm 1166 (by decide +kernel) (by decide +kernel), xm 1168 (by decide +kernel) (by decide +kernel), xm 36 (by decide +kernel) (by decide +kernel), xm 46 (by decide +kernel) (by decide +kernel), xm 1169 (by decide +kernel) (by decide +kernel), rfl, by decide +kernel, by decide +kernel, by decide +kernel⟩
theorem kc_X8_259 : Jvm.Cond.constant RX8 259 (-99999) ∈ xT := xm 1170 (by decide +kernel) (by decide +kernel)
theorem kc_X8_260 : Jvm.Cond.constant RX8 260 (99999) ∈ xT := xm 1171 (by decide +kernel) (by decide +kernel)
theorem kc_X8_261 : Jvm.Cond.constantLong RX8 261 (2800) ∈ xT := xm 1172 (by decide +kernel) (by decide +kernel)
theorem kc_X8_263 : Jvm.Cond.constantLong RX8 263 (8) ∈ xT := xm 1173 (by decide +kernel) (by decide +kernel)
theorem kv_JLeakCupsLaw_137 : xLV "LeakCupsLaw" 137 RX8 yX8_flips cX8_flips 8 (some .int) 3 := ⟨xm 1174 (by decide +kernel) (by decide +kernel), xm 1175 (by decide +kernel) (by decide +kernel), xm 1176 (by decide +kernel) (by decide +kernel), xm 46 (by decide +kernel) (by decide +kernel), xm 1177 (by decide +kernel) (by decide +kernel), rfl, by decide +kernel, by decide +kernel, by decide +kernel⟩
theorem kv_JLeakCupsLaw_141 : xLV "LeakCupsLaw" 141 RX8 yX8_seed cX8_seed 3 (some .int) 1 := ⟨xm 1178 (by decide +kernel) (by decide +kernel), xm 1179 (by decide +kernel) (by decide +kernel), xm 1180 (by decide +kernel) (by decide +kernel), xm 46 (by decide +kernel) (by decide +kernel), xm 1181 (by decide +kernel) (by decide +kernel), rfl, by decide +kernel, by decide +kernel, by decide +kernel⟩
theorem kv_JLeakCupsLaw_145 : xLV "LeakCupsLaw" 145 RX8 yX8_hold cX8_hold 3 (some .int) 2 := ⟨xm 1182 (by decide +kernel) (by decide +kernel), xm 1183 (by decide +kernel) (by decide +kernel), xm 1184 (by decide +kernel) (by decide +kernel), xm 46 (by decide +kernel) (by decide +kernel), xm 1185 (by decide +kernel) (by decide +kernel), rfl, by decide +kernel, by decide +kernel, by decide +kernel⟩
theorem kc_X8_277 : Jvm.Cond.constantLong RX8 277 (9) ∈ xT := xm 1186 (by decide +kernel) (by decide +kernel)
theorem kv_JLeakCupsLaw_149 : xLV "LeakCupsLaw" 149 RX8 yX8_as cX8_as 4 (some .int) 2 := ⟨xm 1187 (by decide +kernel) (by decide +kernel), xm 1188 (by decide +kernel) (by decide +kernel), xm 1189 (by decide +kernel) (by decide +kernel), xm 46 (by decide +kernel) (by decide +kernel), xm 1190 (by decide +kernel) (by decide +kernel), rfl, by decide +kernel, by decide +kernel, by decide +kernel⟩
theorem kc_X8_279 : Jvm.Cond.constant RX8 279 (-1000006) ∈ xT := xm 1191 (by decide +kernel) (by decide +kernel)
theorem ks_X8_280 : xLS RX8 280 yX8_isOf cX8_isOf 2 (some .boolean) 2 := ⟨xm 1192 (by decide +kernel) (by decide +kernel), xm 1193 (by decide +kernel) (by decide +kernel), xm 46 (by decide +kernel) (by decide +kernel), xm 1194 (by decide +kernel) (by decide +kernel), by decide +kernel, by decide +kernel, by decide +kernel⟩
theorem kc_X8_283 : Jvm.Cond.constant RX8 283 (-1000003) ∈ xT := xm 1195 (by decide +kernel) (by decide +kernel)
theorem kv_JLeakCupsLaw_153 : xLV "LeakCupsLaw" 153 RX8 yX8_sheet cX8_sheet 5 (some .int) 3 := ⟨xm 1196 (by decide +kernel) (by decide +kernel), xm 1197 (by decide +kernel) (by decide +kernel), xm 1198 (by decide +kernel) (by decide +kernel), xm 46 (by decide +kernel) (by decide +kernel), xm 1199 (by decide +kernel) (by decide +kernel), rfl, by decide +kernel, by decide +kernel, by decide +kernel⟩
theorem ks_X8_284 : xLS RX8 284 yX8_isSheet cX8_isSheet 1 (some .boolean) 1 := ⟨xm 1200 (by decide +kernel) (by decide +kernel), xm 1201 (by decide +kernel) (by decide +kernel), xm 46 (by decide +kernel) (by decide +kernel), xm 1202 (by decide +kernel) (by decide +kernel), by decide +kernel, by decide +kernel, by decide +kernel⟩
theorem kc_X8_287 : Jvm.Cond.constant RX8 287 (-1000007) ∈ xT := xm 1203 (by decide +kernel) (by decide +kernel)
theorem kv_JLeakCupsLaw_157 : xLV "LeakCupsLaw" 157 RX8 yX8_write cX8_write 4 (some .int) 3 := ⟨xm 1204 (by decide +kernel) (by decide +kernel), xm 1205 (by decide +kernel) (by decide +kernel), xm 1206 (by decide +kernel) (by decide +kernel), xm 46 (by decide +kernel) (by decide +kernel), xm 1207 (by decide +kernel) (by decide +kernel), rfl, by decide +kernel, by decide +kernel, by decide +kernel⟩
theorem kv_JLeakCupsLaw_162 : xLV "LeakCupsLaw" 162 RX8 yX8_copy cX8_copy 7 (some .int) 5 := ⟨xm 1208 (by decide +kernel) (by decide +kernel), xm 1209 (by decide +kernel) (by decide +kernel), xm 1210 (by decide +kernel) (by decide +kernel), xm 46 (by decide +kernel) (by decide +kernel), xm 1211 (by decide +kernel) (by decide +kernel), rfl, by decide +kernel, by decide +kernel, by decide +kernel⟩
theorem kv_JLeakCupsLaw_166 : xLV "LeakCupsLaw" 166 RX8 yX8_load cX8_load 3 (some .int) 1 := ⟨xm 1212 (by decide +kernel) (by decide +kernel), xm 1213 (by decide +kernel) (by decide +kernel), xm 1214 (by decide +kernel) (by decide +kernel), xm 46 (by decide +kernel) (by decide +kernel), xm 1215 (by decide +kernel) (by decide +kernel), rfl, by decide +kernel, by decide +kernel, by decide +kernel⟩
theorem kv_JLeakCupsLaw_170 : xLV "LeakCupsLaw" 170 RX8 yX8_judge cX8_judge 3 (some .int) 1 := ⟨xm 1216 (by decide +kernel) (by decide +kernel), xm 1217 (by decide +kernel) (by decide +kernel), xm 1218 (by decide +kernel) (by decide +kernel), xm 46 (by decide +kernel) (by decide +kernel), xm 1219 (by decide +kernel) (by decide +kernel), rfl, by decide +kernel, by decide +kernel, by decide +kernel⟩
theorem kv_JLeakCupsLaw_174 : xLV "LeakCupsLaw" 174 RX8 yX8_image cX8_image 1 (some .int) 0 := ⟨xm 1220 (by decide +kernel) (by decide +kernel), xm 1221 (by decide +kernel) (by decide +kernel), xm 1222 (by decide +kernel) (by decide +kernel), xm 46 (by decide +kernel) (by decide +kernel), xm 1223 (by decide +kernel) (by decide +kernel), rfl, by decide +kernel, by decide +kernel, by decide +kernel⟩
theorem kv_JLeakCupsLaw_178 : xLV "LeakCupsLaw" 178 RX8 yX8_undo cX8_undo 1 (some .int) 0 := ⟨xm 1224 (by decide +kernel) (by decide +kernel), xm 1225 (by decide +kernel) (by decide +kernel), xm 1226 (by decide +kernel) (by decide +kernel), xm 46 (by decide +kernel) (by decide +kernel), xm 1227 (by decide +kernel) (by decide +kernel), rfl, by decide +kernel, by decide +kernel, by decide +kernel⟩
theorem kv_JLeakCupsLaw_182 : xLV "LeakCupsLaw" 182 RX8 yX8_tear cX8_tear 2 (some .int) 0 := ⟨xm 1228 (by decide +kernel) (by decide +kernel), xm 1229 (by decide +kernel) (by decide +kernel), xm 1230 (by decide +kernel) (by decide +kernel), xm 46 (by decide +kernel) (by decide +kernel), xm 1231 (by decide +kernel) (by decide +kernel), rfl, by decide +kernel, by decide +kernel, by decide +kernel⟩
theorem kv_JLeakCupsLaw_186 : xLV "LeakCupsLaw" 186 RX8 yX8_count cX8_count 2 (some .int) 1 := ⟨xm 1232 (by decide +kernel) (by decide +kernel), xm 1233 (by decide +kernel) (by decide +kernel), xm 1234 (by decide +kernel) (by decide +kernel), xm 46 (by decide +kernel) (by decide +kernel), xm 1235 (by decide +kernel) (by decide +kernel), rfl, by decide +kernel, by decide +kernel, by decide +kernel⟩
theorem kv_JLeakCupsLaw_190 : xLV "LeakCupsLaw" 190 RX8 yX8_status cX8_status 4 (some .int) 1 := ⟨xm 1236 (by decide +kernel) (by decide +kernel), xm 1237 (by decide +kernel) (by decide +kernel), xm 1238 (by decide +kernel) (by decide +kernel), xm 46 (by decide +kernel) (by decide +kernel), xm 1239 (by decide +kernel) (by decide +kernel), rfl, by decide +kernel, by decide +kernel, by decide +kernel⟩
theorem fj_JString_9 : Cond.fieldLink "java/lang/String" 9 "java/lang/String" "value" "[B" ∈ xT := xm 1240 (by decide +kernel) (by decide +kernel)
theorem fj_JString_15 : Cond.fieldLink "java/lang/String" 15 "java/lang/String" "coder" "B" ∈ xT := xm 1241 (by decide +kernel) (by decide +kernel)
theorem kM_max : Cond.static Lib.Math.max.name ∈ xT ∧ Cond.initialized "java/lang/Math" ∈ xT ∧ Cond.code Lib.Math.max.name Lib.Math.max.code 2 (some .int) ∈ xT := ⟨xm 320 (by decide +kernel) (by decide +kernel), xm 47 (by decide +kernel) (by decide +kernel), xm 321 (by decide +kernel) (by decide +kernel)⟩
theorem kM_min : Cond.static Lib.Math.min.name ∈ xT ∧ Cond.initialized "java/lang/Math" ∈ xT ∧ Cond.code Lib.Math.min.name Lib.Math.min.code 2 (some .int) ∈ xT := ⟨xm 323 (by decide +kernel) (by decide +kernel), xm 47 (by decide +kernel) (by decide +kernel), xm 324 (by decide +kernel) (by decide +kernel)⟩
theorem kM_abs : Cond.static Lib.Math.abs.name ∈ xT ∧ Cond.initialized "java/lang/Math" ∈ xT ∧ Cond.code Lib.Math.abs.name Lib.Math.abs.code 1 (some .int) ∈ xT := ⟨xm 409 (by decide +kernel) (by decide +kernel), xm 47 (by decide +kernel) (by decide +kernel), xm 410 (by decide +kernel) (by decide +kernel)⟩
theorem kM_maxL : Cond.static Lib.MathLoose.max_long.x ∈ xT ∧ Cond.initialized "java/lang/Math" ∈ xT ∧ Cond.code Lib.MathLoose.max_long.x Lib.MathLoose.max_long.code 4 (some .long) ∈ xT := ⟨xm 712 (by decide +kernel) (by decide +kernel), xm 47 (by decide +kernel) (by decide +kernel), xm 713 (by decide +kernel) (by decide +kernel)⟩
theorem kM_minL : Cond.static Lib.MathLoose.min_long.x ∈ xT ∧ Cond.initialized "java/lang/Math" ∈ xT ∧ Cond.code Lib.MathLoose.min_long.x Lib.MathLoose.min_long.code 4 (some .long) ∈ xT := ⟨xm 709 (by decide +kernel) (by decide +kernel), xm 47 (by decide +kernel) (by decide +kernel), xm 710 (by decide +kernel) (by decide +kernel)⟩
theorem kM_copy : Cond.native arraycopyName ∈ xT ∧ Cond.static arraycopyName ∈ xT ∧ Cond.initialized "java/lang/System" ∈ xT := ⟨xm 623 (by decide +kernel) (by decide +kernel), xm 622 (by decide +kernel) (by decide +kernel), xm 53 (by decide +kernel) (by decide +kernel)⟩
end
section
/-! WHAT A WHEEL DOES: g is a row of numbers: 0-3 TAP LEAK RUB HEAVY, 4 PACE, 5 ANGLE, 6 WAY, 7 SPILT, 8 LOST, 9 TICKS, 10 TURNS, 11 the greatest PACE since; 20.. WATER, 32.. KINDS, 44.. THE LOG -/
theorem xcmp_ge {x y : Int64} : 0 ≤ lg_cmp x y ↔ ¬ x < y := by
  rw [← Int32.not_lt, xcmp_lt]
theorem xcmp_le {x y : Int64} : lg_cmp x y ≤ 0 ↔ ¬ y < x := by
  rw [← Int32.not_lt, xcmp_gt]
abbrev rng (v lo hi : Int32) : Prop := ¬ v < lo ∧ ¬ hi < v
abbrev rngL (v lo hi : Int64) : Prop := ¬ v < lo ∧ ¬ hi < v
theorem rng_iff {v lo hi : Int32} : rng v lo hi ↔ lo.toInt ≤ v.toInt ∧ v.toInt ≤ hi.toInt := by
  unfold rng
  rw [Int32.not_lt, Int32.not_lt, Int32.le_iff_toInt_le, Int32.le_iff_toInt_le]
theorem i32_cases (x : Int32) : -2147483648 ≤ x.toInt ∧ x.toInt ≤ 2147483647 := ⟨Int32.le_toInt x, by have := Int32.toInt_lt x; omega⟩
theorem toL (x : Int32) : x.toInt64.toInt = x.toInt := Int32.toInt_toInt64 x
theorem rngL_iff {v lo hi : Int32} : rngL v.toInt64 lo.toInt64 hi.toInt64 ↔ rng v lo hi := by
  unfold rngL rng
  rw [Int64.lt_iff_toInt_lt, Int64.lt_iff_toInt_lt, Int32.lt_iff_toInt_lt, Int32.lt_iff_toInt_lt, toL, toL, toL]
/-- a number within, as a count -/
theorem nI_is {x : Int32} {n : Nat} (h0 : 0 ≤ x.toInt) (h : x.toInt ≤ (n : Int)) (hn : n < 2 ^ 31) : ∃ j : Nat, j ≤ n ∧ x = nI j := by
  refine ⟨x.toInt.toNat, by omega, ?_⟩
  apply Int32.toInt_inj.mp
  rw [nI_toInt (by omega)]
  omega
theorem xvB (E : xE) (σ : Nat → Nat → Int32) (τ : Nat → Int64) (g : Nat → Int32) {w i : Nat} : xv E (va_up σ w g) τ (1, w, i) = .int (g i) := by
  show Value.int (va_up σ w g w i) = _
  rw [va_up_self]
theorem xself (σ : Nat → Nat → Int32) (w : Nat) : va_up σ w (σ w) = σ := by
  funext c
  by_cases hc : c = w
  · rw [hc, va_up_self]
  · rw [va_up_ne _ _ hc]
theorem xupup (σ : Nat → Nat → Int32) (w : Nat) (g h : Nat → Int32) : va_up (va_up σ w g) w h = va_up σ w h := by
  funext c
  by_cases hc : c = w
  · rw [hc, va_up_self, va_up_self]
  · rw [va_up_ne _ _ hc, va_up_ne _ _ hc, va_up_ne _ _ hc]
theorem upd_at (g : Nat → Int32) (k : Nat) (x : Int32) : upd g k x k = x := pk_us
theorem upd_ne {g : Nat → Int32} {k j : Nat} {x : Int32} (h : j ≠ k) : upd g k x j = g j := pk_un h
theorem upd_upd (g : Nat → Int32) (k : Nat) (x y : Int32) : upd (upd g k x) k y = upd g k y := by
  funext j
  by_cases h : j = k
  · subst h
    rw [upd_at, upd_at]
  · rw [upd_ne h, upd_ne h, upd_ne h]
theorem upd_self (g : Nat → Int32) (k : Nat) : upd g k (g k) = g := by
  funext j
  by_cases h : j = k
  · subst h
    rw [upd_at]
  · rw [upd_ne h]
theorem upd_comm (g : Nat → Int32) {k i : Nat} (x y : Int32) (h : k ≠ i) : upd (upd g k x) i y = upd (upd g i y) k x := by
  funext j
  by_cases h1 : j = i
  · subst h1
    rw [upd_at, upd_ne (Ne.symm h), upd_at]
  · rw [upd_ne h1]
    by_cases h2 : j = k
    · subst h2
      rw [upd_at, upd_at]
    · rw [upd_ne h2, upd_ne h2, upd_ne h1]
def xrem (x y : Int32) : Int32 := x - x / y * y
def placeG (g : Nat → Int32) (c : Nat) : Int32 := xrem (nI c + g 5 / 100) 12
def topG (g : Nat → Int32) : Int32 := xrem (12 - g 5 / 100) 12
def roomK (k : Int32) : Int32 := if k = 4 then 200 else if k = 6 then 200 else if k = 5 then 500 else 999
def roomG (g : Nat → Int32) (c : Nat) : Int32 := roomK (g (32 + c))
def plainG (g : Nat → Int32) (c : Nat) : Int32 := g (20 + c) * g 1 / 100
def deepG (g : Nat → Int32) (c : Nat) : Int32 := if 100 < g (20 + c) then (g (20 + c) - 100) * g 1 / 100 else 0
def twiceG (g : Nat → Int32) (c : Nat) : Int32 := if 2 * plainG g c < g (20 + c) then 2 * plainG g c else g (20 + c)
def leakG (g : Nat → Int32) (c : Nat) : Int32 :=
  if g (32 + c) = 1 then 0 else if g (32 + c) = 2 then twiceG g c else if g (32 + c) = 3 then deepG g c else if g (32 + c) = 4 then twiceG g c
  else if g (32 + c) = 5 then (if placeG g c = 6 then g (20 + c) else deepG g c) else if g (32 + c) = 6 then twiceG g c else plainG g c
def heldG (x : Int32) : Int32 := if x < -600 then -600 else if 600 < x then 600 else x
def sgn (x : Int32) : Int32 := if x < 0 then -1 else if x = 0 then 0 else 1
def touchG (g : Nat → Int32) (by_ : Int32) : Nat → Int32 := upd (upd g 4 (heldG (g 4 + by_))) 6 (if heldG (g 4 + by_) = 0 then g 6 else sgn (heldG (g 4 + by_)))
def spareG (g : Nat → Int32) (c : Nat) : Int32 := if roomG g c - g (20 + c) < 0 then 0 else roomG g c - g (20 + c)
def comesG (g : Nat → Int32) (c : Nat) : Int32 := if spareG g c < g 0 then spareG g c else g 0
def pourAt (g : Nat → Int32) (c : Nat) : Nat → Int32 := upd (upd g (20 + c) (g (20 + c) + comesG g c)) 7 (g 7 + (g 0 - comesG g c))
def placeN (g : Nat → Int32) (c : Nat) : Nat := (c + (g 5).toNatClampNeg / 100) % 12
def topN (g : Nat → Int32) : Nat := (12 - (g 5).toNatClampNeg / 100) % 12
def pourG (g : Nat → Int32) : Nat → Int32 := pourAt g (topN g)
def passG (g : Nat → Int32) (c : Nat) : Nat → Int32 := if g (20 + (c + 1) % 12) < g (20 + c) ∧ g (20 + (c + 1) % 12) < roomG g ((c + 1) % 12) then upd (upd g (20 + c) (g (20 + c) - 1)) (20 + (c + 1) % 12) (g (20 + (c + 1) % 12) + 1) else g
def lossG (g : Nat → Int32) (c : Nat) : Nat → Int32 := upd (upd g (20 + c) (g (20 + c) - leakG g c)) 8 (g 8 + leakG g c)
def drainG (g : Nat → Int32) (c : Nat) : Nat → Int32 := if g (32 + c) = 6 then passG (lossG g c) c else lossG g c
def drainsG (g : Nat → Int32) : Nat → (Nat → Int32)
  | 0 => g
  | n + 1 => drainG (drainsG g n) n
def levG (x : Int32) : Int32 := (xzl 1).getD x.toNatClampNeg 0
def pullN (g : Nat → Int32) : Nat → Int32
  | 0 => 0
  | n + 1 => pullN g n + g (20 + n) * levG (placeG g n)
def waterN (g : Nat → Int32) : Nat → Int32
  | 0 => 0
  | n + 1 => waterN g n + g (20 + n)
def fastG (g : Nat → Int32) : Int32 := g 4 + pullN g 12 / (100 * g 3)
def slowG (g : Nat → Int32) : Int32 := heldG (fastG g - fastG g * g 2 / 100)
def swingG (g : Nat → Int32) : Nat → Int32 := upd (upd g 4 (slowG g)) 5 (xrem (g 5 + slowG g + 1200) 1200)
abbrev turnsQ (g : Nat → Int32) : Prop := (0 < g 4 ∧ g 6 < 0) ∨ (g 4 < 0 ∧ 0 < g 6)
def logT (g : Nat → Int32) : Nat → Int32 := upd (if g 10 < 40 then upd (upd g (44 + 2 * (g 10).toNatClampNeg) (g 9)) (45 + 2 * (g 10).toNatClampNeg) (g 11) else g) 10 (g 10 + 1)
def logG (g : Nat → Int32) : Nat → Int32 := upd (logT g) 11 0
def absG (x : Int32) : Int32 := if x < 0 then -x else x
def noteG (g : Nat → Int32) : Nat → Int32 := upd (upd g 11 (if g 11 < absG (g 4) then absG (g 4) else g 11)) 6 (if g 4 = 0 then g 6 else sgn (g 4))
def watchG (g : Nat → Int32) : Nat → Int32 := noteG (if turnsQ g then logG g else g)
def tickG (g : Nat → Int32) : Nat → Int32 := upd g 9 (g 9 + 1)
def stepG (g : Nat → Int32) : Nat → Int32 := watchG (tickG (swingG (drainsG (pourG g) 12)))
def stepsG (g : Nat → Int32) : Nat → (Nat → Int32)
  | 0 => g
  | n + 1 => stepG (stepsG g n)
/-- what always holds of a wheel -/
def glo (i : Nat) : Int := if i < 3 then 0 else if i = 3 then 1 else if i = 4 then -600 else if i = 5 then 0 else if i = 6 then -1 else if i = 11 then 0 else if i < 20 then -2147483648 else 0
def ghi (i : Nat) : Int := if i < 4 then 99 else if i = 4 then 600 else if i = 5 then 1199 else if i = 6 then 1 else if i = 11 then 600 else if i < 20 then 2147483647 else if i < 32 then 999 else 6
def gI (g : Nat → Int32) : Prop := ∀ i, i < 44 → glo i ≤ (g i).toInt ∧ (g i).toInt ≤ ghi i
/-- TURNS so far, at most T -/
def gT (g : Nat → Int32) (T : Nat) : Prop := 0 ≤ (g 10).toInt ∧ (g 10).toInt ≤ (T : Int)
/-! which wheel: 0 what stands, 1 what is kept, 2, 3 the runs -/
def wc (w : Nat) : Nat := [2, 29, 59, 65].getD w 0
theorem wc_lt {w : Nat} (h : w < 4) : wc w < 88 := by
  match w, h with
  | 0, _ => decide
  | 1, _ => decide
  | 2, _ => decide
  | 3, _ => decide
theorem wd_0 {w : Nat} (h : w < 4) : xd (wc w) = (6, [(0, wc w + 1, 0), (0, wc w + 2, 0), (0, wc w + 3, 0), (0, wc w + 4, 0), (0, wc w + 5, 0), (1, w, 4), (1, w, 5), (1, w, 6), (1, w, 7), (1, w, 8), (1, w, 9), (1, w, 10), (1, w, 11)]) := by
  match w, h with
  | 0, _ => rfl
  | 1, _ => rfl
  | 2, _ => rfl
  | 3, _ => rfl
theorem wd_1 {w : Nat} (h : w < 4) : xd (wc w + 1) = (9, [(4, w, 0), (1, 0, 0)]) := by
  match w, h with
  | 0, _ => rfl
  | 1, _ => rfl
  | 2, _ => rfl
  | 3, _ => rfl
theorem wd_2 {w : Nat} (h : w < 4) : xd (wc w + 2) = (9, [(12, w, 32), (1, 0, 0)]) := by
  match w, h with
  | 0, _ => rfl
  | 1, _ => rfl
  | 2, _ => rfl
  | 3, _ => rfl
theorem wd_3 {w : Nat} (h : w < 4) : xd (wc w + 3) = (9, [(12, w, 20), (1, 0, 0)]) := by
  match w, h with
  | 0, _ => rfl
  | 1, _ => rfl
  | 2, _ => rfl
  | 3, _ => rfl
theorem wd_4 {w : Nat} (h : w < 4) : xd (wc w + 4) = (9, [(40, w, 44), (2, 0, 0)]) := by
  match w, h with
  | 0, _ => rfl
  | 1, _ => rfl
  | 2, _ => rfl
  | 3, _ => rfl
theorem wd_5 {w : Nat} (h : w < 4) : xd (wc w + 5) = (9, [(40, w, 45), (2, 0, 0)]) := by
  match w, h with
  | 0, _ => rfl
  | 1, _ => rfl
  | 2, _ => rfl
  | 3, _ => rfl
/-! Int32 by Int: what the machine's words are, as whole numbers -/
theorem tI_add {x y : Int32} (h1 : -2147483648 ≤ x.toInt + y.toInt) (h2 : x.toInt + y.toInt ≤ 2147483647) : (x + y).toInt = x.toInt + y.toInt := by
  rw [Int32.toInt_add]
  exact Int.bmod_eq_of_le (by omega) (by omega)
theorem tI_sub {x y : Int32} (h1 : -2147483648 ≤ x.toInt - y.toInt) (h2 : x.toInt - y.toInt ≤ 2147483647) : (x - y).toInt = x.toInt - y.toInt := by
  rw [Int32.toInt_sub]
  exact Int.bmod_eq_of_le (by omega) (by omega)
theorem tI_mul {x y : Int32} (h1 : -2147483648 ≤ x.toInt * y.toInt) (h2 : x.toInt * y.toInt ≤ 2147483647) : (x * y).toInt = x.toInt * y.toInt := by
  rw [Int32.toInt_mul]
  exact Int.bmod_eq_of_le (by omega) (by omega)
theorem tI_neg {x : Int32} (h : -2147483647 ≤ x.toInt) : (-x).toInt = -x.toInt := by
  rw [Int32.toInt_neg]
  have h2 := (i32_cases x).2
  exact Int.bmod_eq_of_le (by omega) (by omega)
theorem tI_div {x y : Int32} (hy : 1 ≤ y.toInt) : (x / y).toInt = x.toInt.tdiv y.toInt := by
  have h := i32_cases x
  rw [Int32.toInt_div]
  have h1 : -2147483648 ≤ x.toInt.tdiv y.toInt ∧ x.toInt.tdiv y.toInt ≤ 2147483647 := by
    by_cases h0 : x.toInt < 0
    · have e : x.toInt.tdiv y.toInt = -((-x.toInt) / y.toInt) := by
        rw [← Int.neg_neg x.toInt, Int.neg_tdiv, Int.neg_neg, Int.tdiv_eq_ediv_of_nonneg (by omega)]
      have h2 : (-x.toInt) / y.toInt ≤ -x.toInt := Int.ediv_le_self _ (by omega)
      have h3 : 0 ≤ (-x.toInt) / y.toInt := Int.ediv_nonneg (by omega) (by omega)
      omega
    · have h0 : 0 ≤ x.toInt := by omega
      rw [Int.tdiv_eq_ediv_of_nonneg h0]
      have h2 : x.toInt / y.toInt ≤ x.toInt := Int.ediv_le_self _ h0
      have h3 : 0 ≤ x.toInt / y.toInt := Int.ediv_nonneg h0 (by omega)
      omega
  exact Int.bmod_eq_of_le (by omega) (by omega)
theorem tI_lt {x y : Int32} : x < y ↔ x.toInt < y.toInt := Int32.lt_iff_toInt_lt
theorem tI_le {x y : Int32} : x ≤ y ↔ x.toInt ≤ y.toInt := Int32.le_iff_toInt_le
theorem tI_eq {x y : Int32} : x = y ↔ x.toInt = y.toInt := Int32.toInt_inj.symm
/-! what the numbers of a wheel can be -/
abbrev upX (g : Nat → Int32) (k : Nat) (x : Int32) : Nat → Int32 := upd g k x
theorem glo_w {j : Nat} (h : j < 12) : glo (20 + j) = 0 := by
  unfold glo
  rw [if_neg (by omega), if_neg (by omega), if_neg (by omega), if_neg (by omega), if_neg (by omega), if_neg (by omega), if_neg (by omega)]
theorem ghi_w {j : Nat} (h : j < 12) : ghi (20 + j) = 999 := by
  unfold ghi
  rw [if_neg (by omega), if_neg (by omega), if_neg (by omega), if_neg (by omega), if_neg (by omega), if_neg (by omega), if_pos (by omega)]
theorem glo_k {j : Nat} (h : j < 12) : glo (32 + j) = 0 := by
  unfold glo
  rw [if_neg (by omega), if_neg (by omega), if_neg (by omega), if_neg (by omega), if_neg (by omega), if_neg (by omega), if_neg (by omega)]
theorem ghi_k {j : Nat} (h : j < 12) : ghi (32 + j) = 6 := by
  unfold ghi
  rw [if_neg (by omega), if_neg (by omega), if_neg (by omega), if_neg (by omega), if_neg (by omega), if_neg (by omega), if_neg (by omega)]
theorem gI.w {g : Nat → Int32} (hg : gI g) {j : Nat} (h : j < 12) : 0 ≤ (g (20 + j)).toInt ∧ (g (20 + j)).toInt ≤ 999 := by
  have h1 := hg (20 + j) (by omega)
  rw [glo_w h, ghi_w h] at h1
  exact h1
theorem gI.k {g : Nat → Int32} (hg : gI g) {j : Nat} (h : j < 12) : 0 ≤ (g (32 + j)).toInt ∧ (g (32 + j)).toInt ≤ 6 := by
  have h1 := hg (32 + j) (by omega)
  rw [glo_k h, ghi_k h] at h1
  exact h1
theorem gI.h0 {g : Nat → Int32} (hg : gI g) : 0 ≤ (g 0).toInt ∧ (g 0).toInt ≤ 99 := hg 0 (by decide)
theorem gI.h1 {g : Nat → Int32} (hg : gI g) : 0 ≤ (g 1).toInt ∧ (g 1).toInt ≤ 99 := hg 1 (by decide)
theorem gI.h2 {g : Nat → Int32} (hg : gI g) : 0 ≤ (g 2).toInt ∧ (g 2).toInt ≤ 99 := hg 2 (by decide)
theorem gI.h3 {g : Nat → Int32} (hg : gI g) : 1 ≤ (g 3).toInt ∧ (g 3).toInt ≤ 99 := hg 3 (by decide)
theorem gI.h4 {g : Nat → Int32} (hg : gI g) : -600 ≤ (g 4).toInt ∧ (g 4).toInt ≤ 600 := hg 4 (by decide)
theorem gI.h5 {g : Nat → Int32} (hg : gI g) : 0 ≤ (g 5).toInt ∧ (g 5).toInt ≤ 1199 := hg 5 (by decide)
theorem gI.h6 {g : Nat → Int32} (hg : gI g) : -1 ≤ (g 6).toInt ∧ (g 6).toInt ≤ 1 := hg 6 (by decide)
theorem gI.h11 {g : Nat → Int32} (hg : gI g) : 0 ≤ (g 11).toInt ∧ (g 11).toInt ≤ 600 := hg 11 (by decide)
theorem gI.upd {g : Nat → Int32} (hg : gI g) {i : Nat} {x : Int32} (h : i < 44 → glo i ≤ x.toInt ∧ x.toInt ≤ ghi i) : gI (upd g i x) := by
  intro j hj
  by_cases e : j = i
  · subst e
    rw [upd_at]
    exact h hj
  · rw [upd_ne e]
    exact hg j hj
theorem gI.free {g : Nat → Int32} (hg : gI g) {i : Nat} {x : Int32} (h : (7 ≤ i ∧ i ≤ 10) ∨ 44 ≤ i) : gI (upX g i x) := by
  refine hg.upd (fun hi => ?_)
  have hc := i32_cases x
  rcases h with h | h
  · unfold glo ghi
    rw [if_neg (by omega), if_neg (by omega), if_neg (by omega), if_neg (by omega), if_neg (by omega), if_neg (by omega), if_pos (by omega), if_neg (by omega), if_neg (by omega), if_neg (by omega), if_neg (by omega), if_neg (by omega), if_pos (by omega)]
    omega
  · omega
theorem gI.updW {g : Nat → Int32} (hg : gI g) {j : Nat} {x : Int32} (hj : j < 12) (h : 0 ≤ x.toInt ∧ x.toInt ≤ 999) : gI (upX g (20 + j) x) := hg.upd (fun _ => by rw [glo_w hj, ghi_w hj]; exact h)
theorem gI.updK {g : Nat → Int32} (hg : gI g) {j : Nat} {x : Int32} (hj : j < 12) (h : 0 ≤ x.toInt ∧ x.toInt ≤ 6) : gI (upX g (32 + j) x) := hg.upd (fun _ => by rw [glo_k hj, ghi_k hj]; exact h)
theorem lit_toInt {n : Nat} (h : n < 2 ^ 31) : (OfNat.ofNat n : Int32).toInt = (n : Int) := nI_toInt h
end
section
/-! small methods -/
def cmpI (x y : Int32) : Int32 := if x < y then -1 else if x = y then 0 else 1
def cmpL (x y : Int64) : Int32 := if x < y then -1 else if x = y then 0 else 1
def fmodI (x y : Int32) : Int32 := if x ^^^ y < 0 then (if xrem x y = 0 then xrem x y else xrem x y + y) else xrem x y
theorem nzB (P : Prop) [Decidable P] : narrow .boolean (.int (if P then 1 else 0)) = .int (if P then 1 else 0) := by
  by_cases h : P
  · rw [if_pos h]; rfl
  · rw [if_neg h]; rfl
theorem held_eq (x : Int32) : (if (-600 : Int32) < (if 600 < x then 600 else x) then (if 600 < x then 600 else x) else -600) = heldG x := by
  unfold heldG
  have e1 : ((-600 : Int32)).toInt = -600 := by decide
  have e2 : ((600 : Int32)).toInt = 600 := by decide
  by_cases h : 600 < x
  · rw [if_pos h, if_pos (by decide), if_neg (by rw [tI_lt] at h ⊢; omega)]
  · rw [if_neg h]
    by_cases h2 : -600 < x
    · rw [if_pos h2, if_neg (by rw [tI_lt] at h2 ⊢; omega)]
    · rw [if_neg h2]
      by_cases h3 : x < -600
      · rw [if_pos h3]
      · rw [if_neg h3]
        rw [tI_lt] at h2 h3
        rw [tI_eq]
        omega
set_option maxHeartbeats 4000000 in
set_option maxRecDepth 100000 in
theorem c_within (l : Launch) (E : xE) (σ : Nat → Nat → Int32) (τ : Nat → Int64) (v lo hi : Int32) : xMi l yX7_within cX7_within 3 .boolean 0 0 E [.int (v), .int (lo), .int (hi)] (σ) (τ) (if rng v lo hi then 1 else 0) (σ) (τ) := by
  refine xMi_of (own := RX7) (by decide +kernel) rfl (Nat.le_of_ble_eq_true rfl) ?_
  intro p e s m args below meth c C
  refine WM.to (lv1 := [(0, .int (v)), (1, .int (lo)), (2, .int (hi))]) (st1 := []) (σ1 := σ) (τ1 := τ) ?_ rfl rfl rfl rfl
  refine x_iload_n C 1 dX7_within_0 rfl rfl ?_
  refine x_iload_n C 0 dX7_within_1 rfl rfl ?_
  refine x_icmp_gt C (tgt := 14) dX7_within_2 (by decide) (fun h1 => ?_) (fun h1 => ?_)
  · refine x_iconst C (v := 0) dX7_within_14 (by decide) ?_
    exact x_zret C rfl (by simp [h1]) rfl rfl dX7_within_15
  · refine x_iload_n C 0 dX7_within_5 rfl rfl ?_
    refine x_iload_n C 2 dX7_within_6 rfl rfl ?_
    refine x_icmp_gt C (tgt := 14) dX7_within_7 (by decide) (fun h2 => ?_) (fun h2 => ?_)
    · refine x_iconst C (v := 0) dX7_within_14 (by decide) ?_
      exact x_zret C rfl (by simp [h1, h2]) rfl rfl dX7_within_15
    · refine x_iconst C (v := 1) dX7_within_10 (by decide) ?_
      refine x_goto2 C (tgt := 15) dX7_within_11 (by decide) ?_
      exact x_zret C rfl (by simp [h1, h2]) rfl rfl dX7_within_15
set_option maxHeartbeats 4000000 in
set_option maxRecDepth 100000 in
theorem c_isCup (l : Launch) (E : xE) (σ : Nat → Nat → Int32) (τ : Nat → Int64) (v : Int32) : xMi l yX7_isCup cX7_isCup 1 .boolean 1 22 E [.int (v)] (σ) (τ) (if rng v 0 11 then 1 else 0) (σ) (τ) := by
  refine xMi_of (own := RX7) (by decide +kernel) rfl (Nat.le_of_ble_eq_true rfl) ?_
  intro p e s m args below meth c C
  refine WM.to (lv1 := [(0, .int (v))]) (st1 := []) (σ1 := σ) (τ1 := τ) ?_ rfl rfl rfl rfl
  refine x_iload_n C 0 dX7_isCup_0 rfl rfl ?_
  refine x_iconst C (v := 0) dX7_isCup_1 (by decide) ?_
  refine x_bipush C (v := 11) dX7_isCup_2 (by decide) ?_
  refine x_callSi C (As := [.int (v), .int (0), .int (11)]) (rest := []) (c_within l E σ τ v 0 11) ks_X7_63 ⟨Nat.le_of_ble_eq_true rfl, Nat.le_of_ble_eq_true rfl⟩ rfl rfl (Nat.le_of_ble_eq_true rfl) dX7_isCup_4 ?_
  exact x_zret C (nzB _) rfl rfl rfl dX7_isCup_7
set_option maxHeartbeats 4000000 in
set_option maxRecDepth 100000 in
theorem c_isKind (l : Launch) (E : xE) (σ : Nat → Nat → Int32) (τ : Nat → Int64) (v : Int32) : xMi l yX7_isKind cX7_isKind 1 .boolean 1 22 E [.int (v)] (σ) (τ) (if rng v 0 6 then 1 else 0) (σ) (τ) := by
  refine xMi_of (own := RX7) (by decide +kernel) rfl (Nat.le_of_ble_eq_true rfl) ?_
  intro p e s m args below meth c C
  refine WM.to (lv1 := [(0, .int (v))]) (st1 := []) (σ1 := σ) (τ1 := τ) ?_ rfl rfl rfl rfl
  refine x_iload_n C 0 dX7_isKind_0 rfl rfl ?_
  refine x_iconst C (v := 0) dX7_isKind_1 (by decide) ?_
  refine x_bipush C (v := 6) dX7_isKind_2 (by decide) ?_
  refine x_callSi C (As := [.int (v), .int (0), .int (6)]) (rest := []) (c_within l E σ τ v 0 6) ks_X7_63 ⟨Nat.le_of_ble_eq_true rfl, Nat.le_of_ble_eq_true rfl⟩ rfl rfl (Nat.le_of_ble_eq_true rfl) dX7_isKind_4 ?_
  exact x_zret C (nzB _) rfl rfl rfl dX7_isKind_7
set_option maxHeartbeats 4000000 in
set_option maxRecDepth 100000 in
theorem c_isSpot (l : Launch) (E : xE) (σ : Nat → Nat → Int32) (τ : Nat → Int64) (v : Int32) : xMi l yX7_isSpot cX7_isSpot 1 .boolean 1 22 E [.int (v)] (σ) (τ) (if rng v 0 9 then 1 else 0) (σ) (τ) := by
  refine xMi_of (own := RX7) (by decide +kernel) rfl (Nat.le_of_ble_eq_true rfl) ?_
  intro p e s m args below meth c C
  refine WM.to (lv1 := [(0, .int (v))]) (st1 := []) (σ1 := σ) (τ1 := τ) ?_ rfl rfl rfl rfl
  refine x_iload_n C 0 dX7_isSpot_0 rfl rfl ?_
  refine x_iconst C (v := 0) dX7_isSpot_1 (by decide) ?_
  refine x_bipush C (v := 9) dX7_isSpot_2 (by decide) ?_
  refine x_callSi C (As := [.int (v), .int (0), .int (9)]) (rest := []) (c_within l E σ τ v 0 9) ks_X7_63 ⟨Nat.le_of_ble_eq_true rfl, Nat.le_of_ble_eq_true rfl⟩ rfl rfl (Nat.le_of_ble_eq_true rfl) dX7_isSpot_4 ?_
  exact x_zret C (nzB _) rfl rfl rfl dX7_isSpot_7
set_option maxHeartbeats 4000000 in
set_option maxRecDepth 100000 in
theorem c_isSheet (l : Launch) (E : xE) (σ : Nat → Nat → Int32) (τ : Nat → Int64) (v : Int32) : xMi l yX7_isSheet cX7_isSheet 1 .boolean 1 22 E [.int (v)] (σ) (τ) (if rng v 0 3 then 1 else 0) (σ) (τ) := by
  refine xMi_of (own := RX7) (by decide +kernel) rfl (Nat.le_of_ble_eq_true rfl) ?_
  intro p e s m args below meth c C
  refine WM.to (lv1 := [(0, .int (v))]) (st1 := []) (σ1 := σ) (τ1 := τ) ?_ rfl rfl rfl rfl
  refine x_iload_n C 0 dX7_isSheet_0 rfl rfl ?_
  refine x_iconst C (v := 0) dX7_isSheet_1 (by decide) ?_
  refine x_iconst C (v := 3) dX7_isSheet_2 (by decide) ?_
  refine x_callSi C (As := [.int (v), .int (0), .int (3)]) (rest := []) (c_within l E σ τ v 0 3) ks_X7_63 ⟨Nat.le_of_ble_eq_true rfl, Nat.le_of_ble_eq_true rfl⟩ rfl rfl (Nat.le_of_ble_eq_true rfl) dX7_isSheet_3 ?_
  exact x_zret C (nzB _) rfl rfl rfl dX7_isSheet_6
set_option maxHeartbeats 4000000 in
set_option maxRecDepth 100000 in
theorem c_isTouch (l : Launch) (E : xE) (σ : Nat → Nat → Int32) (τ : Nat → Int64) (v : Int32) : xMi l yX7_isTouch cX7_isTouch 1 .boolean 1 22 E [.int (v)] (σ) (τ) (if rng v (-200) 200 then 1 else 0) (σ) (τ) := by
  refine xMi_of (own := RX7) (by decide +kernel) rfl (Nat.le_of_ble_eq_true rfl) ?_
  intro p e s m args below meth c C
  refine WM.to (lv1 := [(0, .int (v))]) (st1 := []) (σ1 := σ) (τ1 := τ) ?_ rfl rfl rfl rfl
  refine x_iload_n C 0 dX7_isTouch_0 rfl rfl ?_
  refine x_sipush C (v := -200) dX7_isTouch_1 (by decide) ?_
  refine x_sipush C (v := 200) dX7_isTouch_4 (by decide) ?_
  refine x_callSi C (As := [.int (v), .int ((-200)), .int (200)]) (rest := []) (c_within l E σ τ v (-200) 200) ks_X7_63 ⟨Nat.le_of_ble_eq_true rfl, Nat.le_of_ble_eq_true rfl⟩ rfl rfl (Nat.le_of_ble_eq_true rfl) dX7_isTouch_7 ?_
  exact x_zret C (nzB _) rfl rfl rfl dX7_isTouch_10
set_option maxHeartbeats 4000000 in
set_option maxRecDepth 100000 in
theorem c_isAhead (l : Launch) (E : xE) (σ : Nat → Nat → Int32) (τ : Nat → Int64) (v : Int32) : xMi l yX7_isAhead cX7_isAhead 1 .boolean 1 22 E [.int (v)] (σ) (τ) (if rng v 0 400 then 1 else 0) (σ) (τ) := by
  refine xMi_of (own := RX7) (by decide +kernel) rfl (Nat.le_of_ble_eq_true rfl) ?_
  intro p e s m args below meth c C
  refine WM.to (lv1 := [(0, .int (v))]) (st1 := []) (σ1 := σ) (τ1 := τ) ?_ rfl rfl rfl rfl
  refine x_iload_n C 0 dX7_isAhead_0 rfl rfl ?_
  refine x_iconst C (v := 0) dX7_isAhead_1 (by decide) ?_
  refine x_sipush C (v := 400) dX7_isAhead_2 (by decide) ?_
  refine x_callSi C (As := [.int (v), .int (0), .int (400)]) (rest := []) (c_within l E σ τ v 0 400) ks_X7_63 ⟨Nat.le_of_ble_eq_true rfl, Nat.le_of_ble_eq_true rfl⟩ rfl rfl (Nat.le_of_ble_eq_true rfl) dX7_isAhead_5 ?_
  exact x_zret C (nzB _) rfl rfl rfl dX7_isAhead_8
set_option maxHeartbeats 4000000 in
set_option maxRecDepth 100000 in
theorem c_isLongRun (l : Launch) (E : xE) (σ : Nat → Nat → Int32) (τ : Nat → Int64) (v : Int32) : xMi l yX7_isLongRun cX7_isLongRun 1 .boolean 1 22 E [.int (v)] (σ) (τ) (if rng v 10 400 then 1 else 0) (σ) (τ) := by
  refine xMi_of (own := RX7) (by decide +kernel) rfl (Nat.le_of_ble_eq_true rfl) ?_
  intro p e s m args below meth c C
  refine WM.to (lv1 := [(0, .int (v))]) (st1 := []) (σ1 := σ) (τ1 := τ) ?_ rfl rfl rfl rfl
  refine x_iload_n C 0 dX7_isLongRun_0 rfl rfl ?_
  refine x_bipush C (v := 10) dX7_isLongRun_1 (by decide) ?_
  refine x_sipush C (v := 400) dX7_isLongRun_3 (by decide) ?_
  refine x_callSi C (As := [.int (v), .int (10), .int (400)]) (rest := []) (c_within l E σ τ v 10 400) ks_X7_63 ⟨Nat.le_of_ble_eq_true rfl, Nat.le_of_ble_eq_true rfl⟩ rfl rfl (Nat.le_of_ble_eq_true rfl) dX7_isLongRun_6 ?_
  exact x_zret C (nzB _) rfl rfl rfl dX7_isLongRun_9
set_option maxHeartbeats 4000000 in
set_option maxRecDepth 100000 in
theorem c_Icmp (l : Launch) (E : xE) (σ : Nat → Nat → Int32) (τ : Nat → Int64) (x y : Int32) : xMi l yJ_Icmp cJ_Icmp 2 .int 0 0 E [.int (x), .int (y)] (σ) (τ) (cmpI x y) (σ) (τ) := by
  refine xMi_of (own := "java/lang/Integer") (by decide +kernel) rfl (Nat.le_of_ble_eq_true rfl) ?_
  intro p e s m args below meth c C
  refine WM.to (lv1 := [(0, .int (x)), (1, .int (y))]) (st1 := []) (σ1 := σ) (τ1 := τ) ?_ rfl rfl rfl rfl
  refine x_iload_n C 0 dJ_Icmp_0 rfl rfl ?_
  refine x_iload_n C 1 dJ_Icmp_1 rfl rfl ?_
  refine x_icmp_ge C (tgt := 9) dJ_Icmp_2 (by decide) (fun h1 => ?_) (fun h1 => ?_)
  · refine x_iload_n C 0 dJ_Icmp_9 rfl rfl ?_
    refine x_iload_n C 1 dJ_Icmp_10 rfl rfl ?_
    refine x_icmp_ne C (tgt := 18) dJ_Icmp_11 (by decide) (fun h2 => ?_) (fun h2 => ?_)
    · refine x_iconst C (v := 1) dJ_Icmp_18 (by decide) ?_
      exact x_iret C (by simp [cmpI, h1, h2]) rfl rfl dJ_Icmp_19
    · refine x_iconst C (v := 0) dJ_Icmp_14 (by decide) ?_
      refine x_goto2 C (tgt := 19) dJ_Icmp_15 (by decide) ?_
      exact x_iret C (by simp [cmpI, h1, h2]) rfl rfl dJ_Icmp_19
  · refine x_iconst C (v := -1) dJ_Icmp_5 (by decide) ?_
    refine x_goto2 C (tgt := 19) dJ_Icmp_6 (by decide) ?_
    exact x_iret C (by simp [cmpI, h1]) rfl rfl dJ_Icmp_19
set_option maxHeartbeats 4000000 in
set_option maxRecDepth 100000 in
theorem c_Lcmp (l : Launch) (E : xE) (σ : Nat → Nat → Int32) (τ : Nat → Int64) (x y : Int64) : xMi l yJ_Lcmp cJ_Lcmp 4 .int 0 0 E [.long (x), .long (y)] (σ) (τ) (cmpL x y) (σ) (τ) := by
  refine xMi_of (own := "java/lang/Long") (by decide +kernel) rfl (Nat.le_of_ble_eq_true rfl) ?_
  intro p e s m args below meth c C
  refine WM.to (lv1 := [(0, .long (x)), (2, .long (y))]) (st1 := []) (σ1 := σ) (τ1 := τ) ?_ rfl rfl rfl rfl
  refine x_lload_n C 0 dJ_Lcmp_0 rfl rfl ?_
  refine x_lload_n C 1 dJ_Lcmp_1 rfl rfl ?_
  refine x_lcmp C dJ_Lcmp_2 ?_
  refine x_if_ge C (tgt := 10) dJ_Lcmp_3 (by decide) (fun h1 => ?_) (fun h1 => ?_)
  · rw [xcmp_lt] at h1
    refine x_lload_n C 0 dJ_Lcmp_10 rfl rfl ?_
    refine x_lload_n C 1 dJ_Lcmp_11 rfl rfl ?_
    refine x_lcmp C dJ_Lcmp_12 ?_
    refine x_if_ne C (tgt := 20) dJ_Lcmp_13 (by decide) (fun h2 => ?_) (fun h2 => ?_)
    · rw [xcmp_eq] at h2
      refine x_iconst C (v := 1) dJ_Lcmp_20 (by decide) ?_
      exact x_iret C (by simp [cmpL, h1, h2]) rfl rfl dJ_Lcmp_21
    · rw [xcmp_eq] at h2
      refine x_iconst C (v := 0) dJ_Lcmp_16 (by decide) ?_
      refine x_goto2 C (tgt := 21) dJ_Lcmp_17 (by decide) ?_
      exact x_iret C (by simp [cmpL, h1, h2]) rfl rfl dJ_Lcmp_21
  · rw [xcmp_lt] at h1
    refine x_iconst C (v := -1) dJ_Lcmp_6 (by decide) ?_
    refine x_goto2 C (tgt := 21) dJ_Lcmp_7 (by decide) ?_
    exact x_iret C (by simp [cmpL, h1]) rfl rfl dJ_Lcmp_21
set_option maxHeartbeats 4000000 in
set_option maxRecDepth 100000 in
theorem c_fmod (l : Launch) (E : xE) (σ : Nat → Nat → Int32) (τ : Nat → Int64) (x y : Int32) (hy : ¬ y = 0) : xMi l yJ_fmod cJ_fmod 3 .int 0 0 E [.int (x), .int (y)] (σ) (τ) (fmodI x y) (σ) (τ) := by
  refine xMi_of (own := "java/lang/Math") (by decide +kernel) rfl (Nat.le_of_ble_eq_true rfl) ?_
  intro p e s m args below meth c C
  refine WM.to (lv1 := [(0, .int (x)), (1, .int (y))]) (st1 := []) (σ1 := σ) (τ1 := τ) ?_ rfl rfl rfl rfl
  refine x_iload_n C 0 dJ_fmod_0 rfl rfl ?_
  refine x_iload_n C 1 dJ_fmod_1 rfl rfl ?_
  refine x_irem C dJ_fmod_2 hy ?_
  refine x_istore_n C (lv1 := [(2, .int (x - x / y * y)), (0, .int (x)), (1, .int (y))]) dJ_fmod_3 rfl (by decide) rfl ?_
  refine x_iload_n C 1 dJ_fmod_4 rfl rfl ?_
  refine x_iload_n C 2 dJ_fmod_5 rfl rfl ?_
  refine x_ixor C dJ_fmod_6 ?_
  refine x_if_ge C (tgt := 18) dJ_fmod_7 (by decide) (fun h1 => ?_) (fun h1 => ?_)
  · refine x_iload_n C 0 dJ_fmod_18 rfl rfl ?_
    exact x_iret C (by simp [fmodI, xrem, h1]) rfl rfl dJ_fmod_19
  · refine x_iload_n C 0 dJ_fmod_10 rfl rfl ?_
    refine x_if_eq C (tgt := 18) dJ_fmod_11 (by decide) (fun h2 => ?_) (fun h2 => ?_)
    · refine x_iload_n C 0 dJ_fmod_18 rfl rfl ?_
      exact x_iret C (by simp [fmodI, xrem, h1, h2]) rfl rfl dJ_fmod_19
    · refine x_iload_n C 0 dJ_fmod_14 rfl rfl ?_
      refine x_iload_n C 2 dJ_fmod_15 rfl rfl ?_
      refine x_iadd C dJ_fmod_16 ?_
      exact x_iret C (by simp [fmodI, xrem, h1, h2]) rfl rfl dJ_fmod_17
set_option maxHeartbeats 4000000 in
set_option maxRecDepth 100000 in
theorem c_held (l : Launch) (E : xE) (σ : Nat → Nat → Int32) (τ : Nat → Int64) (x : Int32) : xMi l yX6_held cX6_held 1 .int 1 23 E [.int (x)] (σ) (τ) (heldG x) (σ) (τ) := by
  refine xMi_of (own := RX6) (by decide +kernel) rfl (Nat.le_of_ble_eq_true rfl) ?_
  intro p e s m args below meth c C
  refine WM.to (lv1 := [(0, .int (x))]) (st1 := []) (σ1 := σ) (τ1 := τ) ?_ rfl rfl rfl rfl
  refine x_sipush C (v := -600) dX6_held_0 (by decide) ?_
  refine x_iload_n C 0 dX6_held_3 rfl rfl ?_
  refine x_sipush C (v := 600) dX6_held_4 (by decide) ?_
  refine x_mmin C km_X6_58 kM_min ⟨Nat.le_of_ble_eq_true rfl, Nat.le_of_ble_eq_true rfl⟩ dX6_held_7 ?_
  refine x_mmax C km_X6_74 kM_max ⟨Nat.le_of_ble_eq_true rfl, Nat.le_of_ble_eq_true rfl⟩ dX6_held_10 ?_
  exact x_iret C (held_eq x) rfl rfl dX6_held_13
end
section
/-! A WHEEL: the two programs' words for the same, and that its numbers stay within -/
theorem place_eq {g : Nat → Int32} (hg : gI g) {c : Nat} (hc : c < 12) : placeG g c = nI (placeN g c) := by
  obtain ⟨a, ha, e⟩ := nI_is hg.h5.1 (n := 1199) hg.h5.2 (by decide)
  unfold placeG placeN xrem
  rw [e, nI_clamp (by omega)]
  have e1 : nI a / 100 = nI (a / 100) := pk_div (by omega) (by decide) (by decide)
  rw [e1, nI_add]
  exact pk_rem (by omega) (by decide) (by decide)
theorem place_in {g : Nat → Int32} (hg : gI g) {c : Nat} (hc : c < 12) : vp_in (placeG g c) 12 := by
  rw [place_eq hg hc]
  exact vp_in_nI (Nat.mod_lt _ (by decide)) (by decide)
theorem top_eq {g : Nat → Int32} (hg : gI g) : topG g = nI (topN g) := by
  obtain ⟨a, ha, e⟩ := nI_is hg.h5.1 (n := 1199) hg.h5.2 (by decide)
  unfold topG topN xrem
  rw [e, nI_clamp (by omega)]
  have e1 : nI a / 100 = nI (a / 100) := pk_div (by omega) (by decide) (by decide)
  have e2 : (12 : Int32) - nI (a / 100) = nI (12 - a / 100) := pk_sub (a := 12) (by omega)
  rw [e1, e2]
  exact pk_rem (by omega) (by decide) (by decide)
theorem topN_lt (g : Nat → Int32) : topN g < 12 := Nat.mod_lt _ (by decide)
theorem place_top {g : Nat → Int32} (hg : gI g) {c : Nat} (hc : c < 12) : placeG g c = 0 ↔ c = topN g := by
  obtain ⟨a, ha, e⟩ := nI_is hg.h5.1 (n := 1199) hg.h5.2 (by decide)
  rw [place_eq hg hc]
  have h0 : (0 : Int32) = nI 0 := rfl
  have hp : placeN g c < 2 ^ 31 := Nat.lt_trans (Nat.mod_lt _ (by decide)) (by decide)
  rw [h0, nI_eq hp (by decide)]
  unfold placeN topN
  rw [e, nI_clamp (by omega)]
  omega
theorem room_in {k : Int32} (h : 0 ≤ k.toInt ∧ k.toInt ≤ 6) : vp_in k 7 := vp_in_iff.mpr ⟨h.1, by omega⟩
theorem room_eq {k : Int32} (h : 0 ≤ k.toInt ∧ k.toInt ≤ 6) : (xzl 0).getD k.toNatClampNeg 0 = roomK k := by
  obtain ⟨j, hj, rfl⟩ := nI_is h.1 (n := 6) h.2 (by decide)
  have : j = 0 ∨ j = 1 ∨ j = 2 ∨ j = 3 ∨ j = 4 ∨ j = 5 ∨ j = 6 := by omega
  rcases this with rfl | rfl | rfl | rfl | rfl | rfl | rfl <;> decide +kernel
theorem roomK_in (k : Int32) : 200 ≤ (roomK k).toInt ∧ (roomK k).toInt ≤ 999 := by
  unfold roomK
  split
  · decide
  · split
    · decide
    · split <;> decide
theorem plain_in {g : Nat → Int32} (hg : gI g) {c : Nat} (hc : c < 12) : 0 ≤ (plainG g c).toInt ∧ (plainG g c).toInt ≤ (g (20 + c)).toInt := by
  obtain ⟨w, hw, e1⟩ := nI_is (hg.w hc).1 (n := 999) (hg.w hc).2 (by decide)
  obtain ⟨k, hk, e2⟩ := nI_is hg.h1.1 (n := 99) hg.h1.2 (by decide)
  unfold plainG
  rw [e1, e2, pk_mul]
  have hb : w * k ≤ 999 * 99 := Nat.mul_le_mul hw hk
  have e3 : nI (w * k) / 100 = nI (w * k / 100) := pk_div (by omega) (by decide) (by decide)
  have h4 : w * k / 100 ≤ w := by
    have : w * k ≤ w * 99 := Nat.mul_le_mul_left w hk
    omega
  rw [e3, nI_toInt (by omega), nI_toInt (by omega)]
  omega
theorem deep_in {g : Nat → Int32} (hg : gI g) {c : Nat} (hc : c < 12) : 0 ≤ (deepG g c).toInt ∧ (deepG g c).toInt ≤ (g (20 + c)).toInt := by
  obtain ⟨w, hw, e1⟩ := nI_is (hg.w hc).1 (n := 999) (hg.w hc).2 (by decide)
  obtain ⟨k, hk, e2⟩ := nI_is hg.h1.1 (n := 99) hg.h1.2 (by decide)
  unfold deepG
  rw [e1, e2]
  split
  · rename_i h
    have h : 100 < w := (nI_ltI (by decide) (by omega)).mp (show nI 100 < nI w from h)
    have e4 : nI w - 100 = nI (w - 100) := pk_sub (b := 100) (by omega)
    have hb : (w - 100) * k ≤ 899 * 99 := Nat.mul_le_mul (by omega) hk
    have e3 : nI ((w - 100) * k) / 100 = nI ((w - 100) * k / 100) := pk_div (by omega) (by decide) (by decide)
    have h4 : (w - 100) * k / 100 ≤ w - 100 := by
      have : (w - 100) * k ≤ (w - 100) * 99 := Nat.mul_le_mul_left _ hk
      omega
    rw [e4, pk_mul, e3, nI_toInt (by omega), nI_toInt (by omega)]
    omega
  · rw [nI_toInt (by omega)]
    have : (0 : Int32).toInt = 0 := by decide
    omega
theorem twice_eq (x y : Int32) : (if y < x then y else x) = (if x < y then x else y) := by
  by_cases h1 : y < x
  · rw [if_pos h1]
    by_cases h2 : x < y
    · rw [tI_lt] at h1 h2
      omega
    · rw [if_neg h2]
  · rw [if_neg h1]
    by_cases h2 : x < y
    · rw [if_pos h2]
    · rw [if_neg h2]
      rw [tI_lt] at h1 h2
      rw [tI_eq]
      omega
theorem deep_eq {g : Nat → Int32} (hg : gI g) {c : Nat} (hc : c < 12) : (if g (20 + c) - 100 < 0 then 0 else g (20 + c) - 100) * g 1 / 100 = deepG g c := by
  have hw := hg.w hc
  have e1 : (100 : Int32).toInt = 100 := by decide
  have e0 : (0 : Int32).toInt = 0 := by decide
  unfold deepG
  by_cases h : 100 < g (20 + c)
  · rw [if_pos h, if_neg]
    rw [tI_lt] at h
    rw [tI_lt, tI_sub (by omega) (by omega)]
    omega
  · rw [if_neg h]
    rw [tI_lt] at h
    by_cases h2 : g (20 + c) - 100 < 0
    · rw [if_pos h2]
      have : (0 : Int32) * g 1 = 0 := Int32.zero_mul
      rw [this]
      decide
    · rw [if_neg h2]
      rw [tI_lt, tI_sub (by omega) (by omega)] at h2
      have : g (20 + c) - 100 = 0 := by
        rw [tI_eq, tI_sub (by omega) (by omega)]
        omega
      rw [this]
      have : (0 : Int32) * g 1 = 0 := Int32.zero_mul
      rw [this]
      decide
theorem twice_in {g : Nat → Int32} (hg : gI g) {c : Nat} (hc : c < 12) : 0 ≤ (twiceG g c).toInt ∧ (twiceG g c).toInt ≤ (g (20 + c)).toInt := by
  have hw := hg.w hc
  have hp := plain_in hg hc
  have e2 : (2 : Int32).toInt = 2 := by decide
  have e3 : (2 * plainG g c).toInt = 2 * (plainG g c).toInt := by
    rw [tI_mul (by rw [e2]; omega) (by rw [e2]; omega), e2]
  unfold twiceG
  split
  · rename_i h
    rw [tI_lt] at h
    omega
  · omega
theorem leak_in {g : Nat → Int32} (hg : gI g) {c : Nat} (hc : c < 12) : 0 ≤ (leakG g c).toInt ∧ (leakG g c).toInt ≤ (g (20 + c)).toInt := by
  have hw := hg.w hc
  have e0 : (0 : Int32).toInt = 0 := by decide
  unfold leakG
  split
  · omega
  · split
    · exact twice_in hg hc
    · split
      · exact deep_in hg hc
      · split
        · exact twice_in hg hc
        · split
          · split
            · omega
            · exact deep_in hg hc
          · split
            · exact twice_in hg hc
            · exact plain_in hg hc
theorem comes_in {g : Nat → Int32} (hg : gI g) {c : Nat} (hc : c < 12) : 0 ≤ (comesG g c).toInt ∧ (g (20 + c)).toInt + (comesG g c).toInt ≤ 999 := by
  have hw := hg.w hc
  have ht := hg.h0
  have hr := roomK_in (g (32 + c))
  have e0 : (0 : Int32).toInt = 0 := by decide
  have es : (roomG g c - g (20 + c)).toInt = (roomG g c).toInt - (g (20 + c)).toInt := tI_sub (by unfold roomG; omega) (by unfold roomG; omega)
  have hsp : 0 ≤ (spareG g c).toInt ∧ (spareG g c).toInt ≤ 999 - (g (20 + c)).toInt := by
    unfold spareG
    split
    · omega
    · rename_i h
      rw [tI_lt, es] at h
      rw [es]
      unfold roomG at h ⊢
      omega
  unfold comesG
  split
  · omega
  · rename_i h
    rw [tI_lt] at h
    omega
theorem gI_pourAt {g : Nat → Int32} (hg : gI g) {c : Nat} (hc : c < 12) : gI (pourAt g c) := by
  have h := comes_in hg hc
  have hw := hg.w hc
  refine (hg.updW hc ?_).free (by omega)
  rw [tI_add (by omega) (by omega)]
  omega
theorem gI_pour {g : Nat → Int32} (hg : gI g) : gI (pourG g) := gI_pourAt hg (topN_lt g)
theorem gI_loss {g : Nat → Int32} (hg : gI g) {c : Nat} (hc : c < 12) : gI (lossG g c) := by
  have h := leak_in hg hc
  have hw := hg.w hc
  refine (hg.updW hc ?_).free (by omega)
  rw [tI_sub (by omega) (by omega)]
  omega
theorem gI_pass {g : Nat → Int32} (hg : gI g) {c : Nat} (hc : c < 12) : gI (passG g c) := by
  have hw := hg.w hc
  have hn : (c + 1) % 12 < 12 := Nat.mod_lt _ (by decide)
  have hv := hg.w hn
  have hr := roomK_in (g (32 + (c + 1) % 12))
  have e1 : (1 : Int32).toInt = 1 := by decide
  unfold passG
  split
  · rename_i h
    obtain ⟨h1, h2⟩ := h
    rw [tI_lt] at h1 h2
    unfold roomG at h2
    refine (hg.updW hc ?_).updW hn ?_
    · rw [tI_sub (by omega) (by omega)]
      omega
    · rw [tI_add (by omega) (by omega)]
      omega
  · exact hg
theorem gI_drain {g : Nat → Int32} (hg : gI g) {c : Nat} (hc : c < 12) : gI (drainG g c) := by
  unfold drainG
  split
  · exact gI_pass (gI_loss hg hc) hc
  · exact gI_loss hg hc
theorem gI_drains {g : Nat → Int32} (hg : gI g) : ∀ n, n ≤ 12 → gI (drainsG g n)
  | 0, _ => hg
  | n + 1, h => gI_drain (gI_drains hg n (by omega)) (by omega)
theorem held_in (x : Int32) : -600 ≤ (heldG x).toInt ∧ (heldG x).toInt ≤ 600 := by
  have e1 : ((-600 : Int32)).toInt = -600 := by decide
  have e2 : ((600 : Int32)).toInt = 600 := by decide
  unfold heldG
  split
  · omega
  · rename_i h1
    split
    · omega
    · rename_i h2
      rw [tI_lt] at h1 h2
      omega
theorem rem_1200 {x : Int32} (h : 0 ≤ x.toInt) : 0 ≤ (xrem x 1200).toInt ∧ (xrem x 1200).toInt ≤ 1199 := by
  obtain ⟨a, ha, rfl⟩ := nI_is h (n := 2147483647) (i32_cases x).2 (by decide)
  have e : xrem (nI a) 1200 = nI (a % 1200) := pk_rem (by omega) (by decide) (by decide)
  rw [e, nI_toInt (by omega)]
  omega
theorem gI_swing {g : Nat → Int32} (hg : gI g) : gI (swingG g) := by
  have hp : -600 ≤ (slowG g).toInt ∧ (slowG g).toInt ≤ 600 := held_in _
  have h5 := hg.h5
  have e2 : (1200 : Int32).toInt = 1200 := by decide
  have e3 : (g 5 + slowG g).toInt = (g 5).toInt + (slowG g).toInt := tI_add (by omega) (by omega)
  refine (hg.upd (i := 4) (fun _ => hp)).upd (i := 5) (fun _ => rem_1200 ?_)
  rw [tI_add (by omega) (by omega)]
  omega
theorem gI_tick {g : Nat → Int32} (hg : gI g) : gI (tickG g) := hg.free (by omega)
theorem abs_in {x : Int32} (h : -600 ≤ x.toInt ∧ x.toInt ≤ 600) : 0 ≤ (absG x).toInt ∧ (absG x).toInt ≤ 600 := by
  have e0 : (0 : Int32).toInt = 0 := by decide
  unfold absG
  split
  · rename_i h1
    rw [tI_lt] at h1
    rw [tI_neg (by omega)]
    omega
  · rename_i h1
    rw [tI_lt] at h1
    omega
theorem sgn_in (x : Int32) : -1 ≤ (sgn x).toInt ∧ (sgn x).toInt ≤ 1 := by
  unfold sgn
  split
  · decide
  · split <;> decide
theorem gI_logT {g : Nat → Int32} (hg : gI g) : gI (logT g) := by
  unfold logT
  refine gI.free ?_ (by omega)
  split
  · exact (hg.free (by omega)).free (by omega)
  · exact hg
theorem gI_log {g : Nat → Int32} (hg : gI g) : gI (logG g) := (gI_logT hg).upd (fun _ => by decide)
theorem gI_note {g : Nat → Int32} (hg : gI g) : gI (noteG g) := by
  have h4 := abs_in hg.h4
  have h11 := hg.h11
  refine (hg.upd (i := 11) (fun _ => ?_)).upd (i := 6) (fun _ => ?_)
  · show 0 ≤ Int32.toInt _ ∧ Int32.toInt _ ≤ 600
    split
    · exact h4
    · exact h11
  · show -1 ≤ Int32.toInt _ ∧ Int32.toInt _ ≤ 1
    split
    · exact hg.h6
    · exact sgn_in _
theorem gI_watch {g : Nat → Int32} (hg : gI g) : gI (watchG g) := by
  unfold watchG
  refine gI_note ?_
  split
  · exact gI_log hg
  · exact hg
theorem gI_step {g : Nat → Int32} (hg : gI g) : gI (stepG g) := gI_watch (gI_tick (gI_swing (gI_drains (gI_pour hg) 12 (Nat.le_refl _))))
theorem gI_steps {g : Nat → Int32} (hg : gI g) : ∀ n, gI (stepsG g n)
  | 0 => hg
  | n + 1 => gI_step (gI_steps hg n)
theorem gI_touch {g : Nat → Int32} (hg : gI g) (b : Int32) : gI (touchG g b) := by
  refine (hg.upd (i := 4) (fun _ => held_in _)).upd (i := 6) (fun _ => ?_)
  show -1 ≤ Int32.toInt _ ∧ Int32.toInt _ ≤ 1
  split
  · exact hg.h6
  · exact sgn_in _
/-! TURNS go up by one at most -/
theorem pass_10 (g : Nat → Int32) (c : Nat) : passG g c 10 = g 10 := by
  unfold passG
  split
  · rw [upd_ne (by omega), upd_ne (by omega)]
  · rfl
theorem loss_10 (g : Nat → Int32) (c : Nat) : lossG g c 10 = g 10 := by
  unfold lossG
  rw [upd_ne (by omega), upd_ne (by omega)]
theorem drain_10 (g : Nat → Int32) (c : Nat) : drainG g c 10 = g 10 := by
  unfold drainG
  split
  · rw [pass_10, loss_10]
  · rw [loss_10]
theorem drains_10 (g : Nat → Int32) : ∀ n, drainsG g n 10 = g 10
  | 0 => rfl
  | n + 1 => by
    show drainG (drainsG g n) n 10 = g 10
    rw [drain_10, drains_10 g n]
theorem pour_10 (g : Nat → Int32) : pourG g 10 = g 10 := by
  unfold pourG pourAt
  rw [upd_ne (by omega), upd_ne (by omega)]
theorem swing_10 (g : Nat → Int32) : swingG g 10 = g 10 := by
  unfold swingG
  rw [upd_ne (by omega), upd_ne (by omega)]
theorem note_10 (g : Nat → Int32) : noteG g 10 = g 10 := by
  unfold noteG
  rw [upd_ne (by omega), upd_ne (by omega)]
theorem log_10 (g : Nat → Int32) : logG g 10 = g 10 + 1 := by
  unfold logG logT
  rw [upd_ne (by omega), upd_at]
def preG (g : Nat → Int32) : Nat → Int32 := tickG (swingG (drainsG (pourG g) 12))
theorem pre_10 (g : Nat → Int32) : preG g 10 = g 10 := by
  unfold preG tickG
  rw [upd_ne (by omega), swing_10, drains_10, pour_10]
theorem step_10 (g : Nat → Int32) : stepG g 10 = if turnsQ (preG g) then g 10 + 1 else g 10 := by
  show watchG (preG g) 10 = _
  unfold watchG
  rw [note_10]
  by_cases h : turnsQ (preG g)
  · rw [if_pos h, if_pos h, log_10, pre_10]
  · rw [if_neg h, if_neg h, pre_10]
theorem gT_step {g : Nat → Int32} {T : Nat} (h : gT g T) (hT : T < 2147483647) : gT (stepG g) (T + 1) := by
  unfold gT at h ⊢
  rw [step_10]
  have e1 : (1 : Int32).toInt = 1 := by decide
  split
  · rw [tI_add (by omega) (by omega)]
    omega
  · omega
theorem gT_steps {g : Nat → Int32} {T : Nat} (h : gT g T) : ∀ n, T + n < 2147483647 → gT (stepsG g n) (T + n)
  | 0, _ => h
  | n + 1, hn => gT_step (T := T + n) (gT_steps h n (by omega)) (by omega)
theorem touch_10 (g : Nat → Int32) (b : Int32) : touchG g b 10 = g 10 := by
  unfold touchG
  rw [upd_ne (by omega), upd_ne (by omega)]
theorem gT_touch {g : Nat → Int32} {T : Nat} (h : gT g T) (b : Int32) : gT (touchG g b) T := by
  unfold gT at h ⊢
  rw [touch_10]
  exact h
/-! the angle goes round -/
theorem xor_neg (x y : Int32) (hy : 0 ≤ y.toInt) : x ^^^ y < 0 ↔ x < 0 := by
  have e0 : (0 : Int32).toInt = 0 := by decide
  rw [tI_lt, tI_lt, e0]
  have h1 : ∀ z : Int32, z.toInt < 0 ↔ z.toBitVec.msb = true := by
    intro z
    rw [BitVec.msb_eq_toInt]
    exact (decide_eq_true_iff).symm
  rw [h1, h1, Int32.toBitVec_xor, BitVec.msb_xor]
  have h2 : y.toBitVec.msb = false := by
    cases hm : y.toBitVec.msb with
    | false => rfl
    | true => exact absurd ((h1 y).mpr hm) (by omega)
  rw [h2, Bool.xor_false]
theorem small_rem {x : Int32} (h1 : -1200 < x.toInt) (h2 : x.toInt < 1200) : xrem x 1200 = x := by
  have e2 : (1200 : Int32).toInt = 1200 := by decide
  have e3 : x / 1200 = 0 := by
    rw [tI_eq, tI_div (by omega), e2]
    show x.toInt.tdiv 1200 = 0
    by_cases h : x.toInt < 0
    · rw [← Int.neg_neg x.toInt, Int.neg_tdiv, Int.tdiv_eq_ediv_of_nonneg (by omega)]
      omega
    · rw [Int.tdiv_eq_ediv_of_nonneg (by omega)]
      omega
  unfold xrem
  rw [e3, Int32.zero_mul]
  exact Int32.sub_zero _
theorem fm_eq {g : Nat → Int32} (hg : gI g) : fmodI (g 5 + slowG g) 1200 = xrem (g 5 + slowG g + 1200) 1200 := by
  have hp : -600 ≤ (slowG g).toInt ∧ (slowG g).toInt ≤ 600 := held_in _
  have h5 := hg.h5
  have e0 : (0 : Int32).toInt = 0 := by decide
  have e2 : (1200 : Int32).toInt = 1200 := by decide
  have e3 : (g 5 + slowG g).toInt = (g 5).toInt + (slowG g).toInt := tI_add (by omega) (by omega)
  generalize g 5 + slowG g = x at e3 ⊢
  have e4 : (x + 1200).toInt = x.toInt + 1200 := by rw [tI_add (by omega) (by omega), e2]
  unfold fmodI
  by_cases hx : x < 0
  · rw [if_pos ((xor_neg x 1200 (by decide)).mpr hx)]
    rw [tI_lt, e0] at hx
    rw [small_rem (by omega) (by omega), if_neg, small_rem (by omega) (by omega)]
    intro h
    rw [tI_eq, e0] at h
    omega
  · rw [if_neg (fun h => hx ((xor_neg x 1200 (by decide)).mp h))]
    rw [tI_lt, e0] at hx
    obtain ⟨a, ha, rfl⟩ := nI_is (x := x) (by omega) (n := 1799) (by omega) (by decide)
    have r1 : xrem (nI a) 1200 = nI (a % 1200) := pk_rem (by omega) (by decide) (by decide)
    have r2 : nI a + 1200 = nI (a + 1200) := nI_add a 1200
    have r3 : xrem (nI (a + 1200)) 1200 = nI ((a + 1200) % 1200) := pk_rem (by omega) (by decide) (by decide)
    have r4 : (a + 1200) % 1200 = a % 1200 := by omega
    rw [r1, r2, r3, r4]
theorem heavy_pos {g : Nat → Int32} (hg : gI g) : 0 < 100 * g 3 := by
  have h3 := hg.h3
  have e0 : (0 : Int32).toInt = 0 := by decide
  have e1 : (100 : Int32).toInt = 100 := by decide
  rw [tI_lt, tI_mul (by rw [e1]; omega) (by rw [e1]; omega), e0, e1]
  omega
theorem heavy_ne {g : Nat → Int32} (hg : gI g) : ¬ 100 * g 3 = 0 := by
  have h := heavy_pos hg
  intro e
  rw [e] at h
  exact absurd h (by decide)
/-! a turn -/
theorem way_cases {x : Int32} (h : -1 ≤ x.toInt ∧ x.toInt ≤ 1) : x = -1 ∨ x = 0 ∨ x = 1 := by
  have e1 : ((-1 : Int32)).toInt = -1 := by decide
  have e2 : ((0 : Int32)).toInt = 0 := by decide
  have e3 : ((1 : Int32)).toInt = 1 := by decide
  rw [tI_eq, tI_eq, tI_eq, e1, e2, e3]
  omega
theorem turns_iff {g : Nat → Int32} (hg : gI g) : cmpI (g 4) 0 * g 6 < 0 ↔ turnsQ g := by
  have e2 : ((0 : Int32)).toInt = 0 := by decide
  unfold turnsQ cmpI
  rcases way_cases hg.h6 with e | e | e <;> rw [e]
  · by_cases h1 : g 4 < 0
    · rw [if_pos h1]
      have h2 : ¬ 0 < g 4 := by rw [tI_lt] at h1 ⊢; omega
      simp [h2]
    · rw [if_neg h1]
      by_cases h3 : g 4 = 0
      · rw [if_pos h3, h3]
        simp
      · rw [if_neg h3]
        have h2 : 0 < g 4 := by rw [tI_lt] at h1 ⊢; rw [tI_eq] at h3; omega
        simp [h2]
  · simp
  · by_cases h1 : g 4 < 0
    · rw [if_pos h1]
      simp [h1]
    · rw [if_neg h1]
      by_cases h3 : g 4 = 0
      · rw [if_pos h3, h3]
        simp
      · rw [if_neg h3]
        simp [h1]
theorem abs_eq {x : Int32} : (if 0 ≤ x then x else 0 - x) = absG x := by
  unfold absG
  by_cases h : x < 0
  · rw [if_pos h, if_neg (by rw [Int32.not_le]; exact h)]
    exact Int32.zero_sub x
  · rw [if_neg h, if_pos (Int32.not_lt.mp h)]
theorem log_4 (g : Nat → Int32) : logG g 4 = g 4 := by
  unfold logG logT
  rw [upd_ne (by omega), upd_ne (by omega)]
  split
  · rw [upd_ne (by omega), upd_ne (by omega)]
  · rfl
theorem note_A {g : Nat → Int32} {z : Int32} (e : z = g 4) (h : cmpI z 0 = 0) : upd g 11 (if g 11 < absG (g 4) then absG (g 4) else g 11) = noteG g := by
  subst e
  have h4 : g 4 = 0 := by
    unfold cmpI at h
    split at h
    · cases h
    · split at h
      · assumption
      · cases h
  unfold noteG
  rw [if_pos h4]
  have e2 : upd g 11 (if g 11 < absG (g 4) then absG (g 4) else g 11) 6 = g 6 := upd_ne (by decide)
  rw [← e2, upd_self]
theorem note_B {g : Nat → Int32} {z : Int32} (e : z = g 4) (h : ¬ cmpI z 0 = 0) : upd (upd g 11 (if g 11 < absG (g 4) then absG (g 4) else g 11)) 6 (cmpI z 0) = noteG g := by
  subst e
  have h4 : ¬ g 4 = 0 := by
    intro h4
    apply h
    rw [h4]
    decide
  unfold noteG
  rw [if_neg h4]
  rfl
theorem touch_A {g : Nat → Int32} {b : Int32} (h : heldG (g 4 + b) = 0) : upd g 4 (heldG (g 4 + b)) = touchG g b := by
  unfold touchG
  rw [if_pos h]
  have e2 : upd g 4 (heldG (g 4 + b)) 6 = g 6 := upd_ne (by decide)
  rw [← e2, upd_self]
theorem touch_B {g : Nat → Int32} {b : Int32} (h : ¬ heldG (g 4 + b) = 0) : upd (upd g 4 (heldG (g 4 + b))) 6 (cmpI (heldG (g 4 + b)) 0) = touchG g b := by
  unfold touchG
  rw [if_neg h]
  rfl
theorem turn_in {x : Int32} (h : rng x 0 39) : vp_in x 40 := by
  have h1 := rng_iff.mp h
  have e2 : ((0 : Int32)).toInt = 0 := by decide
  have e3 : ((39 : Int32)).toInt = 39 := by decide
  exact vp_in_iff.mpr ⟨by omega, by omega⟩
theorem logT_A {g : Nat → Int32} (h : rng (g 10) 0 39) : upd (upd (upd g (44 + 2 * (g 10).toNatClampNeg) (g 9)) (45 + 2 * (g 10).toNatClampNeg) (g 11)) 10 (g 10 + 1) = logT g := by
  have h1 := rng_iff.mp h
  have e2 : ((40 : Int32)).toInt = 40 := by decide
  have e3 : ((39 : Int32)).toInt = 39 := by decide
  unfold logT
  rw [if_pos (by rw [tI_lt]; omega)]
theorem logT_B {g : Nat → Int32} (h0 : 0 ≤ (g 10).toInt) (h : ¬ rng (g 10) 0 39) : upd g 10 (g 10 + 1) = logT g := by
  have e2 : ((40 : Int32)).toInt = 40 := by decide
  have e3 : ((39 : Int32)).toInt = 39 := by decide
  have e4 : ((0 : Int32)).toInt = 0 := by decide
  unfold logT
  rw [if_neg]
  intro h1
  apply h
  rw [rng_iff]
  rw [tI_lt] at h1
  omega
/-! how it goes -/
def stillI (g : Nat → Int32) (h : Nat) : Nat → Int32
  | 0 => 1
  | m + 1 => if ¬ stillI g h m = 0 ∧ stepsG g (h + m + 1) 4 = 0 then 1 else 0
def goesG (g : Nat → Int32) (n : Nat) : Int32 := if ¬ stillI g (n / 2) (n - n / 2) = 0 then 0 else if stepsG g n 10 = g 10 then 1 else if stepsG g n 10 = stepsG g (n / 2) 10 then 2 else 3
theorem steps_add (g : Nat → Int32) (a : Nat) : ∀ b, stepsG (stepsG g a) b = stepsG g (a + b)
  | 0 => rfl
  | b + 1 => by
    show stepG (stepsG (stepsG g a) b) = stepG (stepsG g (a + b))
    rw [steps_add g a b]
/-! what a wheel becomes: the places of a wheel -/
def mixG (a b : Nat → Int32) : Nat → Int32 := fun i => if i < 12 ∨ (20 ≤ i ∧ i < 124) then a i else b i
end
