/-! what the start gives: static tables, texts -/
abbrev gvL : List Cond := flatC (Jvm.Cond.and given_1 narrow_1)
def stT (i : Nat) : Term := .static (xzc i) (xzn i) "[I"
def stTm (i : Nat) : Term := .string "LeakCups$Program" (53 + 2 * i)
def mdI (i : Nat) : Nat := [170, 176, 178, 180, 182, 184, 186, 188, 190, 192, 194, 196, 198].getD i 0
def mdTm (i : Nat) : Term := .string "LeakCupsModel" (mdI i)
def stV (i : Nat) : Term := .field (stTm i) "java/lang/String" "value" "[B"
theorem gv_1 : ∀ i, i < 5 → Cond.arrayOf (stT i) .int ∈ gvL ∧ Cond.eq (.length (stT i)) (.int (Int32.ofNat (xzl i).length)) ∈ gvL ∧ Cond.laysStatic (xzc i) (xzn i) "[I" ∈ lw_tbl ∧ Cond.initialized (xzc i) ∈ lw_tbl ∧ (xzl i).length < 2 ^ 31 := by decide +kernel
theorem gv_2 : ∀ i, i < 5 → ∀ j, j < (xzl i).length → Cond.eq (.elem (stT i) (.int (Int32.ofNat j))) (.int ((xzl i).getD j 0)) ∈ gvL := by decide +kernel
theorem gv_3 : ∀ i, i < 13 → Cond.exactly (stTm i) "java/lang/String" ∈ gvL ∧ Cond.eq (.field (stTm i) "java/lang/String" "coder" "B") (.int 0) ∈ gvL ∧ Cond.arrayOf (stV i) .byte ∈ gvL ∧ Cond.eq (.length (stV i)) (.int (Int32.ofNat (xsLn.getD i 0))) ∈ gvL ∧ Cond.exactly (mdTm i) "java/lang/String" ∈ gvL ∧ Cond.eq (stTm i) (mdTm i) ∈ gvL := by decide +kernel
theorem gv_4 : ∀ i, i < 13 → ∀ j, j < xsLn.getD i 0 → Cond.eq (.elem (stV i) (.int (Int32.ofNat j))) (.int ((xsB.getD i []).getD j 0)) ∈ gvL := by decide +kernel
theorem gv_5 : Cond.eq (.static "java/lang/String" "COMPACT_STRINGS" "Z") (.int 1) ∈ gvL ∧ Cond.isRef (.static "jdk/internal/util/Preconditions" "SIOOBE_FORMATTER" "Ljava/util/function/BiFunction;") ∈ gvL ∧ Cond.laysStatic "java/lang/String" "COMPACT_STRINGS" "Z" ∈ lw_tbl ∧ Cond.initialized "java/lang/String" ∈ lw_tbl ∧ Cond.laysStatic "jdk/internal/util/Preconditions" "SIOOBE_FORMATTER" "Ljava/util/function/BiFunction;" ∈ lw_tbl ∧ Cond.initialized "jdk/internal/util/Preconditions" ∈ lw_tbl := by decide +kernel
def strP (own : String) (k : Nat) (tx : String) : Bool := (List.range 13).any (fun i => tx == xsTx.getD i "" && ((own == "LeakCups$Program" && k == 53 + 2 * i) || (own == "LeakCupsModel" && k == mdI i)))
theorem gv_6 : (lw_tbl.all fun w => match w with | .stringRef own k tx => strP own k tx | _ => true) = true := by decide +kernel
theorem gv_7 : ∀ i, i < 13 → ∀ j, j < 13 → xsTx.getD i "" = xsTx.getD j "" → i = j := by decide +kernel
theorem gv_8 : ∀ i, i < 13 → ∀ j, j < 13 → i = j ∨ ¬ Int32.ofNat (xsLn.getD i 0) = Int32.ofNat (xsLn.getD j 0) ∨ ∃ k, k < xsLn.getD i 0 ∧ k < xsLn.getD j 0 ∧ ¬ (xsB.getD i []).getD k 0 = (xsB.getD j []).getD k 0 := by decide +kernel
theorem gv_9 : ∀ i, i < 13 → xsLn.getD i 0 < 2 ^ 31 := by decide +kernel
theorem st_eqT {args : Array Value} {s : State} {t u : Term} {a b : Nat} (h : (Cond.eq t u).before args s = true) (ht : t.eval args s none [] s = some (.ref a)) (hu : u.eval args s none [] s = some (.ref b)) : a = b := by
  simp [Cond.before, Cond.holds, Cond.value, ht, hu] at h
  exact h
theorem st_xZ {b : Nat} {s : State} (hts : ∀ w ∈ lw_tbl, w.before #[Value.ref b] s = true) (hg : ∀ w ∈ gvL, w.before #[Value.ref b] s = true) (A : Nat → Prop) (hA : ∀ a : Nat, a < s.heap.size → ¬ A a) : ∃ (xt xk xv : Nat → Nat), ∀ (D : va_G) (cA : Nat → ClassId) (ad : Nat → Nat), xZ (D, cA, ad, xt, xk, xv) A s s.heap := by
  have h1 : ∀ i : Nat, ∃ t : Nat, i < 5 → va_Z (xzc i) (xzn i) "[I" (.ref t) A s s.heap ∧ va_T .int t (xzl i).length (fun j => .int ((xzl i).getD j 0)) A s s.heap := by
    intro i
    by_cases hi : i < 5
    · obtain ⟨a1, a2, a3, a4, a5⟩ := gv_1 i hi
      obtain ⟨t, ht, hT⟩ := va_Tof (f := fun j => .int ((xzl i).getD j 0)) (A := A) a5 (hg _ a1) (va_eqt (hg _ a2)) (fun j hj => va_eqt (hg _ (gv_2 i hi j hj))) hA
      exact ⟨t, fun _ => ⟨va_Zof (hts _ a3) (hts _ a4) ht hA, hT⟩⟩
    · exact ⟨0, fun h => absurd h hi⟩
  have h2 : ∀ i : Nat, ∃ q : Nat × Nat, i < 13 → (stTm i).eval #[Value.ref b] s none [] s = some (.ref q.1) ∧ va_O "java/lang/String" q.1 A s s.heap ∧ va_OF "java/lang/String" "coder" "B" (.int 0) q.1 A s s.heap ∧ va_OF "java/lang/String" "value" "[B" (.ref q.2) q.1 A s s.heap ∧ va_T .byte q.2 (xsLn.getD i 0) (fun j => .int ((xsB.getD i []).getD j 0)) A s s.heap := by
    intro i
    by_cases hi : i < 13
    · obtain ⟨a1, a2, a3, a4, a5, a6⟩ := gv_3 i hi
      obtain ⟨a, c, cell, kA, q1, q2, q3, q4, q5, q6, -⟩ := Cond.exactly_spec (hg _ a1)
      obtain ⟨t, ht, hT⟩ := va_Tof (f := fun j => .int ((xsB.getD i []).getD j 0)) (A := A) (gv_9 i hi) (hg _ a3) (va_eqt (hg _ a4)) (fun j hj => va_eqt (hg _ (gv_4 i hi j hj))) hA
      exact ⟨(a, t), fun _ => ⟨q1, ⟨cell, q3, q5, by rw [q6]; exact q2, hA a (Array.getElem?_eq_some_iff.mp q3).1⟩, vk_OFof q1 (va_eqt (hg _ a2)) hA, vk_OFof q1 ht hA, hT⟩⟩
    · exact ⟨(0, 0), fun h => absurd h hi⟩
  obtain ⟨xt, hxt⟩ := Classical.axiomOfChoice h1
  obtain ⟨kv, hkv⟩ := Classical.axiomOfChoice h2
  refine ⟨xt, fun i => (kv i).1, fun i => (kv i).2, fun D cA ad => ⟨fun i hi => hxt i hi, ⟨fun i hi => (hkv i hi).2, fun i j hi hj e => ?_⟩, fun own k i hi hm => ?_, fun a i x h hm => va_Nw.of rfl (hts _ hm), ?_, ?_⟩⟩
  · obtain ⟨_, _, _, ⟨cf, k, fi, f, cell, u1, u2, u3, u4, u5, u6⟩, ⟨ci, v1, v2, v3, v4, v5, v6, v7⟩⟩ := hkv i hi
    obtain ⟨_, _, _, ⟨cf', k', fi', f', cell', u1', u2', u3', u4', u5', u6'⟩, ⟨ci', v1', v2', v3', v4', v5', v6', v7'⟩⟩ := hkv j hj
    cases u1.symm.trans u1'
    rw [show (kv j).1 = (kv i).1 from e.symm] at u3'
    cases u3.symm.trans u3'
    have e2 : (kv i).2 = (kv j).2 := by
      exact Value.ref.inj (Option.some.inj (u5.symm.trans u5'))
    rw [← e2] at v1'
    cases v1.symm.trans v1'
    rcases gv_8 i hi j hj with h | h | ⟨m, m1, m2, m3⟩
    · exact h
    · exact absurd (v5.symm.trans v5') h
    · have := (v6 m m1).symm.trans (v6' m m2)
      exact absurd (Value.int.inj (Option.some.inj this)) m3
  · refine vk_R.of (hts _ hm) ?_
    have h3 := List.all_eq_true.mp gv_6 _ hm
    obtain ⟨j, hj, h4⟩ := List.any_eq_true.mp h3
    rw [List.mem_range] at hj
    simp only [Bool.and_eq_true, Bool.or_eq_true, beq_iff_eq] at h4
    obtain ⟨h5, h6⟩ := h4
    have e := gv_7 i hi j hj h5
    subst e
    obtain ⟨a1, a2, a3, a4, a5, a6⟩ := gv_3 i hi
    rcases h6 with ⟨rfl, rfl⟩ | ⟨rfl, rfl⟩
    · exact (hkv i hi).1
    · obtain ⟨a, c, cell, kA, q1, -⟩ := Cond.exactly_spec (hg _ a5)
      have e := st_eqT (hg _ a6) (hkv i hi).1 q1
      show (mdTm i).eval _ _ _ _ _ = some (.ref (kv i).1)
      rw [e]
      exact q1
  · exact va_Zof (hts _ gv_5.2.2.1) (hts _ gv_5.2.2.2.1) (va_eqi (hg _ gv_5.1)) hA
  · exact va_Zqof (hts _ gv_5.2.2.2.2.1) (hts _ gv_5.2.2.2.2.2) (hg _ gv_5.2.1) hA
