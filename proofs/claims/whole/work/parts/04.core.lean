/-! THE WORLD: 94 cells, told by a table; ints in banks σ b i, longs τ a -/
abbrev xE : Type := va_G × (Nat → ClassId) × (Nat → Nat) × (Nat → Nat) × (Nat → Nat) × (Nat → Nat)
def xD (E : xE) : va_G := E.1
def xcA (E : xE) (k : Nat) : ClassId := E.2.1 k
def xad (E : xE) (k : Nat) : Nat := E.2.2.1 k
def xst (E : xE) (k : Nat) : Nat := E.2.2.2.1 k
def xsK (E : xE) : Nat → Nat := E.2.2.2.2.1
def xsV (E : xE) : Nat → Nat := E.2.2.2.2.2
abbrev xDs : Type := Nat × List (Nat × Nat × Nat)
def xdl : List xDs := [
  (7, [(0, 1, 0), (0, 28, 0), (1, 6, 0), (0, 57, 0), (0, 55, 0), (0, 58, 0), (0, 59, 0), (0, 65, 0), (0, 71, 0), (0, 72, 0)]),
  (3, [(0, 2, 0), (0, 8, 0), (1, 0, 13), (0, 9, 0), (1, 0, 12)]),
  (6, [(0, 3, 0), (0, 4, 0), (0, 5, 0), (0, 6, 0), (0, 7, 0), (1, 0, 4), (1, 0, 5), (1, 0, 6), (1, 0, 7), (1, 0, 8), (1, 0, 9), (1, 0, 10), (1, 0, 11)]),
  (9, [(4, 0, 0), (1, 0, 0)]),
  (9, [(12, 0, 32), (1, 0, 0)]),
  (9, [(12, 0, 20), (1, 0, 0)]),
  (9, [(40, 0, 44), (2, 0, 0)]),
  (9, [(40, 0, 45), (2, 0, 0)]),
  (10, [(6, 10, 3)]),
  (9, [(10, 0, 124), (1, 0, 0)]),
  (0, [(0, 11, 0), (0, 12, 0), (1, 0, 134)]),
  (9, [(12, 0, 135), (2, 0, 0)]),
  (9, [(12, 0, 136), (2, 0, 0)]),
  (0, [(0, 14, 0), (0, 15, 0), (1, 0, 159)]),
  (9, [(12, 0, 160), (2, 0, 0)]),
  (9, [(12, 0, 161), (2, 0, 0)]),
  (0, [(0, 17, 0), (0, 18, 0), (1, 0, 184)]),
  (9, [(12, 0, 185), (2, 0, 0)]),
  (9, [(12, 0, 186), (2, 0, 0)]),
  (0, [(0, 20, 0), (0, 21, 0), (1, 0, 209)]),
  (9, [(12, 0, 210), (2, 0, 0)]),
  (9, [(12, 0, 211), (2, 0, 0)]),
  (0, [(0, 23, 0), (0, 24, 0), (1, 0, 234)]),
  (9, [(12, 0, 235), (2, 0, 0)]),
  (9, [(12, 0, 236), (2, 0, 0)]),
  (0, [(0, 26, 0), (0, 27, 0), (1, 0, 259)]),
  (9, [(12, 0, 260), (2, 0, 0)]),
  (9, [(12, 0, 261), (2, 0, 0)]),
  (3, [(0, 29, 0), (0, 35, 0), (1, 1, 13), (0, 36, 0), (1, 1, 12)]),
  (6, [(0, 30, 0), (0, 31, 0), (0, 32, 0), (0, 33, 0), (0, 34, 0), (1, 1, 4), (1, 1, 5), (1, 1, 6), (1, 1, 7), (1, 1, 8), (1, 1, 9), (1, 1, 10), (1, 1, 11)]),
  (9, [(4, 1, 0), (1, 0, 0)]),
  (9, [(12, 1, 32), (1, 0, 0)]),
  (9, [(12, 1, 20), (1, 0, 0)]),
  (9, [(40, 1, 44), (2, 0, 0)]),
  (9, [(40, 1, 45), (2, 0, 0)]),
  (10, [(6, 37, 3)]),
  (9, [(10, 1, 124), (1, 0, 0)]),
  (0, [(0, 38, 0), (0, 39, 0), (1, 1, 134)]),
  (9, [(12, 1, 135), (2, 0, 0)]),
  (9, [(12, 1, 136), (2, 0, 0)]),
  (0, [(0, 41, 0), (0, 42, 0), (1, 1, 159)]),
  (9, [(12, 1, 160), (2, 0, 0)]),
  (9, [(12, 1, 161), (2, 0, 0)]),
  (0, [(0, 44, 0), (0, 45, 0), (1, 1, 184)]),
  (9, [(12, 1, 185), (2, 0, 0)]),
  (9, [(12, 1, 186), (2, 0, 0)]),
  (0, [(0, 47, 0), (0, 48, 0), (1, 1, 209)]),
  (9, [(12, 1, 210), (2, 0, 0)]),
  (9, [(12, 1, 211), (2, 0, 0)]),
  (0, [(0, 50, 0), (0, 51, 0), (1, 1, 234)]),
  (9, [(12, 1, 235), (2, 0, 0)]),
  (9, [(12, 1, 236), (2, 0, 0)]),
  (0, [(0, 53, 0), (0, 54, 0), (1, 1, 259)]),
  (9, [(12, 1, 260), (2, 0, 0)]),
  (9, [(12, 1, 261), (2, 0, 0)]),
  (4, [(0, 56, 0), (1, 6, 1)]),
  (9, [(100, 5, 0), (1, 0, 0)]),
  (5, [(0, 55, 0), (1, 6, 2), (1, 6, 3), (1, 6, 4), (1, 6, 5)]),
  (11, [(4, 73, 2)]),
  (6, [(0, 60, 0), (0, 61, 0), (0, 62, 0), (0, 63, 0), (0, 64, 0), (1, 2, 4), (1, 2, 5), (1, 2, 6), (1, 2, 7), (1, 2, 8), (1, 2, 9), (1, 2, 10), (1, 2, 11)]),
  (9, [(4, 2, 0), (1, 0, 0)]),
  (9, [(12, 2, 32), (1, 0, 0)]),
  (9, [(12, 2, 20), (1, 0, 0)]),
  (9, [(40, 2, 44), (2, 0, 0)]),
  (9, [(40, 2, 45), (2, 0, 0)]),
  (6, [(0, 66, 0), (0, 67, 0), (0, 68, 0), (0, 69, 0), (0, 70, 0), (1, 3, 4), (1, 3, 5), (1, 3, 6), (1, 3, 7), (1, 3, 8), (1, 3, 9), (1, 3, 10), (1, 3, 11)]),
  (9, [(4, 3, 0), (1, 0, 0)]),
  (9, [(12, 3, 32), (1, 0, 0)]),
  (9, [(12, 3, 20), (1, 0, 0)]),
  (9, [(40, 3, 44), (2, 0, 0)]),
  (9, [(40, 3, 45), (2, 0, 0)]),
  (2, [(2, 0, 0), (2, 1, 0), (2, 2, 0)]),
  (9, [(7, 4, 0), (1, 0, 0)]),
  (1, [(0, 74, 0), (1, 7, 0), (1, 8, 0)]),
  (9, [(40, 9, 0), (1, 0, 0)]),
  (1, [(0, 76, 0), (1, 7, 1), (1, 8, 1)]),
  (9, [(40, 9, 40), (1, 0, 0)]),
  (1, [(0, 78, 0), (1, 7, 2), (1, 8, 2)]),
  (9, [(40, 9, 80), (1, 0, 0)]),
  (1, [(0, 80, 0), (1, 7, 3), (1, 8, 3)]),
  (9, [(40, 9, 120), (1, 0, 0)]),
  (8, [(0, 82, 0), (0, 83, 0), (0, 84, 0), (0, 85, 0), (1, 17, 0), (0, 86, 0), (0, 87, 0), (0, 88, 0), (1, 17, 1), (1, 17, 2), (1, 17, 3), (1, 17, 4), (2, 3, 0), (1, 17, 5), (1, 17, 6), (0, 89, 0), (0, 90, 0), (0, 91, 0), (0, 92, 0), (0, 93, 0)]),
  (9, [(284, 10, 0), (1, 0, 0)]),
  (9, [(284, 11, 0), (1, 0, 0)]),
  (9, [(284, 12, 0), (1, 0, 0)]),
  (9, [(284, 13, 0), (1, 0, 0)]),
  (9, [(7, 14, 0), (1, 0, 0)]),
  (9, [(12, 15, 0), (1, 0, 0)]),
  (9, [(100, 16, 0), (1, 0, 0)]),
  (9, [(3, 22, 0), (1, 0, 0)]),
  (9, [(4, 18, 0), (1, 0, 0)]),
  (9, [(4, 19, 0), (1, 0, 0)]),
  (9, [(160, 20, 0), (1, 0, 0)]),
  (9, [(40, 21, 0), (1, 0, 0)])]
def xd (k : Nat) : xDs := xdl.getD k (12, [])
def xv (E : xE) (σ : Nat → Nat → Int32) (τ : Nat → Int64) (q : Nat × Nat × Nat) : Value := match q.1 with
  | 0 => .ref (xad E q.2.1)
  | 1 => .int (σ q.2.1 q.2.2)
  | 2 => .long (τ q.2.1)
  | _ => .null
def xtr (n : Nat) (f : Nat → Int32) : Nat → Int32 := fun j => if j < n then f j else 0
def xq (d : xDs) (i : Nat) : Nat × Nat × Nat := d.2.getD i (0, 0, 0)
def xce (E : xE) (σ : Nat → Nat → Int32) (τ : Nat → Int64) (d : xDs) : va_E :=
  if d.1 < 9 then .inr (d.1, d.2.map (xv E σ τ))
  else if d.1 = 9 then .inl (xcA E 0, (xq d 0).1, .inl (xtr (xq d 0).1 (fun j => σ (xq d 0).2.1 ((xq d 0).2.2 + (xq d 1).1 * j))))
  else .inl (xcA E (d.1 - 9), (xq d 0).1, .inr (.inr (.inr (.inr (fun j => some (xad E ((xq d 0).2.1 + (xq d 0).2.2 * j)))))))
def xw (E : xE) (σ : Nat → Nat → Int32) (τ : Nat → Int64) : va_W := (List.range 94).map fun k => (xad E k, xce E σ τ (xd k))
theorem xw_at {E : xE} {σ : Nat → Nat → Int32} {τ : Nat → Int64} {k : Nat} (h : k < 94) : (xw E σ τ)[k]? = some (xad E k, xce E σ τ (xd k)) := by
  unfold xw
  rw [List.getElem?_map, List.getElem?_range h]
  rfl
theorem xw_len {E : xE} {σ : Nat → Nat → Int32} {τ : Nat → Int64} : (xw E σ τ).length = 94 := by
  unfold xw
  rw [List.length_map, List.length_range]
theorem xw_of {E : xE} {σ : Nat → Nat → Int32} {τ : Nat → Int64} {k : Nat} {q : Nat × va_E} (h : (xw E σ τ)[k]? = some q) : k < 94 ∧ q = (xad E k, xce E σ τ (xd k)) := by
  have hk : k < 94 := by
    have h1 := (List.getElem?_eq_some_iff.mp h).1
    rw [xw_len] at h1
    exact h1
  rw [xw_at hk] at h
  exact ⟨hk, (Option.some.inj h).symm⟩
def xP (E : xE) (σ : Nat → Nat → Int32) (τ : Nat → Int64) (H : Heap) : Prop := va_P (xD E) vwCl (xw E σ τ) H
def xI (E : xE) (A : Nat → Prop) : Prop := (∀ i j, i < 94 → j < 94 → xad E i = xad E j → i = j) ∧ ∀ i, i < 94 → A (xad E i)
theorem xI.D {E : xE} {A : Nat → Prop} {σ : Nat → Nat → Int32} {τ : Nat → Int64} (h : xI E A) : va_D A (xw E σ τ) := by
  refine ⟨fun i j p q hi hj e => ?_, fun k q hk => ?_⟩
  · obtain ⟨a1, rfl⟩ := xw_of hi
    obtain ⟨b1, rfl⟩ := xw_of hj
    exact h.1 i j a1 b1 e
  · obtain ⟨a1, rfl⟩ := xw_of hk
    exact h.2 k a1
def xA (E : xE) : Nat → Prop := fun q => ∃ k, k < 94 ∧ xad E k = q
theorem xI.self {E : xE} {A : Nat → Prop} (h : xI E A) : xI E (xA E) := ⟨h.1, fun i hi => ⟨i, hi, rfl⟩⟩
theorem xI.sub {E : xE} {A : Nat → Prop} (h : xI E A) : ∀ q, xA E q → A q := fun q hq => by
  obtain ⟨k, hk, rfl⟩ := hq
  exact h.2 k hk
def xtys (E : xE) : List (ClassId × FieldType) := [(xcA E 0, .int), (xcA E 1, .object "LeakCups$Program"), (xcA E 2, .object "LeakCups$Sheet")]
def xK (E : xE) (U : State) : Prop := va_K (xD E) vwCl (xtys E) U
theorem xP.set {E : xE} {σ σ' : Nat → Nat → Int32} {τ τ' : Nat → Int64} {H1 : Heap} {k : Nat} {e : va_E} (hk : k < 94) (h : va_P (xD E) vwCl ((xw E σ τ).set k (xad E k, e)) H1) (he : va_at (xD E) vwCl (xad E k, e) H1 → va_at (xD E) vwCl (xad E k, xce E σ' τ' (xd k)) H1) (ho : ∀ j, j < 94 → j ≠ k → xce E σ' τ' (xd j) = xce E σ τ (xd j)) : xP E σ' τ' H1 := by
  have hl : k < (xw E σ τ).length := by rw [xw_len]; exact hk
  intro j q hj
  obtain ⟨a1, rfl⟩ := xw_of hj
  by_cases hjk : j = k
  · subst hjk
    exact he (h j _ (List.getElem?_set_self hl))
  · have h1 := h j (xad E j, xce E σ τ (xd j)) (by rw [List.getElem?_set_ne (Ne.symm hjk)]; exact xw_at a1)
    rw [ho j a1 hjk]
    exact h1
theorem xP.alter {E : xE} {σ σ' : Nat → Nat → Int32} {τ τ' : Nat → Int64} {H : Heap} (h : xP E σ τ H) (ho : ∀ j, j < 94 → xce E σ' τ' (xd j) = xce E σ τ (xd j)) : xP E σ' τ' H := by
  intro j q hj
  obtain ⟨a1, rfl⟩ := xw_of hj
  rw [ho j a1]
  exact h j _ (xw_at a1)
/-- is place i of bank b in this cell? -/
def xin (d : xDs) (b i : Nat) : Bool := if d.1 < 9 then d.2.any (fun q => q.1 == 1 && (q.2.1 == b && q.2.2 == i)) else if d.1 = 9 then ((xq d 0).2.1 == b && (decide ((xq d 0).2.2 ≤ i) && ((i - (xq d 0).2.2) % (xq d 1).1 == 0 && decide ((i - (xq d 0).2.2) / (xq d 1).1 < (xq d 0).1)))) else false
/-- is long a in this cell? -/
def xinL (d : xDs) (a : Nat) : Bool := if d.1 < 9 then d.2.any (fun q => q.1 == 2 && q.2.1 == a) else false
theorem xidx {o st j n : Nat} (hj : j < n) : o ≤ o + st * j ∧ (o + st * j - o) % st = 0 ∧ (o + st * j - o) / st < n := by
  refine ⟨Nat.le_add_right _ _, ?_, ?_⟩
  · rw [Nat.add_sub_cancel_left, Nat.mul_mod_right]
  · rw [Nat.add_sub_cancel_left]
    by_cases hs : st = 0
    · subst hs
      rw [Nat.div_zero]
      omega
    · rw [Nat.mul_div_cancel_left _ (Nat.pos_of_ne_zero hs)]
      exact hj
theorem xin_arr {d : xDs} (h9 : d.1 = 9) {j : Nat} (hj : j < (xq d 0).1) : xin d (xq d 0).2.1 ((xq d 0).2.2 + (xq d 1).1 * j) = true := by
  obtain ⟨h1, h2, h3⟩ := xidx (o := (xq d 0).2.2) (st := (xq d 1).1) hj
  unfold xin
  rw [if_neg (by omega), if_pos h9]
  simp only [Bool.and_eq_true, beq_iff_eq, decide_eq_true_eq]
  exact ⟨trivial, h1, h2, h3⟩
theorem xce_agree {E : xE} {σ σ' : Nat → Nat → Int32} {τ τ' : Nat → Int64} {d : xDs} (h : ∀ b i, xin d b i = true → σ' b i = σ b i) (hL : ∀ a, xinL d a = true → τ' a = τ a) : xce E σ' τ' d = xce E σ τ d := by
  unfold xce
  by_cases h1 : d.1 < 9
  · rw [if_pos h1, if_pos h1]
    have e : d.2.map (xv E σ' τ') = d.2.map (xv E σ τ) := by
      apply List.map_congr_left
      intro q hq
      obtain ⟨t, a, b⟩ := q
      match t, hq with
      | 0, _ => rfl
      | 1, hq =>
        show Value.int _ = Value.int _
        rw [h a b (by unfold xin; rw [if_pos h1]; exact List.any_eq_true.mpr ⟨_, hq, by simp⟩)]
      | 2, hq =>
        show Value.long _ = Value.long _
        rw [hL a (by unfold xinL; rw [if_pos h1]; exact List.any_eq_true.mpr ⟨_, hq, by simp⟩)]
      | n + 3, _ => rfl
    rw [e]
  · rw [if_neg h1, if_neg h1]
    by_cases h2 : d.1 = 9
    · rw [if_pos h2, if_pos h2]
      have e : xtr (xq d 0).1 (fun j => σ' (xq d 0).2.1 ((xq d 0).2.2 + (xq d 1).1 * j)) = xtr (xq d 0).1 (fun j => σ (xq d 0).2.1 ((xq d 0).2.2 + (xq d 1).1 * j)) := by
        funext j
        unfold xtr
        by_cases hj : j < (xq d 0).1
        · rw [if_pos hj, if_pos hj]
          exact h _ _ (xin_arr h2 hj)
        · rw [if_neg hj, if_neg hj]
      rw [e]
    · rw [if_neg h2, if_neg h2]
/-- the places of a cell -/
def xslots (d : xDs) : List (Nat × Nat) := if d.1 < 9 then d.2.filterMap (fun q => if q.1 = 1 then some (q.2.1, q.2.2) else none) else if d.1 = 9 then (List.range (xq d 0).1).map (fun j => ((xq d 0).2.1, (xq d 0).2.2 + (xq d 1).1 * j)) else []
theorem xslots_in {d : xDs} {b i : Nat} (h : xin d b i = true) : (b, i) ∈ xslots d := by
  unfold xin at h
  unfold xslots
  by_cases h1 : d.1 < 9
  · rw [if_pos h1] at h ⊢
    obtain ⟨q, hq, h2⟩ := List.any_eq_true.mp h
    simp only [Bool.and_eq_true, beq_iff_eq] at h2
    exact List.mem_filterMap.mpr ⟨q, hq, by rw [if_pos h2.1, h2.2.1, h2.2.2]⟩
  · rw [if_neg h1] at h ⊢
    by_cases h2 : d.1 = 9
    · rw [if_pos h2] at h ⊢
      simp only [Bool.and_eq_true, beq_iff_eq, decide_eq_true_eq] at h
      obtain ⟨e1, e2, e3, e4⟩ := h
      refine List.mem_map.mpr ⟨(i - (xq d 0).2.2) / (xq d 1).1, List.mem_range.mpr e4, ?_⟩
      rw [Nat.mul_div_cancel' (Nat.dvd_of_mod_eq_zero e3), e1]
      congr 1
      omega
    · rw [if_neg h2] at h
      cases h
/-- the cell that place i of bank b belongs to -/
def xow (b i : Nat) : Nat :=
  if b < 2 then (if i < 4 then 3 else if i < 12 then 2 else if i < 14 then 1 else if i < 32 then 5 else if i < 44 then 4 else if i < 124 then 6 + (i - 44) % 2 else if i < 134 then 9 else if (i - 134) % 25 = 0 then 10 + 3 * ((i - 134) / 25) else 12 - ((i - 134) % 25) % 2 + 3 * ((i - 134) / 25)) + 27 * b
  else if b < 4 then (if i < 4 then 60 else if i < 12 then 59 else if i < 32 then 62 else if i < 44 then 61 else 63 + (i - 44) % 2) + 6 * (b - 2)
  else if b = 6 then (if i = 0 then 0 else if i = 1 then 55 else 57)
  else if b < 9 then (if b = 4 then 72 else if b = 5 then 56 else 73 + 2 * i)
  else if b = 9 then 74 + 2 * (i / 40)
  else if b < 17 then 72 + b
  else if b = 17 then 81
  else if b = 22 then 89 else 72 + b
theorem xow0 : (xdl.zipIdx.all fun p => (xslots p.1).all fun w => xow w.1 w.2 == p.2) = true := by decide +kernel
theorem xdl_len : xdl.length = 94 := by decide +kernel
theorem xd_zip {k : Nat} (hk : k < 94) : (xd k, k) ∈ xdl.zipIdx := by
  have hl : k < xdl.length := by rw [xdl_len]; exact hk
  refine List.mem_iff_getElem?.mpr ⟨k, ?_⟩
  rw [List.getElem?_zipIdx]
  unfold xd
  rw [List.getD_eq_getElem?_getD, List.getElem?_eq_getElem hl]
  simp
theorem xow_of {k b i : Nat} (hk : k < 94) (h : xin (xd k) b i = true) : xow b i = k := by
  have h1 := List.all_eq_true.mp (List.all_eq_true.mp xow0 _ (xd_zip hk)) _ (xslots_in h)
  simpa using h1
theorem xsep {k j b i : Nat} (hk : k < 94) (hj : j < 94) (hne : j ≠ k) (h : xin (xd k) b i = true) : xin (xd j) b i = false := by
  cases hx : xin (xd j) b i with
  | false => rfl
  | true => exact absurd ((xow_of hj hx).symm.trans (xow_of hk h)) hne
def xowL (a : Nat) : Nat := if a < 3 then 71 else 81
theorem xowL0 : (xdl.zipIdx.all fun p => p.1.1 ≥ 9 || p.1.2.all fun w => w.1 != 2 || xowL w.2.1 == p.2) = true := by decide +kernel
theorem xowL_of {k a : Nat} (hk : k < 94) (h : xinL (xd k) a = true) : xowL a = k := by
  unfold xinL at h
  by_cases h1 : (xd k).1 < 9
  · rw [if_pos h1] at h
    obtain ⟨q, hq, h2⟩ := List.any_eq_true.mp h
    have h3 := List.all_eq_true.mp xowL0 _ (xd_zip hk)
    have h4 : ¬ 9 ≤ (xd k).1 := by omega
    simp only [ge_iff_le, h4, decide_false, Bool.false_or] at h3
    have h5 := List.all_eq_true.mp h3 _ hq
    simp only [Bool.and_eq_true, beq_iff_eq] at h2
    rw [h2.1, h2.2] at h5
    simpa using h5
  · rw [if_neg h1] at h
    cases h
theorem xinL_mem {k a z : Nat} (h9 : (xd k).1 < 9) (h : (2, a, z) ∈ (xd k).2) : xinL (xd k) a = true := by
  unfold xinL
  rw [if_pos h9]
  exact List.any_eq_true.mpr ⟨_, h, by simp⟩
theorem xsepL {k j a : Nat} (hk : k < 94) (hj : j < 94) (hne : j ≠ k) (h9 : (xd k).1 < 9) (h : (2, a, 0) ∈ (xd k).2) : xinL (xd j) a = false := by
  cases hx : xinL (xd j) a with
  | false => rfl
  | true => exact absurd ((xowL_of hj hx).symm.trans (xowL_of hk (xinL_mem h9 h))) hne
theorem xL0 : (xdl.all fun d => d.1 ≥ 9 || d.2.all fun w => w.1 != 2 || w.2.2 == 0) = true := by decide +kernel
/-- an object's places are apart -/
theorem xnd0 : (xdl.all fun d => (List.range d.2.length).all fun i => (List.range d.2.length).all fun j => i == j || d.2.getD i (0, 0, 0) != d.2.getD j (0, 0, 0)) = true := by decide +kernel
theorem xd_mem {k : Nat} (hk : k < 94) : xd k ∈ xdl := by
  have h := xd_zip hk
  obtain ⟨i, hi⟩ := List.mem_iff_getElem?.mp h
  rw [List.getElem?_zipIdx] at hi
  cases hx : xdl[i]? with
  | none => rw [hx] at hi; cases hi
  | some y =>
    rw [hx] at hi
    have := Option.some.inj hi
    rw [← (Prod.mk.inj this).1]
    exact List.mem_of_getElem? hx
theorem xnd {k i j : Nat} {q : Nat × Nat × Nat} (hk : k < 94) (hi : (xd k).2[i]? = some q) (hj : (xd k).2[j]? = some q) : i = j := by
  have h := List.all_eq_true.mp xnd0 _ (xd_mem hk)
  have li := (List.getElem?_eq_some_iff.mp hi).1
  have lj := (List.getElem?_eq_some_iff.mp hj).1
  have h2 := List.all_eq_true.mp (List.all_eq_true.mp h i (List.mem_range.mpr li)) j (List.mem_range.mpr lj)
  rw [List.getD_eq_getElem?_getD, List.getD_eq_getElem?_getD, hi, hj] at h2
  simpa using h2
def u2 (σ : Nat → Nat → Int32) (b i : Nat) (x : Int32) : Nat → Nat → Int32 := va_up σ b (upd (σ b) i x)
theorem u2_at (σ : Nat → Nat → Int32) (b i : Nat) (x : Int32) : u2 σ b i x b i = x := by
  unfold u2
  rw [va_up_self]
  simp [upd]
theorem u2_ne {σ : Nat → Nat → Int32} {b i c j : Nat} {x : Int32} (h : ¬ (c = b ∧ j = i)) : u2 σ b i x c j = σ c j := by
  unfold u2
  by_cases hc : c = b
  · subst hc
    rw [va_up_self]
    have : j ≠ i := fun e => h ⟨rfl, e⟩
    simp [upd, this]
  · rw [va_up_ne _ _ hc]
theorem u2_bank (σ : Nat → Nat → Int32) (b : Nat) (g : Nat → Int32) (i : Nat) (x : Int32) : u2 (va_up σ b g) b i x = va_up σ b (upd g i x) := by
  unfold u2
  rw [va_up_self]
  funext c
  by_cases hc : c = b <;> simp [va_up, hc]
theorem xother {E : xE} {σ : Nat → Nat → Int32} {τ : Nat → Int64} {k b i : Nat} {x : Int32} (hk : k < 94) (h : xin (xd k) b i = true) : ∀ j, j < 94 → j ≠ k → xce E (u2 σ b i x) τ (xd j) = xce E σ τ (xd j) := by
  intro j hj hne
  refine xce_agree (fun c n hn => u2_ne ?_) (fun _ _ => rfl)
  rintro ⟨rfl, rfl⟩
  rw [xsep hk hj hne h] at hn
  cases hn
/-- what a method may take as given of the start -/
def xzc (i : Nat) : String := ["LeakCups$Wheel", "LeakCups$Wheel", "LeakCups$Program", "LeakCups$Program", "LeakCups$Wheel"].getD i ""
def xzn (i : Nat) : String := ["ROOM", "LEVER", "LEAST", "MOST", "KIND_ABOVE"].getD i ""
def xzl (i : Nat) : List Int32 := [[999, 999, 999, 999, 200, 500, 200], [0, 50, 87, 100, 87, 50, 0, -50, -87, -100, -87, -50], [0, 0, 0, 0, 0, 0, 0, 0, 0, 0, 1, 0, 1], [11, 11, 11, 11, 11, 11, 11, 99, 99, 99, 99, 200, 50], [-1, 0, 0, 0, 2, 3, 4]].getD i []
def xsB : List (List Int32) := [[99, 117, 112], [115, 101, 97, 108, 101, 100], [99, 114, 97, 99, 107, 101, 100], [100, 101, 101, 112], [115, 109, 97, 108, 108], [116, 105, 112, 112, 105, 110, 103], [114, 111, 112, 101, 100], [116, 97, 112], [108, 101, 97, 107], [114, 117, 98], [104, 101, 97, 118, 121], [116, 111, 117, 99, 104], [119, 97, 105, 116]]
def xsLn : List Nat := [3, 6, 7, 4, 5, 7, 5, 3, 4, 3, 5, 5, 4]
def xsTx : List String := ["cup", "sealed", "cracked", "deep", "small", "tipping", "roped", "tap", "leak", "rub", "heavy", "touch", "wait"]
def xZ (E : xE) (A : Nat → Prop) (U : State) (H : Heap) : Prop :=
  (∀ i, i < 5 → va_Z (xzc i) (xzn i) "[I" (.ref (xst E i)) A U H ∧ va_T .int (xst E i) (xzl i).length (fun j => .int ((xzl i).getD j 0)) A U H) ∧
  vk_S 13 xsLn xsB (xsK E) (xsV E) A U H ∧
  (∀ own k i, i < 13 → Cond.stringRef own k (xsTx.getD i "") ∈ lw_tbl → vk_R own k (xsTx.getD i "") (xsK E i) U) ∧
  (∀ a i x h, Cond.methodLinkNest a i x h ∈ lw_tbl → va_Nw (.methodLinkNest a i x h) U) ∧
  va_Z "java/lang/String" "COMPACT_STRINGS" "Z" (.int 1) A U H ∧ va_Zq "jdk/internal/util/Preconditions" "SIOOBE_FORMATTER" "Ljava/util/function/BiFunction;" A U H
theorem xZ.go {E : xE} {A : Nat → Prop} {s U : State} {H : Heap} {locs : List Loc} (h : xZ E A s s.heap) (hS : va_S A s.heap H locs) (hW : s.WarmedH U.vm) (hI : ∀ q, xA E q → A q) : xZ E (xA E) U H := by
  obtain ⟨h1, h2, h3, h4, h5, h6⟩ := h
  refine ⟨fun i hi => ⟨((va_Z.moved hW.alike (h1 i hi).1).kept hS.2.1).narrow hI, ((va_T.moved hW.alike (h1 i hi).2).kept hS.2.1).narrow hI⟩, ((vk_S.moved hW.alike h2).kept hS.2.1).narrow hI, fun own k i hi hm => vk_R.warm hW (h3 own k i hi hm), fun a i x h hm => va_Nw.warmM hW (h4 a i x h hm), ((va_Z.moved hW.alike h5).kept hS.2.1).narrow hI, ((va_Zq.moved hW.alike h6).kept hS.2.1).narrow hI⟩
theorem xZ.calling {E : xE} {A : Nat → Prop} {U : State} {a : Array Value} {g : JFrame} {mk : MethodId} (h : xZ E A U U.heap) : xZ E A (U.calling g mk a) (U.calling g mk a).heap := by
  obtain ⟨h1, h2, h3, h4, h5, h6⟩ := h
  have hv : U.vm.Alike (U.calling g mk a).vm := Vm.Alike.refl U.vm
  exact ⟨fun i hi => ⟨va_Z.moved hv (h1 i hi).1, va_T.moved hv (h1 i hi).2⟩, vk_S.moved hv h2, fun own k i hi hm => vk_R.same (u := U) rfl (h3 own k i hi hm), fun b i x h hm => va_Nw.same rfl (u := U) rfl (h4 b i x h hm), va_Z.moved hv h5, va_Zq.moved hv h6⟩
def xG (E : xE) (σ : Nat → Nat → Int32) (τ : Nat → Int64) (U : State) : Prop := xP E σ τ U.heap ∧ xK E U ∧ xI E (xA E) ∧ xZ E (xA E) U U.heap
theorem xG.blind {E : xE} {σ : Nat → Nat → Int32} {τ : Nat → Int64} {av : List Value} : FrameBlind (va_Pc av (xG E σ τ)) := by
  intro a U g mk q
  obtain ⟨q0, q1, q2, q3, q4⟩ := q
  exact ⟨q0, q1, va_K.moved (u := U) (U := U.calling g mk a) (Vm.Alike.refl U.vm) q2, q3, q4.calling⟩
