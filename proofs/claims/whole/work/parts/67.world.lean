/-! the world behind the two constructors -/
def s0g : Nat → Int32 := fun i => if i = 0 then 10 else if i = 1 then 5 else if i = 2 then 10 else if i = 3 then 10 else if i = 12 then 1 else if 124 ≤ i ∧ i < 134 then -1 else 0
def s0 : xV := fun b => if b < 4 then s0g else if b = 10 then s0g else if b = 15 then (fun i => (xzl 1).getD i 0) else (fun _ => 0)
def t0 : Nat → Int64 := fun _ => 0
def wl (cI cP cS : ClassId) (b1 b2 : Nat) (q1 q2 : Nat → Nat) : va_W := (([] : va_W) ++ lcL cI cP cS b1 q1) ++ mdL cI b2 q2
def wad (b1 b2 : Nat) (q1 q2 : Nat → Nat) : Nat → Nat := fun k => if k = 0 then b1 else if k < 55 then q1 k else if k < 57 then q1 (k + 1) else if k = 57 then q1 55 else if k = 58 then q1 0 else if k < 81 then q1 (k - 1) else if k = 81 then b2 else q2 (k - 82)
def wcA (cI cP cS : ClassId) : Nat → ClassId := fun k => if k = 0 then cI else if k = 1 then cP else cS
def wpos (k : Nat) : Nat := if k = 0 then 0 else if k < 55 then k + 1 else if k < 57 then k + 2 else if k = 57 then 56 else if k = 58 then 1 else k
theorem wpos_inj : ∀ i, i < 94 → ∀ j, j < 94 → wpos i = wpos j → i = j := by decide +kernel
/-- the address and the cell at a place of the list are those that the table tells -/
def wOK (D : va_G) (E : xE) (x : Option (Nat × va_E)) (k : Nat) : Prop := ∃ e : va_E, x = some (xad E k, e) ∧ ∀ H : Heap, va_at D vwCl (xad E k, e) H → va_at D vwCl (xad E k, xce E s0 t0 (xd k)) H
theorem wOK_o {D : va_G} {E : xE} {x : Option (Nat × va_E)} {k ci a : Nat} {fs : List (Nat × Nat × Nat)} {vs : List Value} (hd : xd k = (ci, fs)) (h9 : ci < 9) (h : x = some (a, .inr (ci, vs))) (ha : xad E k = a) (hv : fs.map (xv E s0 t0) = vs) : wOK D E x k := by
  subst ha
  subst hv
  refine ⟨_, h, fun H h1 => ?_⟩
  rw [hd]
  unfold xce
  rw [if_pos h9]
  exact h1
theorem yarr_i {cA : ClassId} {n : Nat} {f g : Nat → Int32} (h : ∀ j, j < n → f j = g j) : vp_cell cA (n, .inl f) = vp_cell cA (n, .inl g) := by
  rw [vp_cell_i, vp_cell_i]
  unfold arrV
  congr 2
  funext j
  exact congrArg Value.int (h j.1 j.2)
theorem yarr_q {cA : ClassId} {n : Nat} {f g : Nat → Option Nat} (h : ∀ j, j < n → f j = g j) : vp_cell cA (n, .inr (.inr (.inr (.inr f)))) = vp_cell cA (n, .inr (.inr (.inr (.inr g)))) := by
  rw [vp_cell_q, vp_cell_q]
  unfold arrV
  congr 2
  funext j
  exact congrArg va_rf (h j.1 j.2)
theorem wOK_i {D : va_G} {E : xE} {x : Option (Nat × va_E)} {k n b o st : Nat} {f : Nat → Int32} (hd : xd k = (9, [(n, b, o), (st, 0, 0)])) {a : Nat} {cA : ClassId} (h : x = some (a, .inl (cA, n, .inl f))) (ha : xad E k = a) (hA : xcA E 0 = cA) (hf : ∀ j, j < n → f j = s0 b (o + st * j)) : wOK D E x k := by
  subst ha
  subst hA
  refine ⟨_, h, fun H h1 => ?_⟩
  rw [hd]
  show H[xad E k]? = some (vp_cell (xcA E 0) (n, .inl (xtr n (fun j => s0 b (o + st * j)))))
  have h2 : H[xad E k]? = some (vp_cell (xcA E 0) (n, .inl f)) := h1
  rw [h2]
  refine congrArg some (yarr_i fun j hj => ?_)
  unfold xtr
  rw [if_pos hj]
  exact hf j hj
theorem wOK_q {D : va_G} {E : xE} {x : Option (Nat × va_E)} {k n t o st : Nat} {f : Nat → Option Nat} (ht : 9 < 9 + t) (hd : xd k = (9 + t, [(n, o, st)])) {a : Nat} {cA : ClassId} (h : x = some (a, .inl (cA, n, .inr (.inr (.inr (.inr f)))))) (ha : xad E k = a) (hA : xcA E t = cA) (hf : ∀ j, j < n → f j = some (xad E (o + st * j))) : wOK D E x k := by
  subst ha
  subst hA
  refine ⟨_, h, fun H h1 => ?_⟩
  rw [hd]
  have e : xce E s0 t0 (9 + t, [(n, o, st)]) = .inl (xcA E t, n, .inr (.inr (.inr (.inr (fun j => some (xad E (o + st * j))))))) := by
    unfold xce
    rw [if_neg (show ¬ 9 + t < 9 by omega), if_neg (show ¬ 9 + t = 9 by omega)]
    show Sum.inl (xcA E (9 + t - 9), _) = _
    rw [Nat.add_sub_cancel_left]
    rfl
  rw [e]
  show H[xad E k]? = some (vp_cell (xcA E t) (n, .inr (.inr (.inr (.inr (fun j => some (xad E (o + st * j))))))))
  have h2 : H[xad E k]? = some (vp_cell (xcA E t) (n, .inr (.inr (.inr (.inr f))))) := h1
  rw [h2]
  exact congrArg some (yarr_q hf)

def wlx (cI cP cS : ClassId) (b1 b2 : Nat) (q1 q2 : Nat → Nat) : va_W := [
  (b1, .inr (7, [.ref (q1 1), .ref (q1 28), .int 0, .ref (q1 55), .ref ((q1 56)), .ref (q1 0), .ref (q1 58), .ref (q1 64), .ref (q1 70), .ref (q1 71)])),
  ((q1 0), .inl (cS, 4, .inr (.inr (.inr (.inr (va_up (va_up (va_up (va_up (fun _ => none) 0 (some (q1 72))) 1 (some (q1 74))) 2 (some (q1 76))) 3 (some (q1 78)))))))),
  ((q1 1), .inr (3, [.ref (q1 2), .ref (q1 8), .int 0, .ref (q1 9), .int 1])),
  ((q1 2), .inr (6, [.ref (q1 3), .ref (q1 4), .ref (q1 5), .ref (q1 6), .ref (q1 7), .int 0, .int 0, .int 0, .int 0, .int 0, .int 0, .int 0, .int 0])),
  ((q1 3), .inl (cI, 4, .inl (upd (upd (upd (upd (fun _ => 0) 0 10) 1 5) 2 10) 3 10))),
  ((q1 4), .inl (cI, 12, .inl (fun _ => 0))),
  ((q1 5), .inl (cI, 12, .inl (fun _ => 0))),
  ((q1 6), .inl (cI, 40, .inl (fun _ => 0))),
  ((q1 7), .inl (cI, 40, .inl (fun _ => 0))),
  ((q1 8), .inl (cP, 6, .inr (.inr (.inr (.inr (va_up (va_up (va_up (va_up (va_up (va_up (fun _ => none) 0 (some (q1 10))) 1 (some (q1 13))) 2 (some (q1 16))) 3 (some (q1 19))) 4 (some (q1 22))) 5 (some (q1 25)))))))),
  ((q1 9), .inl (cI, 10, .inl (upd (upd (upd (upd (upd (upd (upd (upd (upd (upd (fun _ => 0) 0 (-1)) 1 (-1)) 2 (-1)) 3 (-1)) 4 (-1)) 5 (-1)) 6 (-1)) 7 (-1)) 8 (-1)) 9 (-1)))),
  ((q1 10), .inr (0, [.ref (q1 11), .ref (q1 12), .int 0])),
  ((q1 11), .inl (cI, 12, .inl (fun _ => 0))),
  ((q1 12), .inl (cI, 12, .inl (fun _ => 0))),
  ((q1 13), .inr (0, [.ref (q1 14), .ref (q1 15), .int 0])),
  ((q1 14), .inl (cI, 12, .inl (fun _ => 0))),
  ((q1 15), .inl (cI, 12, .inl (fun _ => 0))),
  ((q1 16), .inr (0, [.ref (q1 17), .ref (q1 18), .int 0])),
  ((q1 17), .inl (cI, 12, .inl (fun _ => 0))),
  ((q1 18), .inl (cI, 12, .inl (fun _ => 0))),
  ((q1 19), .inr (0, [.ref (q1 20), .ref (q1 21), .int 0])),
  ((q1 20), .inl (cI, 12, .inl (fun _ => 0))),
  ((q1 21), .inl (cI, 12, .inl (fun _ => 0))),
  ((q1 22), .inr (0, [.ref (q1 23), .ref (q1 24), .int 0])),
  ((q1 23), .inl (cI, 12, .inl (fun _ => 0))),
  ((q1 24), .inl (cI, 12, .inl (fun _ => 0))),
  ((q1 25), .inr (0, [.ref (q1 26), .ref (q1 27), .int 0])),
  ((q1 26), .inl (cI, 12, .inl (fun _ => 0))),
  ((q1 27), .inl (cI, 12, .inl (fun _ => 0))),
  ((q1 28), .inr (3, [.ref (q1 29), .ref (q1 35), .int 0, .ref (q1 36), .int 1])),
  ((q1 29), .inr (6, [.ref (q1 30), .ref (q1 31), .ref (q1 32), .ref (q1 33), .ref (q1 34), .int 0, .int 0, .int 0, .int 0, .int 0, .int 0, .int 0, .int 0])),
  ((q1 30), .inl (cI, 4, .inl (upd (upd (upd (upd (fun _ => 0) 0 10) 1 5) 2 10) 3 10))),
  ((q1 31), .inl (cI, 12, .inl (fun _ => 0))),
  ((q1 32), .inl (cI, 12, .inl (fun _ => 0))),
  ((q1 33), .inl (cI, 40, .inl (fun _ => 0))),
  ((q1 34), .inl (cI, 40, .inl (fun _ => 0))),
  ((q1 35), .inl (cP, 6, .inr (.inr (.inr (.inr (va_up (va_up (va_up (va_up (va_up (va_up (fun _ => none) 0 (some (q1 37))) 1 (some (q1 40))) 2 (some (q1 43))) 3 (some (q1 46))) 4 (some (q1 49))) 5 (some (q1 52)))))))),
  ((q1 36), .inl (cI, 10, .inl (upd (upd (upd (upd (upd (upd (upd (upd (upd (upd (fun _ => 0) 0 (-1)) 1 (-1)) 2 (-1)) 3 (-1)) 4 (-1)) 5 (-1)) 6 (-1)) 7 (-1)) 8 (-1)) 9 (-1)))),
  ((q1 37), .inr (0, [.ref (q1 38), .ref (q1 39), .int 0])),
  ((q1 38), .inl (cI, 12, .inl (fun _ => 0))),
  ((q1 39), .inl (cI, 12, .inl (fun _ => 0))),
  ((q1 40), .inr (0, [.ref (q1 41), .ref (q1 42), .int 0])),
  ((q1 41), .inl (cI, 12, .inl (fun _ => 0))),
  ((q1 42), .inl (cI, 12, .inl (fun _ => 0))),
  ((q1 43), .inr (0, [.ref (q1 44), .ref (q1 45), .int 0])),
  ((q1 44), .inl (cI, 12, .inl (fun _ => 0))),
  ((q1 45), .inl (cI, 12, .inl (fun _ => 0))),
  ((q1 46), .inr (0, [.ref (q1 47), .ref (q1 48), .int 0])),
  ((q1 47), .inl (cI, 12, .inl (fun _ => 0))),
  ((q1 48), .inl (cI, 12, .inl (fun _ => 0))),
  ((q1 49), .inr (0, [.ref (q1 50), .ref (q1 51), .int 0])),
  ((q1 50), .inl (cI, 12, .inl (fun _ => 0))),
  ((q1 51), .inl (cI, 12, .inl (fun _ => 0))),
  ((q1 52), .inr (0, [.ref (q1 53), .ref (q1 54), .int 0])),
  ((q1 53), .inl (cI, 12, .inl (fun _ => 0))),
  ((q1 54), .inl (cI, 12, .inl (fun _ => 0))),
  ((q1 55), .inr (5, [.ref (q1 56), .int 0, .int 0, .int 0, .int 0])),
  ((q1 56), .inr (4, [.ref (q1 57), .int 0])),
  ((q1 57), .inl (cI, 100, .inl (fun _ => 0))),
  ((q1 58), .inr (6, [.ref (q1 59), .ref (q1 60), .ref (q1 61), .ref (q1 62), .ref (q1 63), .int 0, .int 0, .int 0, .int 0, .int 0, .int 0, .int 0, .int 0])),
  ((q1 59), .inl (cI, 4, .inl (upd (upd (upd (upd (fun _ => 0) 0 10) 1 5) 2 10) 3 10))),
  ((q1 60), .inl (cI, 12, .inl (fun _ => 0))),
  ((q1 61), .inl (cI, 12, .inl (fun _ => 0))),
  ((q1 62), .inl (cI, 40, .inl (fun _ => 0))),
  ((q1 63), .inl (cI, 40, .inl (fun _ => 0))),
  ((q1 64), .inr (6, [.ref (q1 65), .ref (q1 66), .ref (q1 67), .ref (q1 68), .ref (q1 69), .int 0, .int 0, .int 0, .int 0, .int 0, .int 0, .int 0, .int 0])),
  ((q1 65), .inl (cI, 4, .inl (upd (upd (upd (upd (fun _ => 0) 0 10) 1 5) 2 10) 3 10))),
  ((q1 66), .inl (cI, 12, .inl (fun _ => 0))),
  ((q1 67), .inl (cI, 12, .inl (fun _ => 0))),
  ((q1 68), .inl (cI, 40, .inl (fun _ => 0))),
  ((q1 69), .inl (cI, 40, .inl (fun _ => 0))),
  ((q1 70), .inr (2, [.long 0, .long 0, .long 0])),
  ((q1 71), .inl (cI, 7, .inl (fun _ => 0))),
  ((q1 72), .inr (1, [.ref (q1 73), .int 0, .int 0])),
  ((q1 73), .inl (cI, 40, .inl (fun _ => 0))),
  ((q1 74), .inr (1, [.ref (q1 75), .int 0, .int 0])),
  ((q1 75), .inl (cI, 40, .inl (fun _ => 0))),
  ((q1 76), .inr (1, [.ref (q1 77), .int 0, .int 0])),
  ((q1 77), .inl (cI, 40, .inl (fun _ => 0))),
  ((q1 78), .inr (1, [.ref (q1 79), .int 0, .int 0])),
  ((q1 79), .inl (cI, 40, .inl (fun _ => 0))),
  (b2, .inr (8, [.ref (q2 0), .ref (q2 1), .ref (q2 2), .ref (q2 3), .int 0, .ref (q2 4), .ref (q2 5), .ref (q2 6), .int 0, .int 0, .int 0, .int 0, .long 0, .int 0, .int 0, .ref (q2 7), .ref (q2 8), .ref (q2 9), .ref (q2 10), .ref (q2 11)])),
  ((q2 0), .inl (cI, 284, .inl (upd (upd (upd (upd (upd (upd (upd (upd (upd (upd (upd (upd (upd (upd (upd (fun _ => 0) 0 10) 1 5) 2 10) 3 10) 12 1) 124 (-1)) 125 (-1)) 126 (-1)) 127 (-1)) 128 (-1)) 129 (-1)) 130 (-1)) 131 (-1)) 132 (-1)) 133 (-1)))),
  ((q2 1), .inl (cI, 284, .inl (fun _ => 0))),
  ((q2 2), .inl (cI, 284, .inl (fun _ => 0))),
  ((q2 3), .inl (cI, 284, .inl (fun _ => 0))),
  ((q2 4), .inl (cI, 7, .inl (fun _ => 0))),
  ((q2 5), .inl (cI, 12, .inl (upd (upd (upd (upd (upd (upd (upd (upd (upd (upd (upd (upd (fun _ => 0) 0 0) 1 50) 2 87) 3 100) 4 87) 5 50) 6 0) 7 (-50)) 8 (-87)) 9 (-100)) 10 (-87)) 11 (-50)))),
  ((q2 6), .inl (cI, 100, .inl (fun _ => 0))),
  ((q2 7), .inl (cI, 3, .inl (fun _ => 0))),
  ((q2 8), .inl (cI, 4, .inl (fun _ => 0))),
  ((q2 9), .inl (cI, 4, .inl (fun _ => 0))),
  ((q2 10), .inl (cI, 160, .inl (fun _ => 0))),
  ((q2 11), .inl (cI, 40, .inl (fun _ => 0)))]
set_option maxHeartbeats 4000000 in
set_option maxRecDepth 100000 in
theorem wl_eq (cI cP cS : ClassId) (b1 b2 : Nat) (q1 q2 : Nat → Nat) : wl cI cP cS b1 b2 q1 q2 = wlx cI cP cS b1 b2 q1 q2 := by
  simp only [wl, wlx, lcL, stL, whL, prL, shL, taL, reL, ruL, mdL, yapp, ysn, List.nil_append, List.cons_append, List.append_assoc, Nat.reduceAdd]
theorem w_0 (D : va_G) (cI cP cS : ClassId) (b1 b2 : Nat) (q1 q2 : Nat → Nat) (xt xk xv : Nat → Nat) : wOK D (D, wcA cI cP cS, wad b1 b2 q1 q2, xt, xk, xv) ((wlx cI cP cS b1 b2 q1 q2)[0]?) 0 := wOK_o xd_0 (by decide) rfl rfl rfl
theorem w_1 (D : va_G) (cI cP cS : ClassId) (b1 b2 : Nat) (q1 q2 : Nat → Nat) (xt xk xv : Nat → Nat) : wOK D (D, wcA cI cP cS, wad b1 b2 q1 q2, xt, xk, xv) ((wlx cI cP cS b1 b2 q1 q2)[2]?) 1 := wOK_o xd_1 (by decide) rfl rfl rfl
theorem w_2 (D : va_G) (cI cP cS : ClassId) (b1 b2 : Nat) (q1 q2 : Nat → Nat) (xt xk xv : Nat → Nat) : wOK D (D, wcA cI cP cS, wad b1 b2 q1 q2, xt, xk, xv) ((wlx cI cP cS b1 b2 q1 q2)[3]?) 2 := wOK_o xd_2 (by decide) rfl rfl rfl
theorem w_3 (D : va_G) (cI cP cS : ClassId) (b1 b2 : Nat) (q1 q2 : Nat → Nat) (xt xk xv : Nat → Nat) : wOK D (D, wcA cI cP cS, wad b1 b2 q1 q2, xt, xk, xv) ((wlx cI cP cS b1 b2 q1 q2)[4]?) 3 := wOK_i xd_3 rfl rfl rfl (by decide +kernel)
theorem w_4 (D : va_G) (cI cP cS : ClassId) (b1 b2 : Nat) (q1 q2 : Nat → Nat) (xt xk xv : Nat → Nat) : wOK D (D, wcA cI cP cS, wad b1 b2 q1 q2, xt, xk, xv) ((wlx cI cP cS b1 b2 q1 q2)[5]?) 4 := wOK_i xd_4 rfl rfl rfl (by decide +kernel)
theorem w_5 (D : va_G) (cI cP cS : ClassId) (b1 b2 : Nat) (q1 q2 : Nat → Nat) (xt xk xv : Nat → Nat) : wOK D (D, wcA cI cP cS, wad b1 b2 q1 q2, xt, xk, xv) ((wlx cI cP cS b1 b2 q1 q2)[6]?) 5 := wOK_i xd_5 rfl rfl rfl (by decide +kernel)
theorem w_6 (D : va_G) (cI cP cS : ClassId) (b1 b2 : Nat) (q1 q2 : Nat → Nat) (xt xk xv : Nat → Nat) : wOK D (D, wcA cI cP cS, wad b1 b2 q1 q2, xt, xk, xv) ((wlx cI cP cS b1 b2 q1 q2)[7]?) 6 := wOK_i xd_6 rfl rfl rfl (by decide +kernel)
theorem w_7 (D : va_G) (cI cP cS : ClassId) (b1 b2 : Nat) (q1 q2 : Nat → Nat) (xt xk xv : Nat → Nat) : wOK D (D, wcA cI cP cS, wad b1 b2 q1 q2, xt, xk, xv) ((wlx cI cP cS b1 b2 q1 q2)[8]?) 7 := wOK_i xd_7 rfl rfl rfl (by decide +kernel)
theorem w_8 (D : va_G) (cI cP cS : ClassId) (b1 b2 : Nat) (q1 q2 : Nat → Nat) (xt xk xv : Nat → Nat) : wOK D (D, wcA cI cP cS, wad b1 b2 q1 q2, xt, xk, xv) ((wlx cI cP cS b1 b2 q1 q2)[9]?) 8 := wOK_q (t := 1) (by decide) xd_8 rfl rfl rfl (fun j hj => match j, hj with | 0, _ => rfl | 1, _ => rfl | 2, _ => rfl | 3, _ => rfl | 4, _ => rfl | 5, _ => rfl | m + 6, h => absurd h (by omega))
theorem w_9 (D : va_G) (cI cP cS : ClassId) (b1 b2 : Nat) (q1 q2 : Nat → Nat) (xt xk xv : Nat → Nat) : wOK D (D, wcA cI cP cS, wad b1 b2 q1 q2, xt, xk, xv) ((wlx cI cP cS b1 b2 q1 q2)[10]?) 9 := wOK_i xd_9 rfl rfl rfl (by decide +kernel)
theorem w_10 (D : va_G) (cI cP cS : ClassId) (b1 b2 : Nat) (q1 q2 : Nat → Nat) (xt xk xv : Nat → Nat) : wOK D (D, wcA cI cP cS, wad b1 b2 q1 q2, xt, xk, xv) ((wlx cI cP cS b1 b2 q1 q2)[11]?) 10 := wOK_o xd_10 (by decide) rfl rfl rfl
theorem w_11 (D : va_G) (cI cP cS : ClassId) (b1 b2 : Nat) (q1 q2 : Nat → Nat) (xt xk xv : Nat → Nat) : wOK D (D, wcA cI cP cS, wad b1 b2 q1 q2, xt, xk, xv) ((wlx cI cP cS b1 b2 q1 q2)[12]?) 11 := wOK_i xd_11 rfl rfl rfl (by decide +kernel)
theorem w_12 (D : va_G) (cI cP cS : ClassId) (b1 b2 : Nat) (q1 q2 : Nat → Nat) (xt xk xv : Nat → Nat) : wOK D (D, wcA cI cP cS, wad b1 b2 q1 q2, xt, xk, xv) ((wlx cI cP cS b1 b2 q1 q2)[13]?) 12 := wOK_i xd_12 rfl rfl rfl (by decide +kernel)
theorem w_13 (D : va_G) (cI cP cS : ClassId) (b1 b2 : Nat) (q1 q2 : Nat → Nat) (xt xk xv : Nat → Nat) : wOK D (D, wcA cI cP cS, wad b1 b2 q1 q2, xt, xk, xv) ((wlx cI cP cS b1 b2 q1 q2)[14]?) 13 := wOK_o xd_13 (by decide) rfl rfl rfl
theorem w_14 (D : va_G) (cI cP cS : ClassId) (b1 b2 : Nat) (q1 q2 : Nat → Nat) (xt xk xv : Nat → Nat) : wOK D (D, wcA cI cP cS, wad b1 b2 q1 q2, xt, xk, xv) ((wlx cI cP cS b1 b2 q1 q2)[15]?) 14 := wOK_i xd_14 rfl rfl rfl (by decide +kernel)
theorem w_15 (D : va_G) (cI cP cS : ClassId) (b1 b2 : Nat) (q1 q2 : Nat → Nat) (xt xk xv : Nat → Nat) : wOK D (D, wcA cI cP cS, wad b1 b2 q1 q2, xt, xk, xv) ((wlx cI cP cS b1 b2 q1 q2)[16]?) 15 := wOK_i xd_15 rfl rfl rfl (by decide +kernel)
theorem w_16 (D : va_G) (cI cP cS : ClassId) (b1 b2 : Nat) (q1 q2 : Nat → Nat) (xt xk xv : Nat → Nat) : wOK D (D, wcA cI cP cS, wad b1 b2 q1 q2, xt, xk, xv) ((wlx cI cP cS b1 b2 q1 q2)[17]?) 16 := wOK_o xd_16 (by decide) rfl rfl rfl
theorem w_17 (D : va_G) (cI cP cS : ClassId) (b1 b2 : Nat) (q1 q2 : Nat → Nat) (xt xk xv : Nat → Nat) : wOK D (D, wcA cI cP cS, wad b1 b2 q1 q2, xt, xk, xv) ((wlx cI cP cS b1 b2 q1 q2)[18]?) 17 := wOK_i xd_17 rfl rfl rfl (by decide +kernel)
theorem w_18 (D : va_G) (cI cP cS : ClassId) (b1 b2 : Nat) (q1 q2 : Nat → Nat) (xt xk xv : Nat → Nat) : wOK D (D, wcA cI cP cS, wad b1 b2 q1 q2, xt, xk, xv) ((wlx cI cP cS b1 b2 q1 q2)[19]?) 18 := wOK_i xd_18 rfl rfl rfl (by decide +kernel)
theorem w_19 (D : va_G) (cI cP cS : ClassId) (b1 b2 : Nat) (q1 q2 : Nat → Nat) (xt xk xv : Nat → Nat) : wOK D (D, wcA cI cP cS, wad b1 b2 q1 q2, xt, xk, xv) ((wlx cI cP cS b1 b2 q1 q2)[20]?) 19 := wOK_o xd_19 (by decide) rfl rfl rfl
theorem w_20 (D : va_G) (cI cP cS : ClassId) (b1 b2 : Nat) (q1 q2 : Nat → Nat) (xt xk xv : Nat → Nat) : wOK D (D, wcA cI cP cS, wad b1 b2 q1 q2, xt, xk, xv) ((wlx cI cP cS b1 b2 q1 q2)[21]?) 20 := wOK_i xd_20 rfl rfl rfl (by decide +kernel)
theorem w_21 (D : va_G) (cI cP cS : ClassId) (b1 b2 : Nat) (q1 q2 : Nat → Nat) (xt xk xv : Nat → Nat) : wOK D (D, wcA cI cP cS, wad b1 b2 q1 q2, xt, xk, xv) ((wlx cI cP cS b1 b2 q1 q2)[22]?) 21 := wOK_i xd_21 rfl rfl rfl (by decide +kernel)
theorem w_22 (D : va_G) (cI cP cS : ClassId) (b1 b2 : Nat) (q1 q2 : Nat → Nat) (xt xk xv : Nat → Nat) : wOK D (D, wcA cI cP cS, wad b1 b2 q1 q2, xt, xk, xv) ((wlx cI cP cS b1 b2 q1 q2)[23]?) 22 := wOK_o xd_22 (by decide) rfl rfl rfl
theorem w_23 (D : va_G) (cI cP cS : ClassId) (b1 b2 : Nat) (q1 q2 : Nat → Nat) (xt xk xv : Nat → Nat) : wOK D (D, wcA cI cP cS, wad b1 b2 q1 q2, xt, xk, xv) ((wlx cI cP cS b1 b2 q1 q2)[24]?) 23 := wOK_i xd_23 rfl rfl rfl (by decide +kernel)
theorem w_24 (D : va_G) (cI cP cS : ClassId) (b1 b2 : Nat) (q1 q2 : Nat → Nat) (xt xk xv : Nat → Nat) : wOK D (D, wcA cI cP cS, wad b1 b2 q1 q2, xt, xk, xv) ((wlx cI cP cS b1 b2 q1 q2)[25]?) 24 := wOK_i xd_24 rfl rfl rfl (by decide +kernel)
theorem w_25 (D : va_G) (cI cP cS : ClassId) (b1 b2 : Nat) (q1 q2 : Nat → Nat) (xt xk xv : Nat → Nat) : wOK D (D, wcA cI cP cS, wad b1 b2 q1 q2, xt, xk, xv) ((wlx cI cP cS b1 b2 q1 q2)[26]?) 25 := wOK_o xd_25 (by decide) rfl rfl rfl
theorem w_26 (D : va_G) (cI cP cS : ClassId) (b1 b2 : Nat) (q1 q2 : Nat → Nat) (xt xk xv : Nat → Nat) : wOK D (D, wcA cI cP cS, wad b1 b2 q1 q2, xt, xk, xv) ((wlx cI cP cS b1 b2 q1 q2)[27]?) 26 := wOK_i xd_26 rfl rfl rfl (by decide +kernel)
theorem w_27 (D : va_G) (cI cP cS : ClassId) (b1 b2 : Nat) (q1 q2 : Nat → Nat) (xt xk xv : Nat → Nat) : wOK D (D, wcA cI cP cS, wad b1 b2 q1 q2, xt, xk, xv) ((wlx cI cP cS b1 b2 q1 q2)[28]?) 27 := wOK_i xd_27 rfl rfl rfl (by decide +kernel)
theorem w_28 (D : va_G) (cI cP cS : ClassId) (b1 b2 : Nat) (q1 q2 : Nat → Nat) (xt xk xv : Nat → Nat) : wOK D (D, wcA cI cP cS, wad b1 b2 q1 q2, xt, xk, xv) ((wlx cI cP cS b1 b2 q1 q2)[29]?) 28 := wOK_o xd_28 (by decide) rfl rfl rfl
theorem w_29 (D : va_G) (cI cP cS : ClassId) (b1 b2 : Nat) (q1 q2 : Nat → Nat) (xt xk xv : Nat → Nat) : wOK D (D, wcA cI cP cS, wad b1 b2 q1 q2, xt, xk, xv) ((wlx cI cP cS b1 b2 q1 q2)[30]?) 29 := wOK_o xd_29 (by decide) rfl rfl rfl
theorem w_30 (D : va_G) (cI cP cS : ClassId) (b1 b2 : Nat) (q1 q2 : Nat → Nat) (xt xk xv : Nat → Nat) : wOK D (D, wcA cI cP cS, wad b1 b2 q1 q2, xt, xk, xv) ((wlx cI cP cS b1 b2 q1 q2)[31]?) 30 := wOK_i xd_30 rfl rfl rfl (by decide +kernel)
theorem w_31 (D : va_G) (cI cP cS : ClassId) (b1 b2 : Nat) (q1 q2 : Nat → Nat) (xt xk xv : Nat → Nat) : wOK D (D, wcA cI cP cS, wad b1 b2 q1 q2, xt, xk, xv) ((wlx cI cP cS b1 b2 q1 q2)[32]?) 31 := wOK_i xd_31 rfl rfl rfl (by decide +kernel)
theorem w_32 (D : va_G) (cI cP cS : ClassId) (b1 b2 : Nat) (q1 q2 : Nat → Nat) (xt xk xv : Nat → Nat) : wOK D (D, wcA cI cP cS, wad b1 b2 q1 q2, xt, xk, xv) ((wlx cI cP cS b1 b2 q1 q2)[33]?) 32 := wOK_i xd_32 rfl rfl rfl (by decide +kernel)
theorem w_33 (D : va_G) (cI cP cS : ClassId) (b1 b2 : Nat) (q1 q2 : Nat → Nat) (xt xk xv : Nat → Nat) : wOK D (D, wcA cI cP cS, wad b1 b2 q1 q2, xt, xk, xv) ((wlx cI cP cS b1 b2 q1 q2)[34]?) 33 := wOK_i xd_33 rfl rfl rfl (by decide +kernel)
theorem w_34 (D : va_G) (cI cP cS : ClassId) (b1 b2 : Nat) (q1 q2 : Nat → Nat) (xt xk xv : Nat → Nat) : wOK D (D, wcA cI cP cS, wad b1 b2 q1 q2, xt, xk, xv) ((wlx cI cP cS b1 b2 q1 q2)[35]?) 34 := wOK_i xd_34 rfl rfl rfl (by decide +kernel)
theorem w_35 (D : va_G) (cI cP cS : ClassId) (b1 b2 : Nat) (q1 q2 : Nat → Nat) (xt xk xv : Nat → Nat) : wOK D (D, wcA cI cP cS, wad b1 b2 q1 q2, xt, xk, xv) ((wlx cI cP cS b1 b2 q1 q2)[36]?) 35 := wOK_q (t := 1) (by decide) xd_35 rfl rfl rfl (fun j hj => match j, hj with | 0, _ => rfl | 1, _ => rfl | 2, _ => rfl | 3, _ => rfl | 4, _ => rfl | 5, _ => rfl | m + 6, h => absurd h (by omega))
theorem w_36 (D : va_G) (cI cP cS : ClassId) (b1 b2 : Nat) (q1 q2 : Nat → Nat) (xt xk xv : Nat → Nat) : wOK D (D, wcA cI cP cS, wad b1 b2 q1 q2, xt, xk, xv) ((wlx cI cP cS b1 b2 q1 q2)[37]?) 36 := wOK_i xd_36 rfl rfl rfl (by decide +kernel)
theorem w_37 (D : va_G) (cI cP cS : ClassId) (b1 b2 : Nat) (q1 q2 : Nat → Nat) (xt xk xv : Nat → Nat) : wOK D (D, wcA cI cP cS, wad b1 b2 q1 q2, xt, xk, xv) ((wlx cI cP cS b1 b2 q1 q2)[38]?) 37 := wOK_o xd_37 (by decide) rfl rfl rfl
theorem w_38 (D : va_G) (cI cP cS : ClassId) (b1 b2 : Nat) (q1 q2 : Nat → Nat) (xt xk xv : Nat → Nat) : wOK D (D, wcA cI cP cS, wad b1 b2 q1 q2, xt, xk, xv) ((wlx cI cP cS b1 b2 q1 q2)[39]?) 38 := wOK_i xd_38 rfl rfl rfl (by decide +kernel)
theorem w_39 (D : va_G) (cI cP cS : ClassId) (b1 b2 : Nat) (q1 q2 : Nat → Nat) (xt xk xv : Nat → Nat) : wOK D (D, wcA cI cP cS, wad b1 b2 q1 q2, xt, xk, xv) ((wlx cI cP cS b1 b2 q1 q2)[40]?) 39 := wOK_i xd_39 rfl rfl rfl (by decide +kernel)
theorem w_40 (D : va_G) (cI cP cS : ClassId) (b1 b2 : Nat) (q1 q2 : Nat → Nat) (xt xk xv : Nat → Nat) : wOK D (D, wcA cI cP cS, wad b1 b2 q1 q2, xt, xk, xv) ((wlx cI cP cS b1 b2 q1 q2)[41]?) 40 := wOK_o xd_40 (by decide) rfl rfl rfl
theorem w_41 (D : va_G) (cI cP cS : ClassId) (b1 b2 : Nat) (q1 q2 : Nat → Nat) (xt xk xv : Nat → Nat) : wOK D (D, wcA cI cP cS, wad b1 b2 q1 q2, xt, xk, xv) ((wlx cI cP cS b1 b2 q1 q2)[42]?) 41 := wOK_i xd_41 rfl rfl rfl (by decide +kernel)
theorem w_42 (D : va_G) (cI cP cS : ClassId) (b1 b2 : Nat) (q1 q2 : Nat → Nat) (xt xk xv : Nat → Nat) : wOK D (D, wcA cI cP cS, wad b1 b2 q1 q2, xt, xk, xv) ((wlx cI cP cS b1 b2 q1 q2)[43]?) 42 := wOK_i xd_42 rfl rfl rfl (by decide +kernel)
theorem w_43 (D : va_G) (cI cP cS : ClassId) (b1 b2 : Nat) (q1 q2 : Nat → Nat) (xt xk xv : Nat → Nat) : wOK D (D, wcA cI cP cS, wad b1 b2 q1 q2, xt, xk, xv) ((wlx cI cP cS b1 b2 q1 q2)[44]?) 43 := wOK_o xd_43 (by decide) rfl rfl rfl
theorem w_44 (D : va_G) (cI cP cS : ClassId) (b1 b2 : Nat) (q1 q2 : Nat → Nat) (xt xk xv : Nat → Nat) : wOK D (D, wcA cI cP cS, wad b1 b2 q1 q2, xt, xk, xv) ((wlx cI cP cS b1 b2 q1 q2)[45]?) 44 := wOK_i xd_44 rfl rfl rfl (by decide +kernel)
theorem w_45 (D : va_G) (cI cP cS : ClassId) (b1 b2 : Nat) (q1 q2 : Nat → Nat) (xt xk xv : Nat → Nat) : wOK D (D, wcA cI cP cS, wad b1 b2 q1 q2, xt, xk, xv) ((wlx cI cP cS b1 b2 q1 q2)[46]?) 45 := wOK_i xd_45 rfl rfl rfl (by decide +kernel)
theorem w_46 (D : va_G) (cI cP cS : ClassId) (b1 b2 : Nat) (q1 q2 : Nat → Nat) (xt xk xv : Nat → Nat) : wOK D (D, wcA cI cP cS, wad b1 b2 q1 q2, xt, xk, xv) ((wlx cI cP cS b1 b2 q1 q2)[47]?) 46 := wOK_o xd_46 (by decide) rfl rfl rfl
theorem w_47 (D : va_G) (cI cP cS : ClassId) (b1 b2 : Nat) (q1 q2 : Nat → Nat) (xt xk xv : Nat → Nat) : wOK D (D, wcA cI cP cS, wad b1 b2 q1 q2, xt, xk, xv) ((wlx cI cP cS b1 b2 q1 q2)[48]?) 47 := wOK_i xd_47 rfl rfl rfl (by decide +kernel)
theorem w_48 (D : va_G) (cI cP cS : ClassId) (b1 b2 : Nat) (q1 q2 : Nat → Nat) (xt xk xv : Nat → Nat) : wOK D (D, wcA cI cP cS, wad b1 b2 q1 q2, xt, xk, xv) ((wlx cI cP cS b1 b2 q1 q2)[49]?) 48 := wOK_i xd_48 rfl rfl rfl (by decide +kernel)
theorem w_49 (D : va_G) (cI cP cS : ClassId) (b1 b2 : Nat) (q1 q2 : Nat → Nat) (xt xk xv : Nat → Nat) : wOK D (D, wcA cI cP cS, wad b1 b2 q1 q2, xt, xk, xv) ((wlx cI cP cS b1 b2 q1 q2)[50]?) 49 := wOK_o xd_49 (by decide) rfl rfl rfl
theorem w_50 (D : va_G) (cI cP cS : ClassId) (b1 b2 : Nat) (q1 q2 : Nat → Nat) (xt xk xv : Nat → Nat) : wOK D (D, wcA cI cP cS, wad b1 b2 q1 q2, xt, xk, xv) ((wlx cI cP cS b1 b2 q1 q2)[51]?) 50 := wOK_i xd_50 rfl rfl rfl (by decide +kernel)
theorem w_51 (D : va_G) (cI cP cS : ClassId) (b1 b2 : Nat) (q1 q2 : Nat → Nat) (xt xk xv : Nat → Nat) : wOK D (D, wcA cI cP cS, wad b1 b2 q1 q2, xt, xk, xv) ((wlx cI cP cS b1 b2 q1 q2)[52]?) 51 := wOK_i xd_51 rfl rfl rfl (by decide +kernel)
theorem w_52 (D : va_G) (cI cP cS : ClassId) (b1 b2 : Nat) (q1 q2 : Nat → Nat) (xt xk xv : Nat → Nat) : wOK D (D, wcA cI cP cS, wad b1 b2 q1 q2, xt, xk, xv) ((wlx cI cP cS b1 b2 q1 q2)[53]?) 52 := wOK_o xd_52 (by decide) rfl rfl rfl
theorem w_53 (D : va_G) (cI cP cS : ClassId) (b1 b2 : Nat) (q1 q2 : Nat → Nat) (xt xk xv : Nat → Nat) : wOK D (D, wcA cI cP cS, wad b1 b2 q1 q2, xt, xk, xv) ((wlx cI cP cS b1 b2 q1 q2)[54]?) 53 := wOK_i xd_53 rfl rfl rfl (by decide +kernel)
theorem w_54 (D : va_G) (cI cP cS : ClassId) (b1 b2 : Nat) (q1 q2 : Nat → Nat) (xt xk xv : Nat → Nat) : wOK D (D, wcA cI cP cS, wad b1 b2 q1 q2, xt, xk, xv) ((wlx cI cP cS b1 b2 q1 q2)[55]?) 54 := wOK_i xd_54 rfl rfl rfl (by decide +kernel)
theorem w_55 (D : va_G) (cI cP cS : ClassId) (b1 b2 : Nat) (q1 q2 : Nat → Nat) (xt xk xv : Nat → Nat) : wOK D (D, wcA cI cP cS, wad b1 b2 q1 q2, xt, xk, xv) ((wlx cI cP cS b1 b2 q1 q2)[57]?) 55 := wOK_o xd_55 (by decide) rfl rfl rfl
theorem w_56 (D : va_G) (cI cP cS : ClassId) (b1 b2 : Nat) (q1 q2 : Nat → Nat) (xt xk xv : Nat → Nat) : wOK D (D, wcA cI cP cS, wad b1 b2 q1 q2, xt, xk, xv) ((wlx cI cP cS b1 b2 q1 q2)[58]?) 56 := wOK_i xd_56 rfl rfl rfl (by decide +kernel)
theorem w_57 (D : va_G) (cI cP cS : ClassId) (b1 b2 : Nat) (q1 q2 : Nat → Nat) (xt xk xv : Nat → Nat) : wOK D (D, wcA cI cP cS, wad b1 b2 q1 q2, xt, xk, xv) ((wlx cI cP cS b1 b2 q1 q2)[56]?) 57 := wOK_o xd_57 (by decide) rfl rfl rfl
theorem w_58 (D : va_G) (cI cP cS : ClassId) (b1 b2 : Nat) (q1 q2 : Nat → Nat) (xt xk xv : Nat → Nat) : wOK D (D, wcA cI cP cS, wad b1 b2 q1 q2, xt, xk, xv) ((wlx cI cP cS b1 b2 q1 q2)[1]?) 58 := wOK_q (t := 2) (by decide) xd_58 rfl rfl rfl (fun j hj => match j, hj with | 0, _ => rfl | 1, _ => rfl | 2, _ => rfl | 3, _ => rfl | m + 4, h => absurd h (by omega))
theorem w_59 (D : va_G) (cI cP cS : ClassId) (b1 b2 : Nat) (q1 q2 : Nat → Nat) (xt xk xv : Nat → Nat) : wOK D (D, wcA cI cP cS, wad b1 b2 q1 q2, xt, xk, xv) ((wlx cI cP cS b1 b2 q1 q2)[59]?) 59 := wOK_o xd_59 (by decide) rfl rfl rfl
theorem w_60 (D : va_G) (cI cP cS : ClassId) (b1 b2 : Nat) (q1 q2 : Nat → Nat) (xt xk xv : Nat → Nat) : wOK D (D, wcA cI cP cS, wad b1 b2 q1 q2, xt, xk, xv) ((wlx cI cP cS b1 b2 q1 q2)[60]?) 60 := wOK_i xd_60 rfl rfl rfl (by decide +kernel)
theorem w_61 (D : va_G) (cI cP cS : ClassId) (b1 b2 : Nat) (q1 q2 : Nat → Nat) (xt xk xv : Nat → Nat) : wOK D (D, wcA cI cP cS, wad b1 b2 q1 q2, xt, xk, xv) ((wlx cI cP cS b1 b2 q1 q2)[61]?) 61 := wOK_i xd_61 rfl rfl rfl (by decide +kernel)
theorem w_62 (D : va_G) (cI cP cS : ClassId) (b1 b2 : Nat) (q1 q2 : Nat → Nat) (xt xk xv : Nat → Nat) : wOK D (D, wcA cI cP cS, wad b1 b2 q1 q2, xt, xk, xv) ((wlx cI cP cS b1 b2 q1 q2)[62]?) 62 := wOK_i xd_62 rfl rfl rfl (by decide +kernel)
theorem w_63 (D : va_G) (cI cP cS : ClassId) (b1 b2 : Nat) (q1 q2 : Nat → Nat) (xt xk xv : Nat → Nat) : wOK D (D, wcA cI cP cS, wad b1 b2 q1 q2, xt, xk, xv) ((wlx cI cP cS b1 b2 q1 q2)[63]?) 63 := wOK_i xd_63 rfl rfl rfl (by decide +kernel)
theorem w_64 (D : va_G) (cI cP cS : ClassId) (b1 b2 : Nat) (q1 q2 : Nat → Nat) (xt xk xv : Nat → Nat) : wOK D (D, wcA cI cP cS, wad b1 b2 q1 q2, xt, xk, xv) ((wlx cI cP cS b1 b2 q1 q2)[64]?) 64 := wOK_i xd_64 rfl rfl rfl (by decide +kernel)
theorem w_65 (D : va_G) (cI cP cS : ClassId) (b1 b2 : Nat) (q1 q2 : Nat → Nat) (xt xk xv : Nat → Nat) : wOK D (D, wcA cI cP cS, wad b1 b2 q1 q2, xt, xk, xv) ((wlx cI cP cS b1 b2 q1 q2)[65]?) 65 := wOK_o xd_65 (by decide) rfl rfl rfl
theorem w_66 (D : va_G) (cI cP cS : ClassId) (b1 b2 : Nat) (q1 q2 : Nat → Nat) (xt xk xv : Nat → Nat) : wOK D (D, wcA cI cP cS, wad b1 b2 q1 q2, xt, xk, xv) ((wlx cI cP cS b1 b2 q1 q2)[66]?) 66 := wOK_i xd_66 rfl rfl rfl (by decide +kernel)
theorem w_67 (D : va_G) (cI cP cS : ClassId) (b1 b2 : Nat) (q1 q2 : Nat → Nat) (xt xk xv : Nat → Nat) : wOK D (D, wcA cI cP cS, wad b1 b2 q1 q2, xt, xk, xv) ((wlx cI cP cS b1 b2 q1 q2)[67]?) 67 := wOK_i xd_67 rfl rfl rfl (by decide +kernel)
theorem w_68 (D : va_G) (cI cP cS : ClassId) (b1 b2 : Nat) (q1 q2 : Nat → Nat) (xt xk xv : Nat → Nat) : wOK D (D, wcA cI cP cS, wad b1 b2 q1 q2, xt, xk, xv) ((wlx cI cP cS b1 b2 q1 q2)[68]?) 68 := wOK_i xd_68 rfl rfl rfl (by decide +kernel)
theorem w_69 (D : va_G) (cI cP cS : ClassId) (b1 b2 : Nat) (q1 q2 : Nat → Nat) (xt xk xv : Nat → Nat) : wOK D (D, wcA cI cP cS, wad b1 b2 q1 q2, xt, xk, xv) ((wlx cI cP cS b1 b2 q1 q2)[69]?) 69 := wOK_i xd_69 rfl rfl rfl (by decide +kernel)
theorem w_70 (D : va_G) (cI cP cS : ClassId) (b1 b2 : Nat) (q1 q2 : Nat → Nat) (xt xk xv : Nat → Nat) : wOK D (D, wcA cI cP cS, wad b1 b2 q1 q2, xt, xk, xv) ((wlx cI cP cS b1 b2 q1 q2)[70]?) 70 := wOK_i xd_70 rfl rfl rfl (by decide +kernel)
theorem w_71 (D : va_G) (cI cP cS : ClassId) (b1 b2 : Nat) (q1 q2 : Nat → Nat) (xt xk xv : Nat → Nat) : wOK D (D, wcA cI cP cS, wad b1 b2 q1 q2, xt, xk, xv) ((wlx cI cP cS b1 b2 q1 q2)[71]?) 71 := wOK_o xd_71 (by decide) rfl rfl rfl
theorem w_72 (D : va_G) (cI cP cS : ClassId) (b1 b2 : Nat) (q1 q2 : Nat → Nat) (xt xk xv : Nat → Nat) : wOK D (D, wcA cI cP cS, wad b1 b2 q1 q2, xt, xk, xv) ((wlx cI cP cS b1 b2 q1 q2)[72]?) 72 := wOK_i xd_72 rfl rfl rfl (by decide +kernel)
theorem w_73 (D : va_G) (cI cP cS : ClassId) (b1 b2 : Nat) (q1 q2 : Nat → Nat) (xt xk xv : Nat → Nat) : wOK D (D, wcA cI cP cS, wad b1 b2 q1 q2, xt, xk, xv) ((wlx cI cP cS b1 b2 q1 q2)[73]?) 73 := wOK_o xd_73 (by decide) rfl rfl rfl
theorem w_74 (D : va_G) (cI cP cS : ClassId) (b1 b2 : Nat) (q1 q2 : Nat → Nat) (xt xk xv : Nat → Nat) : wOK D (D, wcA cI cP cS, wad b1 b2 q1 q2, xt, xk, xv) ((wlx cI cP cS b1 b2 q1 q2)[74]?) 74 := wOK_i xd_74 rfl rfl rfl (by decide +kernel)
theorem w_75 (D : va_G) (cI cP cS : ClassId) (b1 b2 : Nat) (q1 q2 : Nat → Nat) (xt xk xv : Nat → Nat) : wOK D (D, wcA cI cP cS, wad b1 b2 q1 q2, xt, xk, xv) ((wlx cI cP cS b1 b2 q1 q2)[75]?) 75 := wOK_o xd_75 (by decide) rfl rfl rfl
theorem w_76 (D : va_G) (cI cP cS : ClassId) (b1 b2 : Nat) (q1 q2 : Nat → Nat) (xt xk xv : Nat → Nat) : wOK D (D, wcA cI cP cS, wad b1 b2 q1 q2, xt, xk, xv) ((wlx cI cP cS b1 b2 q1 q2)[76]?) 76 := wOK_i xd_76 rfl rfl rfl (by decide +kernel)
theorem w_77 (D : va_G) (cI cP cS : ClassId) (b1 b2 : Nat) (q1 q2 : Nat → Nat) (xt xk xv : Nat → Nat) : wOK D (D, wcA cI cP cS, wad b1 b2 q1 q2, xt, xk, xv) ((wlx cI cP cS b1 b2 q1 q2)[77]?) 77 := wOK_o xd_77 (by decide) rfl rfl rfl
theorem w_78 (D : va_G) (cI cP cS : ClassId) (b1 b2 : Nat) (q1 q2 : Nat → Nat) (xt xk xv : Nat → Nat) : wOK D (D, wcA cI cP cS, wad b1 b2 q1 q2, xt, xk, xv) ((wlx cI cP cS b1 b2 q1 q2)[78]?) 78 := wOK_i xd_78 rfl rfl rfl (by decide +kernel)
theorem w_79 (D : va_G) (cI cP cS : ClassId) (b1 b2 : Nat) (q1 q2 : Nat → Nat) (xt xk xv : Nat → Nat) : wOK D (D, wcA cI cP cS, wad b1 b2 q1 q2, xt, xk, xv) ((wlx cI cP cS b1 b2 q1 q2)[79]?) 79 := wOK_o xd_79 (by decide) rfl rfl rfl
theorem w_80 (D : va_G) (cI cP cS : ClassId) (b1 b2 : Nat) (q1 q2 : Nat → Nat) (xt xk xv : Nat → Nat) : wOK D (D, wcA cI cP cS, wad b1 b2 q1 q2, xt, xk, xv) ((wlx cI cP cS b1 b2 q1 q2)[80]?) 80 := wOK_i xd_80 rfl rfl rfl (by decide +kernel)
theorem w_81 (D : va_G) (cI cP cS : ClassId) (b1 b2 : Nat) (q1 q2 : Nat → Nat) (xt xk xv : Nat → Nat) : wOK D (D, wcA cI cP cS, wad b1 b2 q1 q2, xt, xk, xv) ((wlx cI cP cS b1 b2 q1 q2)[81]?) 81 := wOK_o xd_81 (by decide) rfl rfl rfl
theorem w_82 (D : va_G) (cI cP cS : ClassId) (b1 b2 : Nat) (q1 q2 : Nat → Nat) (xt xk xv : Nat → Nat) : wOK D (D, wcA cI cP cS, wad b1 b2 q1 q2, xt, xk, xv) ((wlx cI cP cS b1 b2 q1 q2)[82]?) 82 := wOK_i xd_82 rfl rfl rfl (by decide +kernel)
theorem w_83 (D : va_G) (cI cP cS : ClassId) (b1 b2 : Nat) (q1 q2 : Nat → Nat) (xt xk xv : Nat → Nat) : wOK D (D, wcA cI cP cS, wad b1 b2 q1 q2, xt, xk, xv) ((wlx cI cP cS b1 b2 q1 q2)[83]?) 83 := wOK_i xd_83 rfl rfl rfl (by decide +kernel)
theorem w_84 (D : va_G) (cI cP cS : ClassId) (b1 b2 : Nat) (q1 q2 : Nat → Nat) (xt xk xv : Nat → Nat) : wOK D (D, wcA cI cP cS, wad b1 b2 q1 q2, xt, xk, xv) ((wlx cI cP cS b1 b2 q1 q2)[84]?) 84 := wOK_i xd_84 rfl rfl rfl (by decide +kernel)
theorem w_85 (D : va_G) (cI cP cS : ClassId) (b1 b2 : Nat) (q1 q2 : Nat → Nat) (xt xk xv : Nat → Nat) : wOK D (D, wcA cI cP cS, wad b1 b2 q1 q2, xt, xk, xv) ((wlx cI cP cS b1 b2 q1 q2)[85]?) 85 := wOK_i xd_85 rfl rfl rfl (by decide +kernel)
theorem w_86 (D : va_G) (cI cP cS : ClassId) (b1 b2 : Nat) (q1 q2 : Nat → Nat) (xt xk xv : Nat → Nat) : wOK D (D, wcA cI cP cS, wad b1 b2 q1 q2, xt, xk, xv) ((wlx cI cP cS b1 b2 q1 q2)[86]?) 86 := wOK_i xd_86 rfl rfl rfl (by decide +kernel)
theorem w_87 (D : va_G) (cI cP cS : ClassId) (b1 b2 : Nat) (q1 q2 : Nat → Nat) (xt xk xv : Nat → Nat) : wOK D (D, wcA cI cP cS, wad b1 b2 q1 q2, xt, xk, xv) ((wlx cI cP cS b1 b2 q1 q2)[87]?) 87 := wOK_i xd_87 rfl rfl rfl (by decide +kernel)
theorem w_88 (D : va_G) (cI cP cS : ClassId) (b1 b2 : Nat) (q1 q2 : Nat → Nat) (xt xk xv : Nat → Nat) : wOK D (D, wcA cI cP cS, wad b1 b2 q1 q2, xt, xk, xv) ((wlx cI cP cS b1 b2 q1 q2)[88]?) 88 := wOK_i xd_88 rfl rfl rfl (by decide +kernel)
theorem w_89 (D : va_G) (cI cP cS : ClassId) (b1 b2 : Nat) (q1 q2 : Nat → Nat) (xt xk xv : Nat → Nat) : wOK D (D, wcA cI cP cS, wad b1 b2 q1 q2, xt, xk, xv) ((wlx cI cP cS b1 b2 q1 q2)[89]?) 89 := wOK_i xd_89 rfl rfl rfl (by decide +kernel)
theorem w_90 (D : va_G) (cI cP cS : ClassId) (b1 b2 : Nat) (q1 q2 : Nat → Nat) (xt xk xv : Nat → Nat) : wOK D (D, wcA cI cP cS, wad b1 b2 q1 q2, xt, xk, xv) ((wlx cI cP cS b1 b2 q1 q2)[90]?) 90 := wOK_i xd_90 rfl rfl rfl (by decide +kernel)
theorem w_91 (D : va_G) (cI cP cS : ClassId) (b1 b2 : Nat) (q1 q2 : Nat → Nat) (xt xk xv : Nat → Nat) : wOK D (D, wcA cI cP cS, wad b1 b2 q1 q2, xt, xk, xv) ((wlx cI cP cS b1 b2 q1 q2)[91]?) 91 := wOK_i xd_91 rfl rfl rfl (by decide +kernel)
theorem w_92 (D : va_G) (cI cP cS : ClassId) (b1 b2 : Nat) (q1 q2 : Nat → Nat) (xt xk xv : Nat → Nat) : wOK D (D, wcA cI cP cS, wad b1 b2 q1 q2, xt, xk, xv) ((wlx cI cP cS b1 b2 q1 q2)[92]?) 92 := wOK_i xd_92 rfl rfl rfl (by decide +kernel)
theorem w_93 (D : va_G) (cI cP cS : ClassId) (b1 b2 : Nat) (q1 q2 : Nat → Nat) (xt xk xv : Nat → Nat) : wOK D (D, wcA cI cP cS, wad b1 b2 q1 q2, xt, xk, xv) ((wlx cI cP cS b1 b2 q1 q2)[93]?) 93 := wOK_i xd_93 rfl rfl rfl (by decide +kernel)
theorem w_all (D : va_G) (cI cP cS : ClassId) (b1 b2 : Nat) (q1 q2 : Nat → Nat) (xt xk xv : Nat → Nat) (k : Nat) (hk : k < 94) : wOK D (D, wcA cI cP cS, wad b1 b2 q1 q2, xt, xk, xv) ((wlx cI cP cS b1 b2 q1 q2)[wpos k]?) k := match k, hk with
  | 0, _ => w_0 D cI cP cS b1 b2 q1 q2 xt xk xv
  | 1, _ => w_1 D cI cP cS b1 b2 q1 q2 xt xk xv
  | 2, _ => w_2 D cI cP cS b1 b2 q1 q2 xt xk xv
  | 3, _ => w_3 D cI cP cS b1 b2 q1 q2 xt xk xv
  | 4, _ => w_4 D cI cP cS b1 b2 q1 q2 xt xk xv
  | 5, _ => w_5 D cI cP cS b1 b2 q1 q2 xt xk xv
  | 6, _ => w_6 D cI cP cS b1 b2 q1 q2 xt xk xv
  | 7, _ => w_7 D cI cP cS b1 b2 q1 q2 xt xk xv
  | 8, _ => w_8 D cI cP cS b1 b2 q1 q2 xt xk xv
  | 9, _ => w_9 D cI cP cS b1 b2 q1 q2 xt xk xv
  | 10, _ => w_10 D cI cP cS b1 b2 q1 q2 xt xk xv
  | 11, _ => w_11 D cI cP cS b1 b2 q1 q2 xt xk xv
  | 12, _ => w_12 D cI cP cS b1 b2 q1 q2 xt xk xv
  | 13, _ => w_13 D cI cP cS b1 b2 q1 q2 xt xk xv
  | 14, _ => w_14 D cI cP cS b1 b2 q1 q2 xt xk xv
  | 15, _ => w_15 D cI cP cS b1 b2 q1 q2 xt xk xv
  | 16, _ => w_16 D cI cP cS b1 b2 q1 q2 xt xk xv
  | 17, _ => w_17 D cI cP cS b1 b2 q1 q2 xt xk xv
  | 18, _ => w_18 D cI cP cS b1 b2 q1 q2 xt xk xv
  | 19, _ => w_19 D cI cP cS b1 b2 q1 q2 xt xk xv
  | 20, _ => w_20 D cI cP cS b1 b2 q1 q2 xt xk xv
  | 21, _ => w_21 D cI cP cS b1 b2 q1 q2 xt xk xv
  | 22, _ => w_22 D cI cP cS b1 b2 q1 q2 xt xk xv
  | 23, _ => w_23 D cI cP cS b1 b2 q1 q2 xt xk xv
  | 24, _ => w_24 D cI cP cS b1 b2 q1 q2 xt xk xv
  | 25, _ => w_25 D cI cP cS b1 b2 q1 q2 xt xk xv
  | 26, _ => w_26 D cI cP cS b1 b2 q1 q2 xt xk xv
  | 27, _ => w_27 D cI cP cS b1 b2 q1 q2 xt xk xv
  | 28, _ => w_28 D cI cP cS b1 b2 q1 q2 xt xk xv
  | 29, _ => w_29 D cI cP cS b1 b2 q1 q2 xt xk xv
  | 30, _ => w_30 D cI cP cS b1 b2 q1 q2 xt xk xv
  | 31, _ => w_31 D cI cP cS b1 b2 q1 q2 xt xk xv
  | 32, _ => w_32 D cI cP cS b1 b2 q1 q2 xt xk xv
  | 33, _ => w_33 D cI cP cS b1 b2 q1 q2 xt xk xv
  | 34, _ => w_34 D cI cP cS b1 b2 q1 q2 xt xk xv
  | 35, _ => w_35 D cI cP cS b1 b2 q1 q2 xt xk xv
  | 36, _ => w_36 D cI cP cS b1 b2 q1 q2 xt xk xv
  | 37, _ => w_37 D cI cP cS b1 b2 q1 q2 xt xk xv
  | 38, _ => w_38 D cI cP cS b1 b2 q1 q2 xt xk xv
  | 39, _ => w_39 D cI cP cS b1 b2 q1 q2 xt xk xv
  | 40, _ => w_40 D cI cP cS b1 b2 q1 q2 xt xk xv
  | 41, _ => w_41 D cI cP cS b1 b2 q1 q2 xt xk xv
  | 42, _ => w_42 D cI cP cS b1 b2 q1 q2 xt xk xv
  | 43, _ => w_43 D cI cP cS b1 b2 q1 q2 xt xk xv
  | 44, _ => w_44 D cI cP cS b1 b2 q1 q2 xt xk xv
  | 45, _ => w_45 D cI cP cS b1 b2 q1 q2 xt xk xv
  | 46, _ => w_46 D cI cP cS b1 b2 q1 q2 xt xk xv
  | 47, _ => w_47 D cI cP cS b1 b2 q1 q2 xt xk xv
  | 48, _ => w_48 D cI cP cS b1 b2 q1 q2 xt xk xv
  | 49, _ => w_49 D cI cP cS b1 b2 q1 q2 xt xk xv
  | 50, _ => w_50 D cI cP cS b1 b2 q1 q2 xt xk xv
  | 51, _ => w_51 D cI cP cS b1 b2 q1 q2 xt xk xv
  | 52, _ => w_52 D cI cP cS b1 b2 q1 q2 xt xk xv
  | 53, _ => w_53 D cI cP cS b1 b2 q1 q2 xt xk xv
  | 54, _ => w_54 D cI cP cS b1 b2 q1 q2 xt xk xv
  | 55, _ => w_55 D cI cP cS b1 b2 q1 q2 xt xk xv
  | 56, _ => w_56 D cI cP cS b1 b2 q1 q2 xt xk xv
  | 57, _ => w_57 D cI cP cS b1 b2 q1 q2 xt xk xv
  | 58, _ => w_58 D cI cP cS b1 b2 q1 q2 xt xk xv
  | 59, _ => w_59 D cI cP cS b1 b2 q1 q2 xt xk xv
  | 60, _ => w_60 D cI cP cS b1 b2 q1 q2 xt xk xv
  | 61, _ => w_61 D cI cP cS b1 b2 q1 q2 xt xk xv
  | 62, _ => w_62 D cI cP cS b1 b2 q1 q2 xt xk xv
  | 63, _ => w_63 D cI cP cS b1 b2 q1 q2 xt xk xv
  | 64, _ => w_64 D cI cP cS b1 b2 q1 q2 xt xk xv
  | 65, _ => w_65 D cI cP cS b1 b2 q1 q2 xt xk xv
  | 66, _ => w_66 D cI cP cS b1 b2 q1 q2 xt xk xv
  | 67, _ => w_67 D cI cP cS b1 b2 q1 q2 xt xk xv
  | 68, _ => w_68 D cI cP cS b1 b2 q1 q2 xt xk xv
  | 69, _ => w_69 D cI cP cS b1 b2 q1 q2 xt xk xv
  | 70, _ => w_70 D cI cP cS b1 b2 q1 q2 xt xk xv
  | 71, _ => w_71 D cI cP cS b1 b2 q1 q2 xt xk xv
  | 72, _ => w_72 D cI cP cS b1 b2 q1 q2 xt xk xv
  | 73, _ => w_73 D cI cP cS b1 b2 q1 q2 xt xk xv
  | 74, _ => w_74 D cI cP cS b1 b2 q1 q2 xt xk xv
  | 75, _ => w_75 D cI cP cS b1 b2 q1 q2 xt xk xv
  | 76, _ => w_76 D cI cP cS b1 b2 q1 q2 xt xk xv
  | 77, _ => w_77 D cI cP cS b1 b2 q1 q2 xt xk xv
  | 78, _ => w_78 D cI cP cS b1 b2 q1 q2 xt xk xv
  | 79, _ => w_79 D cI cP cS b1 b2 q1 q2 xt xk xv
  | 80, _ => w_80 D cI cP cS b1 b2 q1 q2 xt xk xv
  | 81, _ => w_81 D cI cP cS b1 b2 q1 q2 xt xk xv
  | 82, _ => w_82 D cI cP cS b1 b2 q1 q2 xt xk xv
  | 83, _ => w_83 D cI cP cS b1 b2 q1 q2 xt xk xv
  | 84, _ => w_84 D cI cP cS b1 b2 q1 q2 xt xk xv
  | 85, _ => w_85 D cI cP cS b1 b2 q1 q2 xt xk xv
  | 86, _ => w_86 D cI cP cS b1 b2 q1 q2 xt xk xv
  | 87, _ => w_87 D cI cP cS b1 b2 q1 q2 xt xk xv
  | 88, _ => w_88 D cI cP cS b1 b2 q1 q2 xt xk xv
  | 89, _ => w_89 D cI cP cS b1 b2 q1 q2 xt xk xv
  | 90, _ => w_90 D cI cP cS b1 b2 q1 q2 xt xk xv
  | 91, _ => w_91 D cI cP cS b1 b2 q1 q2 xt xk xv
  | 92, _ => w_92 D cI cP cS b1 b2 q1 q2 xt xk xv
  | 93, _ => w_93 D cI cP cS b1 b2 q1 q2 xt xk xv
  | n + 94, h => absurd h (by omega)
theorem first_world (D : va_G) (cI cP cS : ClassId) (b1 b2 : Nat) (q1 q2 : Nat → Nat) (xt xk xv : Nat → Nat) {A : Nat → Prop} {H : Heap} (hP : va_P D vwCl (wl cI cP cS b1 b2 q1 q2) H) (hD : va_D A (wl cI cP cS b1 b2 q1 q2)) : xP (D, wcA cI cP cS, wad b1 b2 q1 q2, xt, xk, xv) s0 t0 H ∧ xI (D, wcA cI cP cS, wad b1 b2 q1 q2, xt, xk, xv) A := by
  rw [wl_eq] at hP hD
  refine ⟨fun j q hj => ?_, fun i j hi hj e => ?_, fun i hi => ?_⟩
  · obtain ⟨hk, rfl⟩ := xw_of hj
    obtain ⟨e, h1, h2⟩ := w_all D cI cP cS b1 b2 q1 q2 xt xk xv j hk
    exact h2 H (hP _ _ h1)
  · obtain ⟨e1, h1, -⟩ := w_all D cI cP cS b1 b2 q1 q2 xt xk xv i hi
    obtain ⟨e2, h2, -⟩ := w_all D cI cP cS b1 b2 q1 q2 xt xk xv j hj
    exact wpos_inj i hi j hj (hD.1 _ _ _ _ h1 h2 e)
  · obtain ⟨e1, h1, -⟩ := w_all D cI cP cS b1 b2 q1 q2 xt xk xv i hi
    exact hD.2 _ _ h1
theorem s0_b : s0 0 = s0g ∧ s0 10 = s0g := ⟨rfl, rfl⟩
theorem v0_eq : cv s0 = mv s0 := by
  funext b
  unfold cv mv vw
  simp [s0]
theorem s0_I : gI s0g := by
  have h : ∀ i, i < 44 → glo i ≤ (s0g i).toInt ∧ (s0g i).toInt ≤ ghi i := by decide +kernel
  exact h
theorem s0_p : ∀ p, p < 6 → (0 ≤ (s0g (134 + 25 * p)).toInt ∧ (s0g (134 + 25 * p)).toInt ≤ 12) ∧ (s0g (134 + 25 * p)).toNatClampNeg = 0 := by decide +kernel
theorem s0_G : GI s0g 0 := by
  have hT : 0 ≤ (s0g 10).toInt ∧ (s0g 10).toInt ≤ ((0 : Nat) : Int) := by decide +kernel
  have h13 : 0 ≤ (s0g 13).toInt ∧ (s0g 13).toInt ≤ 6 := by decide +kernel
  have hsp : ∀ j, j < 10 → -1 ≤ (s0g (124 + j)).toInt ∧ (s0g (124 + j)).toInt ≤ 11 := by decide +kernel
  have hpk : ∀ i, i < 40 → 0 ≤ (s0g (45 + 2 * i)).toInt ∧ (s0g (45 + 2 * i)).toInt ≤ 600 := by decide +kernel
  refine ⟨s0_I, hT, h13, hsp, fun p hp => ⟨(s0_p p hp).1, fun k hk => ?_⟩, hpk⟩
  rw [(s0_p p hp).2] at hk
  exact absurd hk (Nat.not_lt_zero k)
theorem inv0 : Inv (cv s0) 0 := ⟨s0_G, Or.inl rfl, z_100, fun s _ => Or.inl rfl, fun s _ => ⟨by show 0 ≤ (0 : Int32).toInt; decide, by show (0 : Int32).toInt ≤ 40; decide⟩⟩
