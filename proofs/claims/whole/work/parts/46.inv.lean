/-! what always holds goes on holding -/
theorem GI_up {g : Nat → Int32} {T U : Nat} (h : GI g T) (hU : T ≤ U) : GI g U := ⟨h.1, gT_up h.2.1 hU, h.2.2⟩
theorem Inv.up {v : xV} {T U : Nat} (h : Inv v T) (hU : T ≤ U) : Inv v U := ⟨GI_up h.1 hU, h.2.1.elim Or.inl (fun q => Or.inr ⟨q.1, GI_up q.2 hU⟩), h.2.2⟩
theorem inv_f {v : xV} {T : Nat} (h : Inv v T) (j : Nat) (x : Int32) : Inv (u2 v 2 j x) T := h
theorem inv_bad {v : xV} {T : Nat} (h : Inv v T) : Inv (bad v).2 T := inv_f h _ _
theorem inv_full {v : xV} {T : Nat} (h : Inv v T) : Inv (full v).2 T := inv_f h _ _
theorem inv_kindF {v : xV} {T : Nat} (h : Inv v T) : Inv (kindF v).2 T := inv_f h _ _
theorem inv_noneF {v : xV} {T : Nat} (h : Inv v T) : Inv (noneF v).2 T := inv_f h _ _
theorem inv_miss {v : xV} {T : Nat} (h : Inv v T) : Inv (miss v).2 T := inv_f h _ _
theorem inv_sizeF {v : xV} {T : Nat} (h : Inv v T) : Inv (sizeF v).2 T := inv_f h _ _
theorem inv_0 {v : xV} {T : Nat} {g : Nat → Int32} (h : Inv v T) (hg : GI g T) : Inv (va_up v 0 g) T := ⟨hg, h.2⟩
/-- one place of the state -/
theorem GI_low {g : Nat → Int32} {T i : Nat} {x : Int32} (h : GI g T) (hi : i < 44) (h10 : i ≠ 10) (h13 : i ≠ 13) (hx : glo i ≤ x.toInt ∧ x.toInt ≤ ghi i) : GI (upd g i x) T := by
  refine ⟨h.1.upd (fun _ => hx), ?_, ?_, fun j hj => ?_, fun p hp => ?_, fun j hj => ?_⟩
  · have := h.2.1
    unfold gT at this ⊢
    rw [upd_ne (Ne.symm h10)]
    exact this
  · rw [upd_ne (Ne.symm h13)]
    exact h.2.2.1
  · rw [upd_ne (by omega)]
    exact h.2.2.2.1 j hj
  · rw [upd_ne (by omega)]
    refine ⟨(h.2.2.2.2.1 p hp).1, fun k hk => ?_⟩
    rw [upd_ne (by omega), upd_ne (by omega)]
    exact (h.2.2.2.2.1 p hp).2 k hk
  · rw [upd_ne (by omega)]
    exact h.2.2.2.2.2 j hj
