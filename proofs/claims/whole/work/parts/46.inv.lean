/-! what always holds goes on holding -/
theorem GI_up {g : Nat → Int32} {T U : Nat} (h : GI g T) (hU : T ≤ U) : GI g U := ⟨h.1, gT_up h.2.1 hU, h.2.2⟩
theorem Inv.up {v : xV} {T U : Nat} (h : Inv v T) (hU : T ≤ U) : Inv v U := ⟨GI_up h.1 hU, h.2.1.elim Or.inl (fun q => Or.inr ⟨q.1, GI_up q.2 hU⟩), h.2.2⟩
theorem inv_f {v : xV} {T : Nat} (h : Inv v T) (j : Nat) (x : Int32) : Inv (u2 v 2 j x) T := h
theorem inv_bad {v : xV} {T : Nat} (h : Inv v T) : Inv (bad v).2 T := inv_f h _ _
theorem inv_full {v : xV} {T : Nat} (h : Inv v T) : Inv (full v).2 T := inv_f h _ _
theorem inv_kindF {v : xV} {T : Nat} (h : Inv v T) : Inv (kindF v).2 T := inv_f h _ _
theorem inv_noneF {v : xV} {T : Nat} (h : Inv v T) : Inv (noneF v).2 T := inv_f h _ _
theorem inv_miss {v : xV} {T : Nat} (h : Inv v T) : Inv (miss v).2 T := inv_f h _ _
theorem inv_sizeF {v : xV} {T : Nat} (h : Inv v T) : Inv (sizeF v).2 T := inv_f h _ _
theorem inv_0 {v : xV} {T : Nat} {g : Nat → Int32} (h : Inv v T) (hg : GI g T) : Inv (va_up v 0 g) T := ⟨hg, h.2⟩
/-- one place of the state -/
theorem GI_low {g : Nat → Int32} {T i : Nat} {x : Int32} (h : GI g T) (hi : i < 44) (h10 : i ≠ 10) (h13 : i ≠ 13) (hx : glo i ≤ x.toInt ∧ x.toInt ≤ ghi i) : GI (upd g i x) T := by
  refine ⟨h.1.upd (fun _ => hx), ?_, ?_, fun j hj => ?_, fun p hp => ?_, fun j hj => ?_⟩
  · have := h.2.1
    unfold gT at this ⊢
    rw [upd_ne (Ne.symm h10)]
    exact this
  · rw [upd_ne (Ne.symm h13)]
    exact h.2.2.1
  · rw [upd_ne (by omega)]
    exact h.2.2.2.1 j hj
  · rw [upd_ne (by omega)]
    refine ⟨(h.2.2.2.2.1 p hp).1, fun k hk => ?_⟩
    rw [upd_ne (by omega), upd_ne (by omega)]
    exact (h.2.2.2.2.1 p hp).2 k hk
  · rw [upd_ne (by omega)]
    exact h.2.2.2.2.2 j hj
/-- a place that no fact speaks of -/
theorem GI_12 {g : Nat → Int32} {T : Nat} {x : Int32} (h : GI g T) : GI (upd g 12 x) T := GI_low h (by decide) (by decide) (by decide) (by
  have := i32_cases x
  have e1 : glo 12 = -2147483648 := by decide
  have e2 : ghi 12 = 2147483647 := by decide
  rw [e1, e2]
  exact this)
theorem inv_seed {v : xV} {T : Nat} (h : Inv v T) (x : Int32) : Inv (sp_seed x v).2 T := inv_0 h (GI_12 h.1)
theorem inv_now {v : xV} {T : Nat} (h : Inv v T) (w : Int32) : Inv (sp_now w v).2 T := by
  unfold sp_now
  split
  · exact h
  · exact inv_bad h
theorem inv_torque {v : xV} {T : Nat} (h : Inv v T) : Inv (sp_torque v).2 T := h
theorem inv_set {v : xV} {T : Nat} (h : Inv v T) (w x : Int32) : Inv (sp_set w x v).2 T := by
  unfold sp_set
  split
  · rename_i hm
    obtain ⟨q, hq, rfl⟩ := mayN hm
    rw [nI_clamp (by omega)]
    refine inv_0 h (GI_low h.1 (by omega) (by omega) (by omega) ?_)
    unfold glo ghi
    rcases hm with ⟨e, hx⟩ | ⟨hw, hx⟩
    · have e3 : q = 3 := (nI_eq (by omega) (by decide)).mp e
      have := rngI (a := 1) (b := 99) hx (by decide) (by decide)
      subst e3
      simp
      omega
    · have := rngI (a := 0) (b := 99) hx (by decide) (by decide)
      have h2 := rngI (a := 0) (b := 2) hw (by decide) (by decide)
      rw [nI_toInt (by omega)] at h2
      rw [if_pos (by omega), if_pos (by omega)]
      omega
  · exact inv_bad h
