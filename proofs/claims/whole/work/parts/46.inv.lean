/-! what always holds goes on holding -/
theorem GI_up {g : Nat → Int32} {T U : Nat} (h : GI g T) (hU : T ≤ U) : GI g U := ⟨h.1, gT_up h.2.1 hU, h.2.2⟩
theorem Inv.up {v : xV} {T U : Nat} (h : Inv v T) (hU : T ≤ U) : Inv v U := ⟨GI_up h.1 hU, h.2.1.elim Or.inl (fun q => Or.inr ⟨q.1, GI_up q.2 hU⟩), h.2.2⟩
theorem inv_f {v : xV} {T : Nat} (h : Inv v T) (j : Nat) (x : Int32) : Inv (u2 v 2 j x) T := h
theorem inv_bad {v : xV} {T : Nat} (h : Inv v T) : Inv (bad v).2 T := inv_f h _ _
theorem inv_full {v : xV} {T : Nat} (h : Inv v T) : Inv (full v).2 T := inv_f h _ _
theorem inv_kindF {v : xV} {T : Nat} (h : Inv v T) : Inv (kindF v).2 T := inv_f h _ _
theorem inv_noneF {v : xV} {T : Nat} (h : Inv v T) : Inv (noneF v).2 T := inv_f h _ _
theorem inv_miss {v : xV} {T : Nat} (h : Inv v T) : Inv (miss v).2 T := inv_f h _ _
theorem inv_sizeF {v : xV} {T : Nat} (h : Inv v T) : Inv (sizeF v).2 T := inv_f h _ _
theorem inv_0 {v : xV} {T : Nat} {g : Nat → Int32} (h : Inv v T) (hg : GI g T) : Inv (va_up v 0 g) T := ⟨hg, h.2⟩
/-- one place of the state -/
theorem GI_low {g : Nat → Int32} {T i : Nat} {x : Int32} (h : GI g T) (hi : i < 44) (h10 : i ≠ 10) (h13 : i ≠ 13) (hx : glo i ≤ x.toInt ∧ x.toInt ≤ ghi i) : GI (upd g i x) T := by
  refine ⟨h.1.upd (fun _ => hx), ?_, ?_, fun j hj => ?_, fun p hp => ?_, fun j hj => ?_⟩
  · have := h.2.1
    unfold gT at this ⊢
    rw [upd_ne (Ne.symm h10)]
    exact this
  · rw [upd_ne (Ne.symm h13)]
    exact h.2.2.1
  · rw [upd_ne (by omega)]
    exact h.2.2.2.1 j hj
  · rw [upd_ne (by omega)]
    refine ⟨(h.2.2.2.2.1 p hp).1, fun k hk => ?_⟩
    rw [upd_ne (by omega), upd_ne (by omega)]
    exact (h.2.2.2.2.1 p hp).2 k hk
  · rw [upd_ne (by omega)]
    exact h.2.2.2.2.2 j hj
/-- a place that no fact speaks of -/
theorem GI_12 {g : Nat → Int32} {T : Nat} {x : Int32} (h : GI g T) : GI (upd g 12 x) T := GI_low h (by decide) (by decide) (by decide) (by
  have := i32_cases x
  have e1 : glo 12 = -2147483648 := by decide
  have e2 : ghi 12 = 2147483647 := by decide
  rw [e1, e2]
  exact this)
theorem inv_seed {v : xV} {T : Nat} (h : Inv v T) (x : Int32) : Inv (sp_seed x v).2 T := inv_0 h (GI_12 h.1)
theorem inv_now {v : xV} {T : Nat} (h : Inv v T) (w : Int32) : Inv (sp_now w v).2 T := by
  unfold sp_now
  split
  · exact h
  · exact inv_bad h
theorem inv_torque {v : xV} {T : Nat} (h : Inv v T) : Inv (sp_torque v).2 T := h
theorem inv_set {v : xV} {T : Nat} (h : Inv v T) (w x : Int32) : Inv (sp_set w x v).2 T := by
  unfold sp_set
  split
  · rename_i hm
    obtain ⟨q, hq, rfl⟩ := mayN hm
    rw [nI_clamp (by omega)]
    refine inv_0 h (GI_low h.1 (by omega) (by omega) (by omega) ?_)
    unfold glo ghi
    rcases hm with ⟨e, hx⟩ | ⟨hw, hx⟩
    · have e3 : q = 3 := (nI_eq (by omega) (by decide)).mp e
      have := rngI (a := 1) (b := 99) hx (by decide) (by decide)
      subst e3
      simp
      omega
    · have := rngI (a := 0) (b := 99) hx (by decide) (by decide)
      have h2 := rngI (a := 0) (b := 2) hw (by decide) (by decide)
      rw [nI_toInt (by omega)] at h2
      rw [if_pos (by omega), if_pos (by omega)]
      omega
  · exact inv_bad h
/-! the peaks of the log -/
def pks (g : Nat → Int32) : Prop := ∀ i, i < 40 → 0 ≤ (g (45 + 2 * i)).toInt ∧ (g (45 + 2 * i)).toInt ≤ 600
theorem pks_of {g f : Nat → Int32} (h : pks g) (e : ∀ i, 44 ≤ i → i < 124 → f i = g i) : pks f := by
  intro i hi
  rw [e _ (by omega) (by omega)]
  exact h i hi
theorem pks_upd {g : Nat → Int32} {j : Nat} {x : Int32} (h : pks g) (hx : 0 ≤ x.toInt ∧ x.toInt ≤ 600) : pks (upd g j x) := by
  intro i hi
  by_cases e : 45 + 2 * i = j
  · subst e
    rw [upd_at]
    exact hx
  · rw [upd_ne e]
    exact h i hi
theorem pks_low {g : Nat → Int32} {j : Nat} {x : Int32} (h : pks g) (hj : j < 44 ∨ j % 2 = 0) : pks (upd g j x) := by
  intro i hi
  rw [upd_ne (by omega)]
  exact h i hi
theorem pks_touch {g : Nat → Int32} (h : pks g) (b : Int32) : pks (touchG g b) := by
  unfold touchG
  exact pks_low (pks_low h (by omega)) (by omega)
theorem pks_pourAt {g : Nat → Int32} {c : Nat} (hc : c < 12) (h : pks g) : pks (pourAt g c) := by
  unfold pourAt
  exact pks_low (pks_low h (by omega)) (by omega)
theorem pks_loss {g : Nat → Int32} {c : Nat} (hc : c < 12) (h : pks g) : pks (lossG g c) := by
  unfold lossG
  exact pks_low (pks_low h (by omega)) (by omega)
theorem pks_pass {g : Nat → Int32} {c : Nat} (hc : c < 12) (h : pks g) : pks (passG g c) := by
  have h2 : (c + 1) % 12 < 12 := Nat.mod_lt _ (by decide)
  unfold passG
  split
  · exact pks_low (pks_low h (by omega)) (by omega)
  · exact h
theorem pks_drain {g : Nat → Int32} {c : Nat} (hc : c < 12) (h : pks g) : pks (drainG g c) := by
  unfold drainG
  split
  · exact pks_pass hc (pks_loss hc h)
  · exact pks_loss hc h
theorem pks_drains {g : Nat → Int32} (h : pks g) : ∀ n, n ≤ 12 → pks (drainsG g n)
  | 0, _ => h
  | n + 1, hn => pks_drain (by omega) (pks_drains h n (by omega))
theorem pks_watch {g : Nat → Int32} (hg : gI g) (h0 : 0 ≤ (g 10).toInt) (h : pks g) : pks (watchG g) := by
  obtain ⟨t, ht, e⟩ := nI_get h0
  unfold watchG noteG
  refine pks_low (pks_low ?_ (by omega)) (by omega)
  split
  · unfold logG logT
    refine pks_low (pks_low ?_ (by omega)) (by omega)
    split
    · rw [e, nI_clamp ht]
      exact pks_upd (pks_low h (by omega)) hg.h11
    · exact h
  · exact h
theorem pks_step {g : Nat → Int32} (hg : gI g) (h0 : 0 ≤ (g 10).toInt) (h : pks g) : pks (stepG g) := by
  have h1 : 0 ≤ ((tickG (swingG (drainsG (pourG g) 12))) 10).toInt := by
    have := pre_10 g
    unfold preG at this
    rw [this]
    exact h0
  unfold stepG
  refine pks_watch (gI_tick (gI_swing (gI_drains (gI_pour hg) 12 (Nat.le_refl _)))) h1 ?_
  unfold tickG swingG
  refine pks_low (pks_low (pks_low ?_ (by omega)) (by omega)) (by omega)
  unfold pourG
  exact pks_drains (pks_pourAt (topN_lt g) h) 12 (Nat.le_refl _)
theorem pks_steps {g : Nat → Int32} {T : Nat} (hg : gI g) (hT : gT g T) (h : pks g) : ∀ n, T + n < 2147483647 → pks (stepsG g n)
  | 0, _ => h
  | n + 1, hn => pks_step (gI_steps hg n) (gT_steps hT n (by omega)).1 (pks_steps hg hT h n (by omega))
theorem step_13 {g : Nat → Int32} (h0 : 0 ≤ (g 10).toInt) : stepG g 13 = g 13 := by
  obtain ⟨t, ht, e⟩ := nI_get h0
  have hd : ∀ n, n ≤ 12 → drainsG (pourG g) n 13 = g 13 := by
    intro n
    induction n with
    | zero =>
      intro _
      show pourAt g (topN g) 13 = _
      unfold pourAt
      rw [upd_ne (by omega), upd_ne (by omega)]
    | succ n ih =>
      intro hn
      show drainG (drainsG (pourG g) n) n 13 = _
      have h2 : (n + 1) % 12 < 12 := Nat.mod_lt _ (by decide)
      rw [← ih (by omega)]
      unfold drainG passG lossG
      split
      · split
        · rw [upd_ne (by omega), upd_ne (by omega), upd_ne (by omega), upd_ne (by omega)]
        · rw [upd_ne (by omega), upd_ne (by omega)]
      · rw [upd_ne (by omega), upd_ne (by omega)]
  have h1 : (tickG (swingG (drainsG (pourG g) 12))) 10 = g 10 := by
    have := pre_10 g
    unfold preG at this
    exact this
  have h3 : (tickG (swingG (drainsG (pourG g) 12))) 13 = g 13 := by
    unfold tickG swingG
    rw [upd_ne (by omega), upd_ne (by omega), upd_ne (by omega), hd 12 (Nat.le_refl _)]
  unfold stepG watchG noteG
  rw [upd_ne (by omega), upd_ne (by omega)]
  split
  · unfold logG logT
    rw [upd_ne (by omega), upd_ne (by omega), h1, e]
    split
    · rw [nI_clamp ht, upd_ne (by omega), upd_ne (by omega), h3]
    · exact h3
  · exact h3
theorem steps_13 {g : Nat → Int32} {T : Nat} (hT : gT g T) : ∀ n, T + n < 2147483647 → stepsG g n 13 = g 13
  | 0, _ => rfl
  | n + 1, hn => by
    show stepG (stepsG g n) 13 = g 13
    rw [step_13 (gT_steps hT n (by omega)).1, steps_13 hT n (by omega)]
theorem GI_steps {g : Nat → Int32} {T n : Nat} (h : GI g T) (hn : T + n < 2147483647) : GI (stepsG g n) (T + n) := by
  have e : ∀ i, 124 ≤ i → stepsG g n i = g i := fun i hi => steps_hi h.2.1 hi n hn
  refine ⟨gI_steps h.1 n, gT_steps h.2.1 n hn, ?_, fun j hj => ?_, fun p hp => ?_, pks_steps h.1 h.2.1 h.2.2.2.2.2 n hn⟩
  · rw [steps_13 h.2.1 n hn]
    exact h.2.2.1
  · rw [e _ (by omega)]
    exact h.2.2.2.1 j hj
  · rw [e _ (by omega)]
    refine ⟨(h.2.2.2.2.1 p hp).1, fun k hk => ?_⟩
    rw [e _ (by omega), e _ (by omega)]
    exact (h.2.2.2.2.1 p hp).2 k hk
