/-! what always holds goes on holding -/
theorem GI_up {g : Nat → Int32} {T U : Nat} (h : GI g T) (hU : T ≤ U) : GI g U := ⟨h.1, gT_up h.2.1 hU, h.2.2⟩
theorem Inv.up {v : xV} {T U : Nat} (h : Inv v T) (hU : T ≤ U) : Inv v U := ⟨GI_up h.1 hU, h.2.1.elim Or.inl (fun q => Or.inr ⟨q.1, GI_up q.2 hU⟩), h.2.2⟩
theorem inv_f {v : xV} {T : Nat} (h : Inv v T) (j : Nat) (x : Int32) : Inv (u2 v 2 j x) T := h
theorem inv_bad {v : xV} {T : Nat} (h : Inv v T) : Inv (bad v).2 T := inv_f h _ _
theorem inv_full {v : xV} {T : Nat} (h : Inv v T) : Inv (full v).2 T := inv_f h _ _
theorem inv_kindF {v : xV} {T : Nat} (h : Inv v T) : Inv (kindF v).2 T := inv_f h _ _
theorem inv_noneF {v : xV} {T : Nat} (h : Inv v T) : Inv (noneF v).2 T := inv_f h _ _
theorem inv_miss {v : xV} {T : Nat} (h : Inv v T) : Inv (miss v).2 T := inv_f h _ _
theorem inv_sizeF {v : xV} {T : Nat} (h : Inv v T) : Inv (sizeF v).2 T := inv_f h _ _
theorem inv_0 {v : xV} {T : Nat} {g : Nat → Int32} (h : Inv v T) (hg : GI g T) : Inv (va_up v 0 g) T := ⟨hg, h.2⟩
/-- one place of the state -/
theorem GI_low {g : Nat → Int32} {T i : Nat} {x : Int32} (h : GI g T) (hi : i < 44) (h10 : i ≠ 10) (h13 : i ≠ 13) (hx : glo i ≤ x.toInt ∧ x.toInt ≤ ghi i) : GI (upd g i x) T := by
  refine ⟨h.1.upd (fun _ => hx), ?_, ?_, fun j hj => ?_, fun p hp => ?_, fun j hj => ?_⟩
  · have := h.2.1
    unfold gT at this ⊢
    rw [upd_ne (Ne.symm h10)]
    exact this
  · rw [upd_ne (Ne.symm h13)]
    exact h.2.2.1
  · rw [upd_ne (by omega)]
    exact h.2.2.2.1 j hj
  · rw [upd_ne (by omega)]
    refine ⟨(h.2.2.2.2.1 p hp).1, fun k hk => ?_⟩
    rw [upd_ne (by omega), upd_ne (by omega)]
    exact (h.2.2.2.2.1 p hp).2 k hk
  · rw [upd_ne (by omega)]
    exact h.2.2.2.2.2 j hj
/-- a place that no fact speaks of -/
theorem GI_12 {g : Nat → Int32} {T : Nat} {x : Int32} (h : GI g T) : GI (upd g 12 x) T := GI_low h (by decide) (by decide) (by decide) (by
  have := i32_cases x
  have e1 : glo 12 = -2147483648 := by decide
  have e2 : ghi 12 = 2147483647 := by decide
  rw [e1, e2]
  exact this)
theorem inv_seed {v : xV} {T : Nat} (h : Inv v T) (x : Int32) : Inv (sp_seed x v).2 T := inv_0 h (GI_12 h.1)
theorem inv_now {v : xV} {T : Nat} (h : Inv v T) (w : Int32) : Inv (sp_now w v).2 T := by
  unfold sp_now
  split
  · exact h
  · exact inv_bad h
theorem inv_torque {v : xV} {T : Nat} (h : Inv v T) : Inv (sp_torque v).2 T := h
theorem inv_set {v : xV} {T : Nat} (h : Inv v T) (w x : Int32) : Inv (sp_set w x v).2 T := by
  unfold sp_set
  split
  · rename_i hm
    obtain ⟨q, hq, rfl⟩ := mayN hm
    rw [nI_clamp (by omega)]
    refine inv_0 h (GI_low h.1 (by omega) (by omega) (by omega) ?_)
    unfold glo ghi
    rcases hm with ⟨e, hx⟩ | ⟨hw, hx⟩
    · have e3 : q = 3 := (nI_eq (by omega) (by decide)).mp e
      have := rngI (a := 1) (b := 99) hx (by decide) (by decide)
      subst e3
      simp
      omega
    · have := rngI (a := 0) (b := 99) hx (by decide) (by decide)
      have h2 := rngI (a := 0) (b := 2) hw (by decide) (by decide)
      rw [nI_toInt (by omega)] at h2
      rw [if_pos (by omega), if_pos (by omega)]
      omega
  · exact inv_bad h
/-! the peaks of the log -/
def pks (g : Nat → Int32) : Prop := ∀ i, i < 40 → 0 ≤ (g (45 + 2 * i)).toInt ∧ (g (45 + 2 * i)).toInt ≤ 600
theorem pks_of {g f : Nat → Int32} (h : pks g) (e : ∀ i, 44 ≤ i → i < 124 → f i = g i) : pks f := by
  intro i hi
  rw [e _ (by omega) (by omega)]
  exact h i hi
theorem pks_upd {g : Nat → Int32} {j : Nat} {x : Int32} (h : pks g) (hx : 0 ≤ x.toInt ∧ x.toInt ≤ 600) : pks (upd g j x) := by
  intro i hi
  by_cases e : 45 + 2 * i = j
  · subst e
    rw [upd_at]
    exact hx
  · rw [upd_ne e]
    exact h i hi
theorem pks_low {g : Nat → Int32} {j : Nat} {x : Int32} (h : pks g) (hj : j < 44 ∨ j % 2 = 0) : pks (upd g j x) := by
  intro i hi
  rw [upd_ne (by omega)]
  exact h i hi
theorem pks_touch {g : Nat → Int32} (h : pks g) (b : Int32) : pks (touchG g b) := by
  unfold touchG
  exact pks_low (pks_low h (by omega)) (by omega)
theorem pks_pourAt {g : Nat → Int32} {c : Nat} (hc : c < 12) (h : pks g) : pks (pourAt g c) := by
  unfold pourAt
  exact pks_low (pks_low h (by omega)) (by omega)
theorem pks_loss {g : Nat → Int32} {c : Nat} (hc : c < 12) (h : pks g) : pks (lossG g c) := by
  unfold lossG
  exact pks_low (pks_low h (by omega)) (by omega)
theorem pks_pass {g : Nat → Int32} {c : Nat} (hc : c < 12) (h : pks g) : pks (passG g c) := by
  have h2 : (c + 1) % 12 < 12 := Nat.mod_lt _ (by decide)
  unfold passG
  split
  · exact pks_low (pks_low h (by omega)) (by omega)
  · exact h
theorem pks_drain {g : Nat → Int32} {c : Nat} (hc : c < 12) (h : pks g) : pks (drainG g c) := by
  unfold drainG
  split
  · exact pks_pass hc (pks_loss hc h)
  · exact pks_loss hc h
theorem pks_drains {g : Nat → Int32} (h : pks g) : ∀ n, n ≤ 12 → pks (drainsG g n)
  | 0, _ => h
  | n + 1, hn => pks_drain (by omega) (pks_drains h n (by omega))
theorem pks_watch {g : Nat → Int32} (hg : gI g) (h0 : 0 ≤ (g 10).toInt) (h : pks g) : pks (watchG g) := by
  obtain ⟨t, ht, e⟩ := nI_get h0
  unfold watchG noteG
  refine pks_low (pks_low ?_ (by omega)) (by omega)
  split
  · unfold logG logT
    refine pks_low (pks_low ?_ (by omega)) (by omega)
    split
    · rw [e, nI_clamp ht]
      exact pks_upd (pks_low h (by omega)) hg.h11
    · exact h
  · exact h
theorem pks_step {g : Nat → Int32} (hg : gI g) (h0 : 0 ≤ (g 10).toInt) (h : pks g) : pks (stepG g) := by
  have h1 : 0 ≤ ((tickG (swingG (drainsG (pourG g) 12))) 10).toInt := by
    have := pre_10 g
    unfold preG at this
    rw [this]
    exact h0
  unfold stepG
  refine pks_watch (gI_tick (gI_swing (gI_drains (gI_pour hg) 12 (Nat.le_refl _)))) h1 ?_
  unfold tickG swingG
  refine pks_low (pks_low (pks_low ?_ (by omega)) (by omega)) (by omega)
  unfold pourG
  exact pks_drains (pks_pourAt (topN_lt g) h) 12 (Nat.le_refl _)
theorem pks_steps {g : Nat → Int32} {T : Nat} (hg : gI g) (hT : gT g T) (h : pks g) : ∀ n, T + n < 2147483647 → pks (stepsG g n)
  | 0, _ => h
  | n + 1, hn => pks_step (gI_steps hg n) (gT_steps hT n (by omega)).1 (pks_steps hg hT h n (by omega))
theorem step_13 {g : Nat → Int32} (h0 : 0 ≤ (g 10).toInt) : stepG g 13 = g 13 := by
  obtain ⟨t, ht, e⟩ := nI_get h0
  have hd : ∀ n, n ≤ 12 → drainsG (pourG g) n 13 = g 13 := by
    intro n
    induction n with
    | zero =>
      intro _
      show pourAt g (topN g) 13 = _
      unfold pourAt
      rw [upd_ne (by omega), upd_ne (by omega)]
    | succ n ih =>
      intro hn
      show drainG (drainsG (pourG g) n) n 13 = _
      have h2 : (n + 1) % 12 < 12 := Nat.mod_lt _ (by decide)
      rw [← ih (by omega)]
      unfold drainG passG lossG
      split
      · split
        · rw [upd_ne (by omega), upd_ne (by omega), upd_ne (by omega), upd_ne (by omega)]
        · rw [upd_ne (by omega), upd_ne (by omega)]
      · rw [upd_ne (by omega), upd_ne (by omega)]
  have h1 : (tickG (swingG (drainsG (pourG g) 12))) 10 = g 10 := by
    have := pre_10 g
    unfold preG at this
    exact this
  have h3 : (tickG (swingG (drainsG (pourG g) 12))) 13 = g 13 := by
    unfold tickG swingG
    rw [upd_ne (by omega), upd_ne (by omega), upd_ne (by omega), hd 12 (Nat.le_refl _)]
  unfold stepG watchG noteG
  rw [upd_ne (by omega), upd_ne (by omega)]
  split
  · unfold logG logT
    rw [upd_ne (by omega), upd_ne (by omega), h1, e]
    split
    · rw [nI_clamp ht, upd_ne (by omega), upd_ne (by omega), h3]
    · exact h3
  · exact h3
theorem steps_13 {g : Nat → Int32} {T : Nat} (hT : gT g T) : ∀ n, T + n < 2147483647 → stepsG g n 13 = g 13
  | 0, _ => rfl
  | n + 1, hn => by
    show stepG (stepsG g n) 13 = g 13
    rw [step_13 (gT_steps hT n (by omega)).1, steps_13 hT n (by omega)]
theorem GI_steps {g : Nat → Int32} {T n : Nat} (h : GI g T) (hn : T + n < 2147483647) : GI (stepsG g n) (T + n) := by
  have e : ∀ i, 124 ≤ i → stepsG g n i = g i := fun i hi => steps_hi h.2.1 hi n hn
  refine ⟨gI_steps h.1 n, gT_steps h.2.1 n hn, ?_, fun j hj => ?_, fun p hp => ?_, pks_steps h.1 h.2.1 h.2.2.2.2.2 n hn⟩
  · rw [steps_13 h.2.1 n hn]
    exact h.2.2.1
  · rw [e _ (by omega)]
    exact h.2.2.2.1 j hj
  · rw [e _ (by omega)]
    refine ⟨(h.2.2.2.2.1 p hp).1, fun k hk => ?_⟩
    rw [e _ (by omega), e _ (by omega)]
    exact (h.2.2.2.2.1 p hp).2 k hk
theorem GI_of {g f : Nat → Int32} {T U : Nat} (h : GI g T) (h1 : gI f) (h2 : gT f U) (h13 : f 13 = g 13) (hi : ∀ i, 124 ≤ i → f i = g i) (hp : pks f) : GI f U := by
  refine ⟨h1, h2, ?_, fun j hj => ?_, fun p hq => ?_, hp⟩
  · rw [h13]
    exact h.2.2.1
  · rw [hi _ (by omega)]
    exact h.2.2.2.1 j hj
  · rw [hi _ (by omega)]
    refine ⟨(h.2.2.2.2.1 p hq).1, fun k hk => ?_⟩
    rw [hi _ (by omega), hi _ (by omega)]
    exact (h.2.2.2.2.1 p hq).2 k hk
theorem inv_at {v : xV} {T i : Nat} {x : Int32} (h : Inv v T) (hi : i < 44) (h10 : i ≠ 10) (h13 : i ≠ 13) (hx : glo i ≤ x.toInt ∧ x.toInt ≤ ghi i) : Inv (u2 v 0 i x) T := inv_0 h (GI_low h.1 hi h10 h13 hx)
theorem glo_20 {q : Nat} (hq : q < 12) : glo (20 + q) = 0 ∧ ghi (20 + q) = 999 := ⟨glo_w hq, ghi_w hq⟩
theorem glo_32 {q : Nat} (hq : q < 12) : glo (32 + q) = 0 ∧ ghi (32 + q) = 6 := ⟨glo_k hq, ghi_k hq⟩
theorem inv_kind {v : xV} {T : Nat} (h : Inv v T) (c k : Int32) : Inv (sp_kind c k v).2 T := by
  unfold sp_kind
  split
  · rename_i hc
    obtain ⟨q, _, hq, rfl⟩ := rngN (a := 0) (b := 11) hc.1 (by decide) (by decide) (by decide)
    rw [nI_clamp (by omega)]
    have hk := rngI (a := 0) (b := 6) hc.2 (by decide) (by decide)
    refine inv_at h (by omega) (by omega) (by omega) ?_
    rw [(glo_32 (q := q) (by omega)).1, (glo_32 (q := q) (by omega)).2]
    omega
  · exact inv_bad h
theorem inv_fill {v : xV} {T : Nat} (h : Inv v T) (c n : Int32) : Inv (sp_fill c n v).2 T := by
  unfold sp_fill
  split
  · rename_i hc
    obtain ⟨q, _, hq, rfl⟩ := rngN (a := 0) (b := 11) hc.1 (by decide) (by decide) (by decide)
    rw [nI_clamp (by omega)]
    have hn := rngI (a := 1) (b := 999) hc.2 (by decide) (by decide)
    unfold fillS
    split
    · exact inv_full h
    · rename_i hr
      have hw := h.g.w (j := q) (by omega)
      have hR := roomK_in (v 0 (32 + q))
      refine inv_at h (by omega) (by omega) (by omega) ?_
      rw [(glo_20 (q := q) (by omega)).1, (glo_20 (q := q) (by omega)).2]
      unfold roomG at hr
      rw [tI_lt, tI_sub (by omega) (by omega)] at hr
      rw [tI_add (by omega) (by omega)]
      omega
  · exact inv_bad h
theorem inv_empty {v : xV} {T : Nat} (h : Inv v T) (c : Int32) : Inv (sp_empty c v).2 T := by
  unfold sp_empty
  split
  · rename_i hc
    obtain ⟨q, _, hq, rfl⟩ := rngN (a := 0) (b := 11) hc (by decide) (by decide) (by decide)
    rw [nI_clamp (by omega)]
    refine inv_at h (by omega) (by omega) (by omega) ?_
    rw [(glo_20 (q := q) (by omega)).1, (glo_20 (q := q) (by omega)).2, tI_0]
    omega
  · exact inv_bad h
theorem touch_13 (g : Nat → Int32) (b : Int32) : touchG g b 13 = g 13 := by
  unfold touchG
  rw [upd_ne (by decide), upd_ne (by decide)]
theorem GI_touch {g : Nat → Int32} {T : Nat} (h : GI g T) (b : Int32) : GI (touchG g b) T := GI_of h (gI_touch h.1 b) (gT_touch h.2.1 b) (touch_13 g b) (fun i hi => touch_hi hi b) (pks_touch h.2.2.2.2.2 b)
theorem inv_touch {v : xV} {T : Nat} (h : Inv v T) (b : Int32) : Inv (sp_touch b v).2 T := by
  unfold sp_touch
  split
  · exact inv_0 h (GI_touch h.1 b)
  · exact inv_bad h
theorem inv_stop {v : xV} {T : Nat} (h : Inv v T) (a : Int32) : Inv (sp_stop a v).2 T := by
  unfold sp_stop
  split
  · rename_i hc
    have ha := rngI (a := 0) (b := 1199) hc (by decide) (by decide)
    have e4 : glo 4 = -600 ∧ ghi 4 = 600 := by decide
    have e5 : glo 5 = 0 ∧ ghi 5 = 1199 := by decide
    refine inv_at (inv_at h (by decide) (by decide) (by decide) ?_) (by decide) (by decide) (by decide) ?_
    · rw [e4.1, e4.2, tI_0]
      omega
    · rw [e5.1, e5.2]
      omega
  · exact inv_bad h
theorem inv_tick {v : xV} {T : Nat} (h : Inv v T) (hT : T < 1073741824) (n : Int32) : Inv (sp_tick n v).2 (T + 600) := by
  unfold sp_tick
  split
  · rename_i hc
    obtain ⟨q, _, hq, rfl⟩ := rngN (a := 1) (b := 100) hc (by decide) (by decide) (by decide)
    rw [nI_clamp (by omega)]
    refine Inv.up (T := T + q) ?_ (by omega)
    exact inv_0 (h.up (by omega)) (GI_steps h.1 (by omega))
  · exact (inv_bad h).up (by omega)
theorem z_100 : 0 ≤ (0 : Int32).toInt ∧ (0 : Int32).toInt ≤ 100 := by decide
theorem inv_wipe {v : xV} {T : Nat} (h : Inv v T) : Inv (sp_wipe v).2 T := ⟨h.1, h.2.1, z_100, h.2.2.2⟩
theorem feedK_at {b : Int32} {q t : Nat} {s : xV} : ∀ j, (∀ c, c ≠ 3 → c ≠ 4 → feedK b q t s j c = s c) ∧ feedK b q t s j 4 0 = s 4 0 ∧ (feedK b q t s j 4 1 = s 4 1 ∨ feedK b q t s j 4 1 = nI (t + j)) := by
  intro j
  induction j with
  | zero => exact ⟨fun _ _ _ => rfl, rfl, Or.inl rfl⟩
  | succ j ih =>
    refine ⟨fun c h3 h4 => ?_, ?_, Or.inr (u2_at _ _ _ _)⟩
    · show u2 (u2 _ 3 _ _) 4 1 _ c = _
      rw [u2_bk_ne _ _ _ h4, u2_bk_ne _ _ _ h3]
      exact ih.1 c h3 h4
    · show u2 (u2 _ 3 _ _) 4 1 _ 4 0 = _
      rw [u2_ne (by omega), u2_ne (by omega)]
      exact ih.2.1
theorem Inv.of {v w : xV} {T : Nat} (h : Inv v T) (h0 : w 0 = v 0) (h1 : w 1 = v 1) (h4 : w 4 0 = v 4 0) (h41 : 0 ≤ (w 4 1).toInt ∧ (w 4 1).toInt ≤ 100) (h5 : w 5 = v 5) (h6 : w 6 = v 6) : Inv w T := by
  refine ⟨by rw [h0]; exact h.1, by rw [h4, h1]; exact h.2.1, h41, by rw [h5]; exact h.2.2.2.1, by rw [h6]; exact h.2.2.2.2⟩
theorem inv_feed {v : xV} {T : Nat} (h : Inv v T) (b n : Int32) : Inv (sp_feed b n v).2 T := by
  unfold sp_feed
  split
  · rename_i hc
    obtain ⟨q, _, hq, rfl⟩ := rngN (a := 1) (b := 4) hc (by decide) (by decide) (by decide)
    obtain ⟨t, ht, e⟩ := nI_is (x := v 4 1) h.2.2.1.1 (n := 100) h.2.2.1.2 (by decide)
    split
    · exact inv_full h
    · rename_i hf
      rw [nI_clamp (by omega)]
      unfold feedS
      rw [e, nI_clamp (by omega)]
      rw [e, nI_add, tI_lt, nI_toInt (by omega), tl_100] at hf
      obtain ⟨a1, a2, a3⟩ := feedK_at (b := b) (q := q) (t := t) (s := v) q
      refine h.of (a1 0 (by decide) (by decide)) (a1 1 (by decide) (by decide)) a2 ?_ (a1 5 (by decide) (by decide)) (a1 6 (by decide) (by decide))
      show 0 ≤ (feedK b q t v q 4 1).toInt ∧ (feedK b q t v q 4 1).toInt ≤ 100
      rcases a3 with a3 | a3
      · rw [a3]; exact h.2.2.1
      · rw [a3, nI_toInt (by omega)]; omega
  · exact inv_bad h
theorem GI_spot {g : Nat → Int32} {T j : Nat} {x : Int32} (h : GI g T) (hj : j < 10) (hx : -1 ≤ x.toInt ∧ x.toInt ≤ 11) : GI (upd g (124 + j) x) T := by
  refine ⟨h.1.upd (fun q => absurd q (by omega)), ?_, ?_, fun i hi => ?_, fun p hp => ?_, fun i hi => ?_⟩
  · have := h.2.1
    unfold gT at this ⊢
    rw [upd_ne (by omega)]
    exact this
  · rw [upd_ne (by omega)]
    exact h.2.2.1
  · by_cases e : i = j
    · subst e; rw [upd_at]; exact hx
    · rw [upd_ne (by omega)]; exact h.2.2.2.1 i hi
  · rw [upd_ne (by omega)]
    refine ⟨(h.2.2.2.2.1 p hp).1, fun k hk => ?_⟩
    rw [upd_ne (by omega), upd_ne (by omega)]
    exact (h.2.2.2.2.1 p hp).2 k hk
  · rw [upd_ne (by omega)]
    exact h.2.2.2.2.2 i hi
theorem inv_hold {v : xV} {T : Nat} (h : Inv v T) (p c : Int32) : Inv (sp_hold p c v).2 T := by
  unfold sp_hold
  split
  · rename_i hc
    obtain ⟨q, _, hq, rfl⟩ := rngN (a := 0) (b := 9) hc.1 (by decide) (by decide) (by decide)
    rw [nI_clamp (by omega)]
    refine inv_0 h (GI_spot h.1 (by omega) ?_)
    rcases hc.2 with e | e
    · rw [e, tn_1]; omega
    · have := rngI (a := 0) (b := 11) e (by decide) (by decide); omega
  · exact inv_bad h
theorem inv_chance {v : xV} {T : Nat} (h : Inv v T) (t n : Int32) : Inv (sp_chance t n v).2 T := by
  unfold sp_chance
  split
  · exact inv_0 h (GI_12 h.1)
  · exact inv_bad h
theorem inv_image {v : xV} {T : Nat} (h : Inv v T) : Inv (sp_image v).2 T := ⟨h.1, Or.inr ⟨rfl, h.1⟩, h.2.2⟩
theorem inv_tear {v : xV} {T : Nat} (h : Inv v T) : Inv (sp_tear v).2 T := ⟨h.1, Or.inl rfl, h.2.2⟩
theorem inv_undo {v : xV} {T : Nat} (h : Inv v T) : Inv (sp_undo v).2 T := by
  unfold sp_undo
  split
  · exact inv_noneF h
  · rename_i hk
    exact inv_0 h ((h.2.1.resolve_left hk).2)
theorem inv_sheet {v : xV} {T : Nat} (h : Inv v T) (s b n : Int32) : Inv (sp_sheet s b n v).2 T := by
  unfold sp_sheet
  split
  · rename_i hc
    split
    · exact inv_sizeF h
    split
    · exact inv_bad h
    rename_i h0 h40
    obtain ⟨q, _, hq, rfl⟩ := rngN (a := 0) (b := 3) hc.1 (by decide) (by decide) (by decide)
    rw [nI_clamp (by omega)]
    refine ⟨h.1, h.2.1, h.2.2.1, fun s hs => ?_, fun s hs => ?_⟩
    · show upd (v 5) q b s = 0 ∨ _
      by_cases e : s = q
      · subst e; show upd (v 5) s b s = 0 ∨ upd (v 5) s b s = 8 ∨ upd (v 5) s b s = 16 ∨ upd (v 5) s b s = 32; rw [upd_at]; exact hc.2
      · show upd (v 5) q b s = 0 ∨ upd (v 5) q b s = 8 ∨ upd (v 5) q b s = 16 ∨ upd (v 5) q b s = 32; rw [upd_ne e]; exact h.2.2.2.1 s hs
    · show 0 ≤ (upd (v 6) q (szI b n) s).toInt ∧ (upd (v 6) q (szI b n) s).toInt ≤ 40
      by_cases e : s = q
      · subst e
        rw [upd_at]
        unfold szI
        split
        · decide
        · rw [tI_lt, tI_0] at h0
          rw [tI_lt, tl_40] at h40
          omega
      · rw [upd_ne e]; exact h.2.2.2.2 s hs
  · exact inv_bad h
theorem inv_7 {v : xV} {T : Nat} (h : Inv v T) (f : Nat → Int32) : Inv (va_up v 7 f) T := h
theorem inv_write {v : xV} {T : Nat} (h : Inv v T) (s p x : Int32) : Inv (sp_write s p x v).2 T := by
  unfold sp_write wrS
  split
  · split
    · exact inv_miss h
    split
    · exact inv_7 h _
    · exact inv_bad h
  · exact inv_bad h
theorem inv_copy {v : xV} {T : Nat} (h : Inv v T) (a i b j n : Int32) : Inv (sp_copy a i b j n v).2 T := by
  unfold sp_copy copyS
  split
  · split
    · exact inv_miss h
    split
    · exact inv_kindF h
    split
    · exact inv_7 h _
    · exact inv_bad h
  · exact inv_bad h
theorem GI_ld {g M : Nat → Int32} {T q k : Nat} (h : GI g T) (hk : k ≤ 12) (hm : ∀ i, i < k → 0 ≤ (M (40 * q + i)).toInt ∧ (M (40 * q + i)).toInt ≤ 999) : GI (ldN g M q k) T := by
  have ho : ∀ i, ¬ (20 ≤ i ∧ i < 32) → ldN g M q k i = g i := fun i hi => by
    unfold ldN
    rw [if_neg (by omega)]
  refine GI_of h ?_ ?_ (ho _ (by omega)) (fun i hi => ho i (by omega)) (pks_of h.2.2.2.2.2 (fun i hi _ => ho i (by omega)))
  · intro i hi
    by_cases hin : 20 ≤ i ∧ i < 20 + k
    · unfold ldN
      rw [if_pos hin]
      have hm2 := hm (i - 20) (by omega)
      have e : i = 20 + (i - 20) := by omega
      have e2 := glo_20 (q := i - 20) (by omega)
      rw [← e] at e2
      rw [e2.1, e2.2]
      exact hm2
    · unfold ldN
      rw [if_neg hin]
      exact h.1 i hi
  · have := h.2.1
    unfold gT at this ⊢
    rw [ho 10 (by omega)]
    exact this
theorem first_all {P : Nat → Prop} [DecidablePred P] : ∀ n i, i < firstN P n → ¬ P i := by
  intro n
  induction n with
  | zero => intro i hi; exact absurd hi (Nat.not_lt_zero i)
  | succ n ih =>
    intro i hi
    unfold firstN at hi
    split at hi
    · exact ih i hi
    · rename_i h4
      have hm : firstN P n = n := Nat.le_antisymm (first_le n) (by omega)
      split at hi
      · exact ih i (by omega)
      · rename_i h5
        rcases Nat.lt_succ_iff_lt_or_eq.mp hi with h6 | h6
        · exact ih i (by omega)
        · rw [h6]; exact h5
theorem inv_load {v : xV} {T : Nat} (h : Inv v T) (s : Int32) : Inv (sp_load s v).2 T := by
  unfold sp_load loadS
  split
  · split
    · exact inv_miss h
    · refine inv_0 h (GI_ld h.1 (first_le 12) (fun i hi => ?_))
      have h1 := first_all 12 i hi
      have h2 := Decidable.not_not.mp (fun q => h1 (Or.inr q))
      have h3 := rng_iff.mp h2
      have hR := roomK_in (v 0 (32 + i))
      rw [tI_0] at h3
      unfold roomG at h3
      omega
  · exact inv_bad h
theorem pks_do {d n : Int32} {g : Nat → Int32} {T : Nat} (hd : deedOK d n) (hg : gI g) (hT : gT g T) (hT2 : T + 50 < 2147483647) (h : pks g) : pks (doG d n g) := by
  obtain ⟨⟨a1, a2⟩, b1, b2, b3, b4, b5⟩ := hd
  unfold doG
  split
  · rename_i h1
    rw [tI_lt, tl_7] at h1
    obtain ⟨j, hj, e⟩ := nI_is (b1 h1).1 (n := 11) (b1 h1).2 (by decide)
    rw [e, nI_clamp (by omega)]
    exact pks_low h (by omega)
  · split
    · rename_i h1 h2
      rw [tI_lt, tl_7] at h1
      rw [tI_lt, tl_11] at h2
      have e : (d - 7).toInt = d.toInt - 7 := by rw [tI_sub (by rw [tl_7]; omega) (by rw [tl_7]; omega), tl_7]
      obtain ⟨j, hj, e2⟩ := nI_is (x := d - 7) (by omega) (n := 3) (by omega) (by decide)
      rw [e2, nI_clamp (by omega)]
      exact pks_low h (by omega)
    · split
      · exact pks_touch h n
      · rename_i h1 h2 h3
        rw [tI_lt, tl_11] at h2
        rw [tI_eq, tl_11] at h3
        have h5 := b5 (by omega)
        obtain ⟨j, hj, e2⟩ := nI_is (x := n) (by omega) (n := 50) (by omega) (by decide)
        rw [e2, nI_clamp (by omega)]
        exact pks_steps hg hT h j (by omega)
theorem do_13 {d n : Int32} {g : Nat → Int32} {T : Nat} (hd : deedOK d n) (hT : gT g T) (hT2 : T + 50 < 2147483647) : doG d n g 13 = g 13 := by
  obtain ⟨⟨a1, a2⟩, b1, b2, b3, b4, b5⟩ := hd
  unfold doG
  split
  · rename_i h1
    rw [tI_lt, tl_7] at h1
    obtain ⟨j, hj, e⟩ := nI_is (b1 h1).1 (n := 11) (b1 h1).2 (by decide)
    rw [e, nI_clamp (by omega), upd_ne (by omega)]
  · split
    · rename_i h1 h2
      rw [tI_lt, tl_7] at h1
      rw [tI_lt, tl_11] at h2
      have e : (d - 7).toInt = d.toInt - 7 := by rw [tI_sub (by rw [tl_7]; omega) (by rw [tl_7]; omega), tl_7]
      obtain ⟨j, hj, e2⟩ := nI_is (x := d - 7) (by omega) (n := 3) (by omega) (by decide)
      rw [e2, nI_clamp (by omega), upd_ne (by omega)]
    · split
      · exact touch_13 g n
      · rename_i h1 h2 h3
        rw [tI_lt, tl_11] at h2
        rw [tI_eq, tl_11] at h3
        have h5 := b5 (by omega)
        obtain ⟨j, hj, e2⟩ := nI_is (x := n) (by omega) (n := 50) (by omega) (by decide)
        rw [e2, nI_clamp (by omega)]
        exact steps_13 hT j (by omega)
theorem GI_play {g : Nat → Int32} {T q c : Nat} (h : GI g T) (hT2 : T < 1073741824) (hd : ∀ k, k < c → deedOK (g (135 + 25 * q + 2 * k)) (g (136 + 25 * q + 2 * k))) (hc : c ≤ 12) : GI (playG g q c) (T + 600) := by
  have hp := play_inv h.1 h.2.1 hT2 hd hc
  have hx : ∀ k, k ≤ c → pks (playG g q k) ∧ playG g q k 13 = g 13 := by
    intro k
    induction k with
    | zero => intro _; exact ⟨h.2.2.2.2.2, rfl⟩
    | succ k ih =>
      intro hk
      obtain ⟨p1, p2, p3⟩ := hp k (by omega)
      obtain ⟨i1, i2⟩ := ih (by omega)
      exact ⟨pks_do (hd k (by omega)) p1 p2 (by omega) i1, (do_13 (hd k (by omega)) p2 (by omega)).trans i2⟩
  obtain ⟨p1, p2, p3⟩ := hp c (Nat.le_refl _)
  obtain ⟨i1, i2⟩ := hx c (Nat.le_refl _)
  exact GI_of h p1 (gT_up p2 (by omega)) i2 p3 i1
theorem inv_play {v : xV} {T : Nat} (h : Inv v T) (hT : T < 1073741824) (p : Int32) : Inv (sp_play p v).2 (T + 600) := by
  unfold sp_play
  split
  · rename_i hc
    obtain ⟨q, hq, rfl⟩ := rngPr h.1.2.2.1 hc
    rw [nI_clamp (by omega)]
    unfold playS
    have hq2 := h.1.2.2.2.2.1 q hq
    obtain ⟨c, hcb, e⟩ := nI_is (x := v 0 (134 + 25 * q)) hq2.1.1 (n := 12) hq2.1.2 (by decide)
    have hd := hq2.2
    rw [e, nI_clamp (by omega)] at hd ⊢
    exact inv_0 (h.up (by omega)) (GI_play h.1 hT hd hcb)
  · exact (inv_bad h).up (by omega)
/-! a text's deeds are such that may stand -/
def pK (q c : Nat) (G : Nat → Int32) : Prop := G (134 + 25 * q) = nI c ∧ ∀ k, k < c → deedOK (G (135 + 25 * q + 2 * k)) (G (136 + 25 * q + 2 * k))
theorem deed_lo : ∀ k, k < 13 → (if k = 10 ∨ k = 12 then (1 : Int32) else 0) = (xzl 2).getD k 0 := by decide +kernel
theorem deed_hi : ∀ k, k < 13 → (if k < 7 then (11 : Int32) else if k = 11 then 200 else if k = 12 then 50 else 99) = (xzl 3).getD k 0 := by decide +kernel
theorem deed_ok {g : Nat → Int32} {n e : Nat} (h : okD g n e) : deedOK (tV g n e) (nmD g n e) := by
  obtain ⟨k, hk, ek⟩ := okW_k h.1
  have hr := h.2.2
  rw [ek, nI_clamp (by omega), ← deed_lo k hk, ← deed_hi k hk] at hr
  have h3 := rng_iff.mp hr
  have hx : (tV g n e = 11 → ((nmD g n e).toInt = (tV g n (e2N g n e)).toInt ∨ (nmD g n e).toInt = -(tV g n (e2N g n e)).toInt)) ∧ (¬ tV g n e = 11 → nmD g n e = tV g n (e2N g n e)) := by
    unfold nmD
    constructor
    · intro h11
      split
      · right
        rw [ek] at h11
        have h11k : k = 11 := (nI_eq (b := 11) (by omega) (by decide)).mp h11
        subst h11k
        simp at h3
        rw [tI_neg (by omega)]
      · exact Or.inl rfl
    · intro h11
      rw [if_neg (fun z => h11 z.1)]
  rw [ek] at hx ⊢
  have h11 : nI k = 11 ↔ k = 11 := nI_eq (b := 11) (by omega) (by decide)
  rw [h11] at hx
  generalize tV g n (e2N g n e) = y at h3 hx
  generalize nmD g n e = m at hx
  unfold deedOK
  rw [nI_toInt (by omega)]
  by_cases h7 : k < 7
  · rw [hx.2 (by omega)]
    rw [if_pos h7, if_neg (by omega), tl_0, tl_11] at h3
    omega
  · rw [if_neg h7] at h3
    by_cases h11 : k = 11
    · rw [if_pos h11, if_neg (by omega), tl_0, tl_200] at h3
      have := hx.1 h11
      omega
    · rw [if_neg h11] at h3
      rw [hx.2 h11]
      by_cases h12 : k = 12
      · rw [if_pos h12, if_pos (by omega), tl_1, tl_50] at h3
        omega
      · rw [if_neg h12, tl_99] at h3
        by_cases h10 : k = 10
        · rw [if_pos (by omega), tl_1] at h3
          omega
        · rw [if_neg (by omega), tl_0] at h3
          omega
theorem pK_add {g : Nat → Int32} {n e q c : Nat} {G : Nat → Int32} (h : pK q c G) (hd : okD g n e) (hc : c < 12) : pK q (c + 1) (rdG q c (tV g n e) (nmD g n e) G) := by
  refine ⟨upd_at _ _ _, fun k hk => ?_⟩
  unfold rdG
  rw [upd_ne (by omega), upd_ne (show 136 + 25 * q + 2 * k ≠ 134 + 25 * q by omega)]
  rcases Nat.lt_succ_iff_lt_or_eq.mp hk with h1 | h1
  · rw [upd_ne (by omega), upd_ne (by omega), upd_ne (by omega), upd_ne (by omega)]
    exact h.2 k h1
  · subst h1
    rw [upd_ne (by omega), upd_at, upd_at]
    exact deed_ok hd
theorem rdG_ne {q c : Nat} {w x : Int32} {G : Nat → Int32} {i : Nat} (hc : c < 12) (hi : i < 134 + 25 * q ∨ 159 + 25 * q ≤ i) : rdG q c w x G i = G i := by
  unfold rdG
  rw [upd_ne (by omega), upd_ne (by omega), upd_ne (by omega)]
theorem rdP_in {g : Nat → Int32} {n q : Nat} : ∀ f e c G, c + f ≤ 12 → pK q c G → (∃ c2, c2 ≤ 12 ∧ pK q c2 (rdP g n q f e c G).2.2) ∧ ∀ i, (i < 134 + 25 * q ∨ 159 + 25 * q ≤ i) → (rdP g n q f e c G).2.2 i = G i := by
  intro f
  induction f with
  | zero => intro e c G hc h; exact ⟨⟨c, by omega, h⟩, fun _ _ => rfl⟩
  | succ f ih =>
    intro e c G hc h
    unfold rdP
    split
    · rename_i hd
      have h1 := pK_add h hd (by omega)
      split
      · exact ⟨⟨c + 1, by omega, h1⟩, fun i hi => rdG_ne (by omega) hi⟩
      split
      · obtain ⟨a1, a2⟩ := ih (nx g n (aft g n e)) (c + 1) _ (by omega) h1
        exact ⟨a1, fun i hi => (a2 i hi).trans (rdG_ne (by omega) hi)⟩
      · exact ⟨⟨c + 1, by omega, h1⟩, fun i hi => rdG_ne (by omega) hi⟩
    · exact ⟨⟨c, by omega, h⟩, fun _ _ => rfl⟩
theorem GI_pr {g f : Nat → Int32} {T q c : Nat} (h : GI g T) (hc : c ≤ 12) (hp : pK q c f) (hq : q < 6) (ho : ∀ i, (i < 134 + 25 * q ∨ 159 + 25 * q ≤ i) → f i = g i) : GI f T := by
  refine ⟨fun i hi => ?_, ?_, ?_, fun j hj => ?_, fun p hp2 => ?_, fun i hi => ?_⟩
  · rw [ho i (by omega)]
    exact h.1 i hi
  · have := h.2.1
    unfold gT at this ⊢
    rw [ho 10 (by omega)]
    exact this
  · rw [ho 13 (by omega)]
    exact h.2.2.1
  · rw [ho _ (by omega)]
    exact h.2.2.2.1 j hj
  · by_cases e : p = q
    · subst e
      rw [hp.1, nI_toInt (by omega), nI_clamp (by omega)]
      exact ⟨by omega, hp.2⟩
    · have h5 := h.2.2.2.2.1 p hp2
      rw [ho _ (by omega)]
      refine ⟨h5.1, fun k hk => ?_⟩
      obtain ⟨m, hm, em⟩ := nI_is (x := g (134 + 25 * p)) h5.1.1 (n := 12) h5.1.2 (by decide)
      have hk2 : k < m := by
        rw [em, nI_clamp (by omega)] at hk
        exact hk
      rw [ho _ (by omega), ho _ (by omega)]
      exact h5.2 k hk
  · rw [ho _ (by omega)]
    exact h.2.2.2.2.2 i hi
theorem GI_13 {g : Nat → Int32} {T : Nat} {x : Int32} (h : GI g T) (hx : 0 ≤ x.toInt ∧ x.toInt ≤ 6) : GI (upd g 13 x) T := by
  refine ⟨h.1.upd (fun _ => ?_), ?_, ?_, fun j hj => ?_, fun p hp => ?_, fun j hj => ?_⟩
  · have e : glo 13 = -2147483648 ∧ ghi 13 = 2147483647 := by decide
    rw [e.1, e.2]
    omega
  · have := h.2.1
    unfold gT at this ⊢
    rw [upd_ne (by omega)]
    exact this
  · rw [upd_at]
    exact hx
  · rw [upd_ne (by omega)]
    exact h.2.2.2.1 j hj
  · rw [upd_ne (by omega)]
    refine ⟨(h.2.2.2.2.1 p hp).1, fun k hk => ?_⟩
    rw [upd_ne (by omega), upd_ne (by omega)]
    exact (h.2.2.2.2.1 p hp).2 k hk
  · rw [upd_ne (by omega)]
    exact h.2.2.2.2.2 j hj
theorem inv_41 {v : xV} {T : Nat} (h : Inv v T) : Inv (u2 v 4 1 0) T := ⟨h.1, h.2.1, z_100, h.2.2.2⟩
theorem inv_program {v : xV} {T : Nat} (h : Inv v T) : Inv (sp_program v).2 T := by
  unfold sp_program
  split
  · rename_i hc
    obtain ⟨q, _, hq, e⟩ := rngN (a := 0) (b := 5) hc (by decide) (by decide) (by decide)
    obtain ⟨n, hn, en⟩ := nI_is (x := v 4 1) h.2.2.1.1 (n := 100) h.2.2.1.2 (by decide)
    have hp : pK q 0 (upd (v 0) (134 + 25 * q) 0) := ⟨upd_at _ _ _, fun k hk => absurd hk (Nat.not_lt_zero k)⟩
    obtain ⟨⟨c, hc2, a1⟩, a2⟩ := rdP_in (g := v 3) (n := n) (q := q) 12 0 0 _ (by decide) hp
    have hG : GI (rdR v n q).2.2 T := GI_pr h.1 hc2 a1 (by omega) (fun i hi => (a2 i hi).trans (upd_ne (by omega)))
    have h13 : (rdR v n q).2.2 13 = nI q := (a2 13 (by omega)).trans ((upd_ne (by omega)).trans e)
    unfold prgS
    rw [e, en, nI_clamp (by omega), nI_clamp (by omega)]
    split
    · refine inv_0 (inv_41 (inv_0 h hG)) (GI_13 hG ?_)
      rw [h13, show nI q + 1 = nI (q + 1) from nI_add q 1, nI_toInt (by omega)]
      omega
    · exact inv_41 (inv_0 h hG)
  · exact inv_full h
theorem inv_cupOf {v : xV} {T : Nat} (h : Inv v T) (c w : Int32) : Inv (sp_cupOf c w v).2 T := by
  unfold sp_cupOf
  (repeat' split) <;> first | exact h | exact inv_bad h | exact inv_noneF h | exact inv_miss h | exact inv_kindF h
theorem inv_as {v : xV} {T : Nat} (h : Inv v T) (p k : Int32) : Inv (sp_as p k v).2 T := by
  unfold sp_as asS
  (repeat' split) <;> first | exact h | exact inv_bad h | exact inv_noneF h | exact inv_miss h | exact inv_kindF h
theorem inv_turn {v : xV} {T : Nat} (h : Inv v T) (i w : Int32) : Inv (sp_turn i w v).2 T := by
  unfold sp_turn turnS
  (repeat' split) <;> first | exact h | exact inv_bad h | exact inv_noneF h | exact inv_miss h | exact inv_kindF h
theorem inv_rising {v : xV} {T : Nat} (h : Inv v T) : Inv (sp_rising v).2 T := by
  unfold sp_rising
  (repeat' split) <;> first | exact h | exact inv_bad h | exact inv_noneF h | exact inv_miss h | exact inv_kindF h
theorem inv_quickest {v : xV} {T : Nat} (h : Inv v T) : Inv (sp_quickest v).2 T := by
  unfold sp_quickest
  (repeat' split) <;> first | exact h | exact inv_bad h | exact inv_noneF h | exact inv_miss h | exact inv_kindF h
theorem inv_nextPeak {v : xV} {T : Nat} (h : Inv v T) (w : Int32) : Inv (sp_nextPeak w v).2 T := by
  unfold sp_nextPeak
  (repeat' split) <;> first | exact h | exact inv_bad h | exact inv_noneF h | exact inv_miss h | exact inv_kindF h
theorem inv_ahead {v : xV} {T : Nat} (h : Inv v T) (n w : Int32) : Inv (sp_ahead n w v).2 T := by
  unfold sp_ahead
  (repeat' split) <;> first | exact h | exact inv_bad h | exact inv_noneF h | exact inv_miss h | exact inv_kindF h
theorem inv_apart {v : xV} {T : Nat} (h : Inv v T) (y n : Int32) : Inv (sp_apart y n v).2 T := by
  unfold sp_apart
  (repeat' split) <;> first | exact h | exact inv_bad h | exact inv_noneF h | exact inv_miss h | exact inv_kindF h
theorem inv_parts {v : xV} {T : Nat} (h : Inv v T) (y m : Int32) : Inv (sp_parts y m v).2 T := by
  unfold sp_parts findS
  (repeat' split) <;> first | exact h | exact inv_bad h | exact inv_noneF h | exact inv_miss h | exact inv_kindF h
theorem inv_going {v : xV} {T : Nat} (h : Inv v T) (n : Int32) : Inv (sp_going n v).2 T := by
  unfold sp_going
  (repeat' split) <;> first | exact h | exact inv_bad h | exact inv_noneF h | exact inv_miss h | exact inv_kindF h
theorem inv_tapFor {v : xV} {T : Nat} (h : Inv v T) (y n : Int32) : Inv (sp_tapFor y n v).2 T := by
  unfold sp_tapFor tapS findS
  (repeat' split) <;> first | exact h | exact inv_bad h | exact inv_noneF h | exact inv_miss h | exact inv_kindF h
theorem inv_bounds {v : xV} {T : Nat} (h : Inv v T) (n w : Int32) : Inv (sp_bounds n w v).2 T := by
  unfold sp_bounds
  (repeat' split) <;> first | exact h | exact inv_bad h | exact inv_noneF h | exact inv_miss h | exact inv_kindF h
theorem inv_often {v : xV} {T : Nat} (h : Inv v T) (n : Int32) : Inv (sp_often n v).2 T := by
  unfold sp_often
  (repeat' split) <;> first | exact h | exact inv_bad h | exact inv_noneF h | exact inv_miss h | exact inv_kindF h
theorem inv_holds {v : xV} {T : Nat} (h : Inv v T) (n : Int32) : Inv (sp_holds n v).2 T := by
  unfold sp_holds holdS
  (repeat' split) <;> first | exact h | exact inv_bad h | exact inv_noneF h | exact inv_miss h | exact inv_kindF h
theorem inv_brief {v : xV} {T : Nat} (h : Inv v T) (x y n w : Int32) : Inv (sp_brief x y n w v).2 T := by
  unfold sp_brief briefS
  (repeat' split) <;> first | exact h | exact inv_bad h | exact inv_noneF h | exact inv_miss h | exact inv_kindF h
theorem inv_flips {v : xV} {T : Nat} (h : Inv v T) (x y n : Int32) : Inv (sp_flips x y n v).2 T := by
  unfold sp_flips
  (repeat' split) <;> first | exact h | exact inv_bad h | exact inv_noneF h | exact inv_miss h | exact inv_kindF h
theorem inv_programOf {v : xV} {T : Nat} (h : Inv v T) (p w : Int32) : Inv (sp_programOf p w v).2 T := by
  unfold sp_programOf progS
  (repeat' split) <;> first | exact h | exact inv_bad h | exact inv_noneF h | exact inv_miss h | exact inv_kindF h
theorem inv_judge {v : xV} {T : Nat} (h : Inv v T) (s : Int32) : Inv (sp_judge s v).2 T := by
  unfold sp_judge judS
  (repeat' split) <;> first | exact h | exact inv_bad h | exact inv_noneF h | exact inv_miss h | exact inv_kindF h
theorem inv_count {v : xV} {T : Nat} (h : Inv v T) (w : Int32) : Inv (sp_count w v).2 T := by
  unfold sp_count
  (repeat' split) <;> first | exact h | exact inv_bad h | exact inv_noneF h | exact inv_miss h | exact inv_kindF h
theorem inv_status {v : xV} {T : Nat} (h : Inv v T) (w : Int32) : Inv (sp_status w v).2 T := by
  unfold sp_status
  (repeat' split) <;> first | exact h | exact inv_bad h | exact inv_noneF h | exact inv_miss h | exact inv_kindF h
