/-! LeakCups$Wheel, the rest -/
def cpB (d : xDs) (w : Nat) (a b : Nat → Int32) : Nat → Int32 := fun i => if xin d w i = true then a i else b i
theorem cpB_in {σ S : Nat → Nat → Int32} {k w u n off st : Nat} {a b : Nat → Int32} {N : Int32} (hd : xd k = (9, [(n, w, off), (st, 0, 0)])) (hS : S = va_up σ w b) (hN : N.toNatClampNeg = n) (h0 : (0 : Int32).toNatClampNeg = 0) (ha : ∀ i, S u i = a i) : ∀ j, j < n → (va_up σ w (cpB (xd k) w a b)) w (off + st * j) = if (0 : Int32).toNatClampNeg ≤ j ∧ j < (0 : Int32).toNatClampNeg + N.toNatClampNeg then S u (off + st * ((0 : Int32).toNatClampNeg + (j - (0 : Int32).toNatClampNeg))) else S w (off + st * j) := by
  intro j hj
  rw [h0, hN, if_pos ⟨Nat.zero_le _, by omega⟩, va_up_self, ha, Nat.zero_add, Nat.sub_zero]
  unfold cpB
  have h := xin_arr (d := xd k) (by rw [hd]) (j := j) (by rw [hd]; exact hj)
  rw [hd] at h ⊢
  exact if_pos h
theorem cpB_out {σ S : Nat → Nat → Int32} {k w : Nat} {a b : Nat → Int32} (hS : S = va_up σ w b) : ∀ c i, xin (xd k) c i = false → (va_up σ w (cpB (xd k) w a b)) c i = S c i := by
  intro c i h
  subst hS
  by_cases hc : c = w
  · subst hc
    rw [va_up_self, va_up_self]
    unfold cpB
    rw [h]
    rfl
  · rw [va_up_ne _ _ hc, va_up_ne _ _ hc]
theorem xin_a {n b o st i : Nat} : xin (9, [(n, b, o), (st, 0, 0)]) b i = true ↔ o ≤ i ∧ (i - o) % st = 0 ∧ (i - o) / st < n := by
  show (b == b && (decide (o ≤ i) && ((i - o) % st == 0 && decide ((i - o) / st < n)))) = true ↔ _
  simp only [Bool.and_eq_true, beq_iff_eq, decide_eq_true_eq, true_and]
theorem mix_eq {w : Nat} (hw : w < 4) (a b : Nat → Int32) : upd (upd (upd (upd (upd (upd (upd (upd (cpB (xd (wc w + 5)) w a (cpB (xd (wc w + 4)) w a (cpB (xd (wc w + 3)) w a (cpB (xd (wc w + 2)) w a (cpB (xd (wc w + 1)) w a b))))) 4 (a 4)) 5 (a 5)) 6 (a 6)) 7 (a 7)) 8 (a 8)) 9 (a 9)) 10 (a 10)) 11 (a 11) = mixG a b := by
  rw [wd_1 hw, wd_2 hw, wd_3 hw, wd_4 hw, wd_5 hw]
  funext i
  by_cases h : i = 4 ∨ i = 5 ∨ i = 6 ∨ i = 7 ∨ i = 8 ∨ i = 9 ∨ i = 10 ∨ i = 11
  · rcases h with rfl | rfl | rfl | rfl | rfl | rfl | rfl | rfl <;> rfl
  · rw [upd_ne (by omega), upd_ne (by omega), upd_ne (by omega), upd_ne (by omega), upd_ne (by omega), upd_ne (by omega), upd_ne (by omega), upd_ne (by omega)]
    unfold cpB mixG
    simp only [xin_a]
    by_cases h5 : 45 ≤ i ∧ (i - 45) % 2 = 0 ∧ (i - 45) / 2 < 40
    · rw [if_pos h5, if_pos (by omega)]
    · rw [if_neg h5]
      by_cases h4 : 44 ≤ i ∧ (i - 44) % 2 = 0 ∧ (i - 44) / 2 < 40
      · rw [if_pos h4, if_pos (by omega)]
      · rw [if_neg h4]
        by_cases h3 : 20 ≤ i ∧ (i - 20) % 1 = 0 ∧ (i - 20) / 1 < 12
        · rw [if_pos h3, if_pos (by omega)]
        · rw [if_neg h3]
          by_cases h2 : 32 ≤ i ∧ (i - 32) % 1 = 0 ∧ (i - 32) / 1 < 12
          · rw [if_pos h2, if_pos (by omega)]
          · rw [if_neg h2]
            by_cases h1 : 0 ≤ i ∧ (i - 0) % 1 = 0 ∧ (i - 0) / 1 < 4
            · rw [if_pos h1, if_pos (by omega)]
            · rw [if_neg h1, if_neg (by omega)]
theorem kind_cases {x : Int32} (h : 0 ≤ x.toInt ∧ x.toInt ≤ 6) : x = 0 ∨ x = 1 ∨ x = 2 ∨ x = 3 ∨ x = 4 ∨ x = 5 ∨ x = 6 := by
  obtain ⟨j, hj, rfl⟩ := nI_is h.1 (n := 6) h.2 (by decide)
  have : j = 0 ∨ j = 1 ∨ j = 2 ∨ j = 3 ∨ j = 4 ∨ j = 5 ∨ j = 6 := by omega
  rcases this with rfl | rfl | rfl | rfl | rfl | rfl | rfl <;> decide
abbrev isK (own kind : Int32) : Prop := kind = 0 ∨ own = kind ∨ (kind = 2 ∧ (own = 4 ∨ own = 6)) ∨ (kind = 4 ∧ own = 6) ∨ (kind = 3 ∧ own = 5)
set_option maxHeartbeats 4000000 in
set_option maxRecDepth 100000 in
theorem cW_step (l : Launch) (E : xE) (σ : Nat → Nat → Int32) (τ : Nat → Int64) (w : Nat) (hw : w < 4) (g : Nat → Int32) (hg : gI g) (h0 : 0 ≤ (g 10).toInt) : xMv l yX6_step cX6_step 2 3 69 E [.ref (xad E (wc w))] (va_up σ w (g)) (τ) (va_up σ w (stepG g)) (τ) := by
  refine xMv_of (own := RX6) (by decide +kernel) rfl (Nat.le_of_ble_eq_true rfl) ?_
  intro zp ze zs zm za zb zh zc C
  refine WM.to (lv1 := [(0, .ref (xad E (wc w)))]) (st1 := []) (σ1 := va_up σ w (g)) (τ1 := τ) ?_ rfl rfl rfl rfl
  refine x_aload_n C 0 dX6_step_0 rfl rfl ?_
  refine x_callVv C (As := []) (rest := []) (cW_pour l E σ τ w hw g hg) kv_X6_95 (x_recv C (by have := wc_lt hw; omega) (wd_0 hw) rfl) ⟨Nat.le_of_ble_eq_true rfl, Nat.le_of_ble_eq_true rfl⟩ rfl rfl (Nat.le_of_ble_eq_true rfl) dX6_step_1 ?_
  refine x_iconst C (v := 0) dX6_step_4 (by decide) ?_
  refine x_istore_n C (lv1 := [(1, .int (0)), (0, .ref (xad E (wc w)))]) dX6_step_5 rfl (by decide) rfl ?_
  have loop : ∀ (j k : Nat), j + k = 12 → WM zp l ze { frames := 3, cells := 0, slots := 0, locals := 69 } zs zm za zb zh zc 0 0 (MQ zb (va_Qv (fun _ : Unit => True) (fun _ t => xP E (va_up σ w (stepG g)) (τ) t.heap) (xA E)) za zs 0 0 (xA E)) E (xA E) 2 (va_up σ w (drainsG (pourG g) k)) (τ) 6 [(0, .ref (xad E (wc w))), (1, .int (nI k))] [] := by
    intro j
    induction j with
    | zero =>
      intro k hk
      refine x_iload_n C 1 dX6_step_6 rfl rfl ?_
      refine x_bipush C (v := 12) dX6_step_7 (by decide) ?_
      refine x_icmp_ge C (tgt := 23) dX6_step_9 (by decide) (fun h1 => ?_) (fun h1 => absurd h1 (nI_nlt (a := k) (b := 12) (by omega) (by omega)))
      obtain rfl : k = 12 := by omega
      refine x_aload_n C 0 dX6_step_23 rfl rfl ?_
      refine x_callVv C (As := []) (rest := []) (cW_swing l E σ τ w hw (drainsG (pourG g) 12) (gI_drains (gI_pour hg) 12 (Nat.le_refl _))) kv_X6_102 (x_recv C (by have := wc_lt hw; omega) (wd_0 hw) rfl) ⟨Nat.le_of_ble_eq_true rfl, Nat.le_of_ble_eq_true rfl⟩ rfl rfl (Nat.le_of_ble_eq_true rfl) dX6_step_24 ?_
      refine x_aload_n C 0 dX6_step_27 rfl rfl ?_
      refine x_dup C dX6_step_28 rfl ?_
      refine x_get C (by have := wc_lt hw; omega) (wd_0 hw) fl_X6_49 (q := (1, w, 9)) (v := .int ((swingG (drainsG (pourG g) 12)) 9)) rfl (congrArg Value.int (congrFun (va_up_self _ _ _) _)) dX6_step_29 ?_
      refine x_iconst C (v := 1) dX6_step_32 (by decide) ?_
      refine x_iadd C dX6_step_33 ?_
      refine x_put C (σ' := va_up σ w (upd (swingG (drainsG (pourG g) 12)) 9 (((swingG (drainsG (pourG g) 12)) 9) + 1))) (by have := wc_lt hw; omega) (wd_0 hw) fp_X6_49 rfl rfl rfl (u2_bank _ _ _ _ _) dX6_step_34 ?_
      refine WM.to (σ1 := va_up σ w (preG g)) ?_ rfl rfl rfl rfl
      refine x_aload_n C 0 dX6_step_37 rfl rfl ?_
      refine x_callVv C (As := []) (rest := []) (cW_watchWay l E σ τ w hw (preG g) (gI_tick (gI_swing (gI_drains (gI_pour hg) 12 (Nat.le_refl _)))) (by rw [pre_10]; exact h0)) kv_X6_105 (x_recv C (by have := wc_lt hw; omega) (wd_0 hw) rfl) ⟨Nat.le_of_ble_eq_true rfl, Nat.le_of_ble_eq_true rfl⟩ rfl rfl (Nat.le_of_ble_eq_true rfl) dX6_step_38 ?_
      exact x_vret C rfl rfl dX6_step_41
    | succ j ih =>
      intro k hk
      refine x_iload_n C 1 dX6_step_6 rfl rfl ?_
      refine x_bipush C (v := 12) dX6_step_7 (by decide) ?_
      refine x_icmp_ge C (tgt := 23) dX6_step_9 (by decide) (fun h2 => absurd (nI_lt (a := k) (b := 12) (by omega) (by omega)) h2) (fun h2 => ?_)
      refine x_aload_n C 0 dX6_step_12 rfl rfl ?_
      refine x_iload_n C 1 dX6_step_13 rfl rfl ?_
      refine x_callVv C (As := [.int (nI k)]) (rest := []) (cW_drain l E σ τ w hw (drainsG (pourG g) k) k (by omega) (gI_drains (gI_pour hg) k (by omega))) kv_X6_98 (x_recv C (by have := wc_lt hw; omega) (wd_0 hw) rfl) ⟨Nat.le_of_ble_eq_true rfl, Nat.le_of_ble_eq_true rfl⟩ rfl rfl (Nat.le_of_ble_eq_true rfl) dX6_step_14 ?_
      refine x_iinc C (v := nI (k + 1)) (lv1 := [(1, .int (nI (k + 1))), (0, .ref (xad E (wc w)))]) 1 dX6_step_17 rfl (nI_add k 1) (by decide) rfl ?_
      refine x_goto2 C (tgt := 6) dX6_step_20 (by decide) ?_
      refine WM.keep [1, 0] (lv' := [(0, .ref (xad E (wc w))), (1, .int (nI (k + 1)))]) rfl ?_
      exact WM.to (ih (k + 1) (by omega)) rfl rfl rfl rfl
  refine WM.keep [1, 0] rfl ?_
  exact WM.to (loop (12) 0 (by omega)) rfl rfl rfl rfl
set_option maxHeartbeats 4000000 in
set_option maxRecDepth 100000 in
theorem cW_steps (l : Launch) (E : xE) (σ : Nat → Nat → Int32) (τ : Nat → Int64) (w : Nat) (hw : w < 4) (g : Nat → Int32) (n T : Nat) (hn : n ≤ 1000) (hg : gI g) (hT : gT g T) (hTn : T + n < 2147483647) : xMv l yX6_steps cX6_steps 3 4 90 E [.ref (xad E (wc w)), .int (nI n)] (va_up σ w (g)) (τ) (va_up σ w (stepsG g n)) (τ) := by
  refine xMv_of (own := RX6) (by decide +kernel) rfl (Nat.le_of_ble_eq_true rfl) ?_
  intro zp ze zs zm za zb zh zc C
  refine WM.to (lv1 := [(0, .ref (xad E (wc w))), (1, .int (nI n))]) (st1 := []) (σ1 := va_up σ w (g)) (τ1 := τ) ?_ rfl rfl rfl rfl
  refine x_iconst C (v := 0) dX6_steps_0 (by decide) ?_
  refine x_istore_n C (lv1 := [(2, .int (0)), (0, .ref (xad E (wc w))), (1, .int (nI n))]) dX6_steps_1 rfl (by decide) rfl ?_
  have loop : ∀ (j k : Nat), j + k = n → WM zp l ze { frames := 4, cells := 0, slots := 0, locals := 90 } zs zm za zb zh zc 0 0 (MQ zb (va_Qv (fun _ : Unit => True) (fun _ t => xP E (va_up σ w (stepsG g n)) (τ) t.heap) (xA E)) za zs 0 0 (xA E)) E (xA E) 3 (va_up σ w (stepsG g k)) (τ) 2 [(0, .ref (xad E (wc w))), (1, .int (nI n)), (2, .int (nI k))] [] := by
    intro j
    induction j with
    | zero =>
      intro k hk
      refine x_iload_n C 2 dX6_steps_2 rfl rfl ?_
      refine x_iload_n C 1 dX6_steps_3 rfl rfl ?_
      refine x_icmp_ge C (tgt := 17) dX6_steps_4 (by decide) (fun h1 => ?_) (fun h1 => absurd h1 (nI_nlt (a := k) (b := n) (by omega) (by omega)))
      exact x_vret C (by rw [show k = n by omega]) rfl dX6_steps_17
    | succ j ih =>
      intro k hk
      refine x_iload_n C 2 dX6_steps_2 rfl rfl ?_
      refine x_iload_n C 1 dX6_steps_3 rfl rfl ?_
      refine x_icmp_ge C (tgt := 17) dX6_steps_4 (by decide) (fun h2 => absurd (nI_lt (a := k) (b := n) (by omega) (by omega)) h2) (fun h2 => ?_)
      refine x_aload_n C 0 dX6_steps_7 rfl rfl ?_
      refine x_callVv C (As := []) (rest := []) (cW_step l E σ τ w hw (stepsG g k) (gI_steps hg k) (gT_steps hT k (by omega)).1) kv_X6_92 (x_recv C (by have := wc_lt hw; omega) (wd_0 hw) rfl) ⟨Nat.le_of_ble_eq_true rfl, Nat.le_of_ble_eq_true rfl⟩ rfl rfl (Nat.le_of_ble_eq_true rfl) dX6_steps_8 ?_
      refine x_iinc C (v := nI (k + 1)) (lv1 := [(2, .int (nI (k + 1))), (0, .ref (xad E (wc w))), (1, .int (nI n))]) 2 dX6_steps_11 rfl (nI_add k 1) (by decide) rfl ?_
      refine x_goto2 C (tgt := 2) dX6_steps_14 (by decide) ?_
      refine WM.keep [1, 2, 0] (lv' := [(0, .ref (xad E (wc w))), (1, .int (nI n)), (2, .int (nI (k + 1)))]) rfl ?_
      exact WM.to (ih (k + 1) (by omega)) rfl rfl rfl rfl
  refine WM.keep [1, 2, 0] rfl ?_
  exact WM.to (loop (n) 0 (by omega)) rfl rfl rfl rfl
set_option maxHeartbeats 4000000 in
set_option maxRecDepth 100000 in
theorem cW_goes (l : Launch) (E : xE) (σ : Nat → Nat → Int32) (τ : Nat → Int64) (w : Nat) (hw : w < 4) (g : Nat → Int32) (n T : Nat) (hn : n ≤ 1000) (hg : gI g) (hT : gT g T) (hTn : T + n < 2147483647) : xMi l yX6_goes cX6_goes 7 .int 5 112 E [.ref (xad E (wc w)), .int (nI n)] (va_up σ w (g)) (τ) (goesG g n) (va_up σ w (stepsG g n)) (τ) := by
  refine xMi_of (own := RX6) (by decide +kernel) rfl (Nat.le_of_ble_eq_true rfl) ?_
  intro zp ze zs zm za zb zh zc C
  refine WM.to (lv1 := [(0, .ref (xad E (wc w))), (1, .int (nI n))]) (st1 := []) (σ1 := va_up σ w (g)) (τ1 := τ) ?_ rfl rfl rfl rfl
  refine x_iload_n C 1 dX6_goes_0 rfl rfl ?_
  refine x_iconst C (v := 2) dX6_goes_1 (by decide) ?_
  refine x_idiv C dX6_goes_2 (by decide) ?_
  refine WM.topi (y := nI (n / 2)) (pk_div (by omega) (by decide) (by decide)) ?_
  refine x_istore_n C (lv1 := [(2, .int (nI (n / 2))), (0, .ref (xad E (wc w))), (1, .int (nI n))]) dX6_goes_3 rfl (by decide) rfl ?_
  refine x_aload_n C 1 dX6_goes_4 rfl rfl ?_
  refine x_get C (by have := wc_lt hw; omega) (wd_0 hw) fl_X6_52 (q := (1, w, 10)) (v := .int (g 10)) rfl (congrArg Value.int (congrFun (va_up_self _ _ _) _)) dX6_goes_5 ?_
  refine x_istore_n C (lv1 := [(3, .int (g 10)), (2, .int (nI (n / 2))), (0, .ref (xad E (wc w))), (1, .int (nI n))]) dX6_goes_8 rfl (by decide) rfl ?_
  refine x_aload_n C 2 dX6_goes_9 rfl rfl ?_
  refine x_iload_n C 1 dX6_goes_10 rfl rfl ?_
  refine x_callVv C (As := [.int (nI (n / 2))]) (rest := []) (cW_steps l E σ τ w hw g (n / 2) T (by omega) hg hT (by omega)) kv_X6_108 (x_recv C (by have := wc_lt hw; omega) (wd_0 hw) rfl) ⟨Nat.le_of_ble_eq_true rfl, Nat.le_of_ble_eq_true rfl⟩ rfl rfl (Nat.le_of_ble_eq_true rfl) dX6_goes_11 ?_
  refine x_aload_n C 2 dX6_goes_14 rfl rfl ?_
  refine x_get C (by have := wc_lt hw; omega) (wd_0 hw) fl_X6_52 (q := (1, w, 10)) (v := .int ((stepsG g (n / 2)) 10)) rfl (congrArg Value.int (congrFun (va_up_self _ _ _) _)) dX6_goes_15 ?_
  refine x_istore C (lv1 := [(4, .int ((stepsG g (n / 2)) 10)), (3, .int (g 10)), (2, .int (nI (n / 2))), (0, .ref (xad E (wc w))), (1, .int (nI n))]) dX6_goes_18 (by decide) rfl ?_
  refine x_iconst C (v := 1) dX6_goes_20 (by decide) ?_
  refine x_istore C (lv1 := [(5, .int (1)), (4, .int ((stepsG g (n / 2)) 10)), (3, .int (g 10)), (2, .int (nI (n / 2))), (0, .ref (xad E (wc w))), (1, .int (nI n))]) dX6_goes_21 (by decide) rfl ?_
  refine x_iload_n C 3 dX6_goes_23 rfl rfl ?_
  refine x_istore C (lv1 := [(6, .int (nI (n / 2))), (5, .int (1)), (4, .int ((stepsG g (n / 2)) 10)), (3, .int (g 10)), (2, .int (nI (n / 2))), (0, .ref (xad E (wc w))), (1, .int (nI n))]) dX6_goes_24 (by decide) rfl ?_
  have loop : ∀ (j k : Nat), j + k = n - n / 2 → WM zp l ze { frames := 5, cells := 0, slots := 0, locals := 112 } zs zm za zb zh zc 0 0 (MQ zb (va_Qi (fun r (_ : Unit) => r = (goesG g n)) (fun _ t => xP E (va_up σ w (stepsG g n)) (τ) t.heap) (xA E)) za zs 0 0 (xA E)) E (xA E) 7 (va_up σ w (stepsG g (n / 2 + k))) (τ) 26 [(0, .ref (xad E (wc w))), (1, .int (nI n)), (2, .int (nI (n / 2))), (3, .int (g 10)), (4, .int (stepsG g (n / 2) 10)), (5, .int (stillI g (n / 2) k)), (6, .int (nI (n / 2 + k)))] [] := by
    intro j
    induction j with
    | zero =>
      intro k hk
      refine x_iload C 6 dX6_goes_26 rfl ?_
      refine x_iload_n C 1 dX6_goes_28 rfl rfl ?_
      refine x_icmp_ge C (tgt := 61) dX6_goes_29 (by decide) (fun h1 => ?_) (fun h1 => absurd h1 (nI_nlt (a := n / 2 + k) (b := n) (by omega) (by omega)))
      obtain rfl : k = n - n / 2 := by omega
      have en : n / 2 + (n - n / 2) = n := by omega
      refine WM.to (σ1 := va_up σ w (stepsG g n)) (lv1 := [(0, .ref (xad E (wc w))), (1, .int (nI n)), (2, .int (nI (n / 2))), (3, .int (g 10)), (4, .int (stepsG g (n / 2) 10)), (5, .int (stillI g (n / 2) (n - n / 2))), (6, .int (nI n))]) ?_ (by rw [en]) rfl (by rw [en]) rfl
      refine x_iload C 5 dX6_goes_61 rfl ?_
      refine x_if_eq C (tgt := 68) dX6_goes_63 (by decide) (fun h2 => ?_) (fun h2 => ?_)
      · refine x_aload_n C 0 dX6_goes_68 rfl rfl ?_
        refine x_get C (by have := wc_lt hw; omega) (wd_0 hw) fl_X6_52 (q := (1, w, 10)) (v := .int ((stepsG g n) 10)) rfl (congrArg Value.int (congrFun (va_up_self _ _ _) _)) dX6_goes_69 ?_
        refine x_iload_n C 3 dX6_goes_72 rfl rfl ?_
        refine x_icmp_ne C (tgt := 78) dX6_goes_73 (by decide) (fun h3 => ?_) (fun h3 => ?_)
        · refine x_aload_n C 0 dX6_goes_78 rfl rfl ?_
          refine x_get C (by have := wc_lt hw; omega) (wd_0 hw) fl_X6_52 (q := (1, w, 10)) (v := .int ((stepsG g n) 10)) rfl (congrArg Value.int (congrFun (va_up_self _ _ _) _)) dX6_goes_79 ?_
          refine x_iload C 4 dX6_goes_82 rfl ?_
          refine x_icmp_ne C (tgt := 91) dX6_goes_84 (by decide) (fun h4 => ?_) (fun h4 => ?_)
          · refine x_iconst C (v := 3) dX6_goes_91 (by decide) ?_
            exact x_iret C (by unfold goesG; rw [if_neg (fun q => q h2), if_neg h3, if_neg h4]) rfl rfl dX6_goes_92
          · refine x_iconst C (v := 2) dX6_goes_87 (by decide) ?_
            refine x_goto2 C (tgt := 92) dX6_goes_88 (by decide) ?_
            exact x_iret C (by unfold goesG; rw [if_neg (fun q => q h2), if_neg h3, if_pos h4]) rfl rfl dX6_goes_92
        · refine x_iconst C (v := 1) dX6_goes_76 (by decide) ?_
          exact x_iret C (by unfold goesG; rw [if_neg (fun q => q h2), if_pos h3]) rfl rfl dX6_goes_77
      · refine x_iconst C (v := 0) dX6_goes_66 (by decide) ?_
        exact x_iret C (by unfold goesG; rw [if_pos h2]) rfl rfl dX6_goes_67
    | succ j ih =>
      intro k hk
      refine x_iload C 6 dX6_goes_26 rfl ?_
      refine x_iload_n C 1 dX6_goes_28 rfl rfl ?_
      refine x_icmp_ge C (tgt := 61) dX6_goes_29 (by decide) (fun h5 => absurd (nI_lt (a := n / 2 + k) (b := n) (by omega) (by omega)) h5) (fun h5 => ?_)
      refine x_aload_n C 0 dX6_goes_32 rfl rfl ?_
      refine x_callVv C (As := []) (rest := []) (cW_step l E σ τ w hw (stepsG g (n / 2 + k)) (gI_steps hg _) (gT_steps hT _ (by omega)).1) kv_X6_92 (x_recv C (by have := wc_lt hw; omega) (wd_0 hw) rfl) ⟨Nat.le_of_ble_eq_true rfl, Nat.le_of_ble_eq_true rfl⟩ rfl rfl (Nat.le_of_ble_eq_true rfl) dX6_goes_33 ?_
      refine WM.to (σ1 := va_up σ w (stepsG g (n / 2 + k + 1))) ?_ rfl rfl rfl rfl
      refine x_iload C 5 dX6_goes_36 rfl ?_
      refine x_if_eq C (tgt := 52) dX6_goes_38 (by decide) (fun h6 => ?_) (fun h6 => ?_)
      · refine x_iconst C (v := 0) dX6_goes_52 (by decide) ?_
        refine WM.topi (y := stillI g (n / 2) (k + 1)) (by simp [stillI, h6]) ?_
        refine x_istore C (lv1 := [(5, .int (stillI g (n / 2) (k + 1))), (0, .ref (xad E (wc w))), (1, .int (nI n)), (2, .int (nI (n / 2))), (3, .int (g 10)), (4, .int (stepsG g (n / 2) 10)), (6, .int (nI (n / 2 + k)))]) dX6_goes_53 (by decide) rfl ?_
        refine x_iinc C (v := nI (n / 2 + k + 1)) (lv1 := [(6, .int (nI (n / 2 + k + 1))), (5, .int (stillI g (n / 2) (k + 1))), (0, .ref (xad E (wc w))), (1, .int (nI n)), (2, .int (nI (n / 2))), (3, .int (g 10)), (4, .int (stepsG g (n / 2) 10))]) 6 dX6_goes_55 rfl (nI_add (n / 2 + k) 1) (by decide) rfl ?_
        refine x_goto2 C (tgt := 26) dX6_goes_58 (by decide) ?_
        refine WM.keep [2, 3, 4, 5, 6, 1, 0] (lv' := [(0, .ref (xad E (wc w))), (1, .int (nI n)), (2, .int (nI (n / 2))), (3, .int (g 10)), (4, .int (stepsG g (n / 2) 10)), (5, .int (stillI g (n / 2) (k + 1))), (6, .int (nI (n / 2 + k + 1)))]) rfl ?_
        exact WM.to (ih (k + 1) (by omega)) rfl rfl rfl rfl
      · refine x_aload_n C 0 dX6_goes_41 rfl rfl ?_
        refine x_get C (by have := wc_lt hw; omega) (wd_0 hw) fl_X6_33 (q := (1, w, 4)) (v := .int ((stepsG g (n / 2 + k + 1)) 4)) rfl (congrArg Value.int (congrFun (va_up_self _ _ _) _)) dX6_goes_42 ?_
        refine x_if_ne C (tgt := 52) dX6_goes_45 (by decide) (fun h7 => ?_) (fun h7 => ?_)
        · refine x_iconst C (v := 0) dX6_goes_52 (by decide) ?_
          refine WM.topi (y := stillI g (n / 2) (k + 1)) (by simp [stillI, h6, h7]) ?_
          refine x_istore C (lv1 := [(5, .int (stillI g (n / 2) (k + 1))), (0, .ref (xad E (wc w))), (1, .int (nI n)), (2, .int (nI (n / 2))), (3, .int (g 10)), (4, .int (stepsG g (n / 2) 10)), (6, .int (nI (n / 2 + k)))]) dX6_goes_53 (by decide) rfl ?_
          refine x_iinc C (v := nI (n / 2 + k + 1)) (lv1 := [(6, .int (nI (n / 2 + k + 1))), (5, .int (stillI g (n / 2) (k + 1))), (0, .ref (xad E (wc w))), (1, .int (nI n)), (2, .int (nI (n / 2))), (3, .int (g 10)), (4, .int (stepsG g (n / 2) 10))]) 6 dX6_goes_55 rfl (nI_add (n / 2 + k) 1) (by decide) rfl ?_
          refine x_goto2 C (tgt := 26) dX6_goes_58 (by decide) ?_
          refine WM.keep [2, 3, 4, 5, 6, 1, 0] (lv' := [(0, .ref (xad E (wc w))), (1, .int (nI n)), (2, .int (nI (n / 2))), (3, .int (g 10)), (4, .int (stepsG g (n / 2) 10)), (5, .int (stillI g (n / 2) (k + 1))), (6, .int (nI (n / 2 + k + 1)))]) rfl ?_
          exact WM.to (ih (k + 1) (by omega)) rfl rfl rfl rfl
        · refine x_iconst C (v := 1) dX6_goes_48 (by decide) ?_
          refine x_goto2 C (tgt := 53) dX6_goes_49 (by decide) ?_
          refine WM.topi (y := stillI g (n / 2) (k + 1)) (by simp [stillI, h6, h7]) ?_
          refine x_istore C (lv1 := [(5, .int (stillI g (n / 2) (k + 1))), (0, .ref (xad E (wc w))), (1, .int (nI n)), (2, .int (nI (n / 2))), (3, .int (g 10)), (4, .int (stepsG g (n / 2) 10)), (6, .int (nI (n / 2 + k)))]) dX6_goes_53 (by decide) rfl ?_
          refine x_iinc C (v := nI (n / 2 + k + 1)) (lv1 := [(6, .int (nI (n / 2 + k + 1))), (5, .int (stillI g (n / 2) (k + 1))), (0, .ref (xad E (wc w))), (1, .int (nI n)), (2, .int (nI (n / 2))), (3, .int (g 10)), (4, .int (stepsG g (n / 2) 10))]) 6 dX6_goes_55 rfl (nI_add (n / 2 + k) 1) (by decide) rfl ?_
          refine x_goto2 C (tgt := 26) dX6_goes_58 (by decide) ?_
          refine WM.keep [2, 3, 4, 5, 6, 1, 0] (lv' := [(0, .ref (xad E (wc w))), (1, .int (nI n)), (2, .int (nI (n / 2))), (3, .int (g 10)), (4, .int (stepsG g (n / 2) 10)), (5, .int (stillI g (n / 2) (k + 1))), (6, .int (nI (n / 2 + k + 1)))]) rfl ?_
          exact WM.to (ih (k + 1) (by omega)) rfl rfl rfl rfl
  refine WM.keep [5, 6, 4, 3, 2, 1, 0] rfl ?_
  exact WM.to (loop (n - n / 2) 0 (by omega)) rfl rfl rfl rfl
set_option maxHeartbeats 4000000 in
set_option maxRecDepth 100000 in
theorem cW_become (l : Launch) (E : xE) (σ : Nat → Nat → Int32) (τ : Nat → Int64) (w u : Nat) (hw : w < 4) (hu : u < 4) (hne : u ≠ w) : xMv l yX6_become cX6_become 2 1 60 E [.ref (xad E (wc w)), .ref (xad E (wc u))] (σ) (τ) (va_up σ w (mixG (σ u) (σ w))) (τ) := by
  refine xMv_of (own := RX6) (by decide +kernel) rfl (Nat.le_of_ble_eq_true rfl) ?_
  intro zp ze zs zm za zb zh zc C
  refine WM.to (lv1 := [(0, .ref (xad E (wc w))), (1, .ref (xad E (wc u)))]) (st1 := []) (σ1 := σ) (τ1 := τ) ?_ rfl rfl rfl rfl
  refine x_aload_n C 1 dX6_become_0 rfl rfl ?_
  refine x_get C (by have := wc_lt hu; omega) (wd_0 hu) fl_X6_9 (q := (0, wc u + 1, 0)) (v := .ref (xad E (wc u + 1))) rfl rfl dX6_become_1 ?_
  refine x_iconst C (v := 0) dX6_become_4 (by decide) ?_
  refine x_aload_n C 0 dX6_become_5 rfl rfl ?_
  refine x_get C (by have := wc_lt hw; omega) (wd_0 hw) fl_X6_9 (q := (0, wc w + 1, 0)) (v := .ref (xad E (wc w + 1))) rfl rfl dX6_become_6 ?_
  refine x_iconst C (v := 0) dX6_become_9 (by decide) ?_
  refine x_iconst C (v := 4) dX6_become_10 (by decide) ?_
  refine x_copy C (σ' := va_up σ w (cpB (xd (wc w + 1)) w (σ u) (σ w))) (by have := wc_lt hu; omega) (wd_1 hu) (by have := wc_lt hw; omega) (wd_1 hw) (by decide) (by decide) (by decide) (by decide) (by decide) (cpB_in (wd_1 hw) (xself σ w).symm (by decide) (by decide) (fun _ => rfl)) (cpB_out (xself σ w).symm) ⟨km_X6_27, kM_copy⟩ ⟨Nat.le_of_ble_eq_true rfl, Nat.le_of_ble_eq_true rfl⟩ dX6_become_11 ?_
  refine x_aload_n C 1 dX6_become_14 rfl rfl ?_
  refine x_get C (by have := wc_lt hu; omega) (wd_0 hu) fl_X6_15 (q := (0, wc u + 2, 0)) (v := .ref (xad E (wc u + 2))) rfl rfl dX6_become_15 ?_
  refine x_iconst C (v := 0) dX6_become_18 (by decide) ?_
  refine x_aload_n C 0 dX6_become_19 rfl rfl ?_
  refine x_get C (by have := wc_lt hw; omega) (wd_0 hw) fl_X6_15 (q := (0, wc w + 2, 0)) (v := .ref (xad E (wc w + 2))) rfl rfl dX6_become_20 ?_
  refine x_iconst C (v := 0) dX6_become_23 (by decide) ?_
  refine x_bipush C (v := 12) dX6_become_24 (by decide) ?_
  refine x_copy C (σ' := va_up σ w (cpB (xd (wc w + 2)) w (σ u) (cpB (xd (wc w + 1)) w (σ u) (σ w)))) (by have := wc_lt hu; omega) (wd_2 hu) (by have := wc_lt hw; omega) (wd_2 hw) (by decide) (by decide) (by decide) (by decide) (by decide) (cpB_in (wd_2 hw) rfl (by decide) (by decide) (fun _ => (congrFun (va_up_ne _ _ hne) _))) (cpB_out rfl) ⟨km_X6_27, kM_copy⟩ ⟨Nat.le_of_ble_eq_true rfl, Nat.le_of_ble_eq_true rfl⟩ dX6_become_26 ?_
  refine x_aload_n C 1 dX6_become_29 rfl rfl ?_
  refine x_get C (by have := wc_lt hu; omega) (wd_0 hu) fl_X6_18 (q := (0, wc u + 3, 0)) (v := .ref (xad E (wc u + 3))) rfl rfl dX6_become_30 ?_
  refine x_iconst C (v := 0) dX6_become_33 (by decide) ?_
  refine x_aload_n C 0 dX6_become_34 rfl rfl ?_
  refine x_get C (by have := wc_lt hw; omega) (wd_0 hw) fl_X6_18 (q := (0, wc w + 3, 0)) (v := .ref (xad E (wc w + 3))) rfl rfl dX6_become_35 ?_
  refine x_iconst C (v := 0) dX6_become_38 (by decide) ?_
  refine x_bipush C (v := 12) dX6_become_39 (by decide) ?_
  refine x_copy C (σ' := va_up σ w (cpB (xd (wc w + 3)) w (σ u) (cpB (xd (wc w + 2)) w (σ u) (cpB (xd (wc w + 1)) w (σ u) (σ w))))) (by have := wc_lt hu; omega) (wd_3 hu) (by have := wc_lt hw; omega) (wd_3 hw) (by decide) (by decide) (by decide) (by decide) (by decide) (cpB_in (wd_3 hw) rfl (by decide) (by decide) (fun _ => (congrFun (va_up_ne _ _ hne) _))) (cpB_out rfl) ⟨km_X6_27, kM_copy⟩ ⟨Nat.le_of_ble_eq_true rfl, Nat.le_of_ble_eq_true rfl⟩ dX6_become_41 ?_
  refine x_aload_n C 1 dX6_become_44 rfl rfl ?_
  refine x_get C (by have := wc_lt hu; omega) (wd_0 hu) fl_X6_21 (q := (0, wc u + 4, 0)) (v := .ref (xad E (wc u + 4))) rfl rfl dX6_become_45 ?_
  refine x_iconst C (v := 0) dX6_become_48 (by decide) ?_
  refine x_aload_n C 0 dX6_become_49 rfl rfl ?_
  refine x_get C (by have := wc_lt hw; omega) (wd_0 hw) fl_X6_21 (q := (0, wc w + 4, 0)) (v := .ref (xad E (wc w + 4))) rfl rfl dX6_become_50 ?_
  refine x_iconst C (v := 0) dX6_become_53 (by decide) ?_
  refine x_bipush C (v := 40) dX6_become_54 (by decide) ?_
  refine x_copy C (σ' := va_up σ w (cpB (xd (wc w + 4)) w (σ u) (cpB (xd (wc w + 3)) w (σ u) (cpB (xd (wc w + 2)) w (σ u) (cpB (xd (wc w + 1)) w (σ u) (σ w)))))) (by have := wc_lt hu; omega) (wd_4 hu) (by have := wc_lt hw; omega) (wd_4 hw) (by decide) (by decide) (by decide) (by decide) (by decide) (cpB_in (wd_4 hw) rfl (by decide) (by decide) (fun _ => (congrFun (va_up_ne _ _ hne) _))) (cpB_out rfl) ⟨km_X6_27, kM_copy⟩ ⟨Nat.le_of_ble_eq_true rfl, Nat.le_of_ble_eq_true rfl⟩ dX6_become_56 ?_
  refine x_aload_n C 1 dX6_become_59 rfl rfl ?_
  refine x_get C (by have := wc_lt hu; omega) (wd_0 hu) fl_X6_24 (q := (0, wc u + 5, 0)) (v := .ref (xad E (wc u + 5))) rfl rfl dX6_become_60 ?_
  refine x_iconst C (v := 0) dX6_become_63 (by decide) ?_
  refine x_aload_n C 0 dX6_become_64 rfl rfl ?_
  refine x_get C (by have := wc_lt hw; omega) (wd_0 hw) fl_X6_24 (q := (0, wc w + 5, 0)) (v := .ref (xad E (wc w + 5))) rfl rfl dX6_become_65 ?_
  refine x_iconst C (v := 0) dX6_become_68 (by decide) ?_
  refine x_bipush C (v := 40) dX6_become_69 (by decide) ?_
  refine x_copy C (σ' := va_up σ w (cpB (xd (wc w + 5)) w (σ u) (cpB (xd (wc w + 4)) w (σ u) (cpB (xd (wc w + 3)) w (σ u) (cpB (xd (wc w + 2)) w (σ u) (cpB (xd (wc w + 1)) w (σ u) (σ w))))))) (by have := wc_lt hu; omega) (wd_5 hu) (by have := wc_lt hw; omega) (wd_5 hw) (by decide) (by decide) (by decide) (by decide) (by decide) (cpB_in (wd_5 hw) rfl (by decide) (by decide) (fun _ => (congrFun (va_up_ne _ _ hne) _))) (cpB_out rfl) ⟨km_X6_27, kM_copy⟩ ⟨Nat.le_of_ble_eq_true rfl, Nat.le_of_ble_eq_true rfl⟩ dX6_become_71 ?_
  refine x_aload_n C 0 dX6_become_74 rfl rfl ?_
  refine x_aload_n C 1 dX6_become_75 rfl rfl ?_
  refine x_get C (by have := wc_lt hu; omega) (wd_0 hu) fl_X6_33 (q := (1, u, 4)) (v := .int (σ u 4)) rfl (congrArg Value.int (congrFun (va_up_ne _ (j := u) (k := w) _ (by omega)) _)) dX6_become_76 ?_
  refine x_put C (σ' := va_up σ w (upd (cpB (xd (wc w + 5)) w (σ u) (cpB (xd (wc w + 4)) w (σ u) (cpB (xd (wc w + 3)) w (σ u) (cpB (xd (wc w + 2)) w (σ u) (cpB (xd (wc w + 1)) w (σ u) (σ w)))))) 4 (σ u 4))) (by have := wc_lt hw; omega) (wd_0 hw) fp_X6_33 rfl rfl rfl (u2_bank _ _ _ _ _) dX6_become_79 ?_
  refine x_aload_n C 0 dX6_become_82 rfl rfl ?_
  refine x_aload_n C 1 dX6_become_83 rfl rfl ?_
  refine x_get C (by have := wc_lt hu; omega) (wd_0 hu) fl_X6_37 (q := (1, u, 5)) (v := .int (σ u 5)) rfl (congrArg Value.int (congrFun (va_up_ne _ (j := u) (k := w) _ (by omega)) _)) dX6_become_84 ?_
  refine x_put C (σ' := va_up σ w (upd (upd (cpB (xd (wc w + 5)) w (σ u) (cpB (xd (wc w + 4)) w (σ u) (cpB (xd (wc w + 3)) w (σ u) (cpB (xd (wc w + 2)) w (σ u) (cpB (xd (wc w + 1)) w (σ u) (σ w)))))) 4 (σ u 4)) 5 (σ u 5))) (by have := wc_lt hw; omega) (wd_0 hw) fp_X6_37 rfl rfl rfl (u2_bank _ _ _ _ _) dX6_become_87 ?_
  refine x_aload_n C 0 dX6_become_90 rfl rfl ?_
  refine x_aload_n C 1 dX6_become_91 rfl rfl ?_
  refine x_get C (by have := wc_lt hu; omega) (wd_0 hu) fl_X6_40 (q := (1, u, 6)) (v := .int (σ u 6)) rfl (congrArg Value.int (congrFun (va_up_ne _ (j := u) (k := w) _ (by omega)) _)) dX6_become_92 ?_
  refine x_put C (σ' := va_up σ w (upd (upd (upd (cpB (xd (wc w + 5)) w (σ u) (cpB (xd (wc w + 4)) w (σ u) (cpB (xd (wc w + 3)) w (σ u) (cpB (xd (wc w + 2)) w (σ u) (cpB (xd (wc w + 1)) w (σ u) (σ w)))))) 4 (σ u 4)) 5 (σ u 5)) 6 (σ u 6))) (by have := wc_lt hw; omega) (wd_0 hw) fp_X6_40 rfl rfl rfl (u2_bank _ _ _ _ _) dX6_become_95 ?_
  refine x_aload_n C 0 dX6_become_98 rfl rfl ?_
  refine x_aload_n C 1 dX6_become_99 rfl rfl ?_
  refine x_get C (by have := wc_lt hu; omega) (wd_0 hu) fl_X6_43 (q := (1, u, 7)) (v := .int (σ u 7)) rfl (congrArg Value.int (congrFun (va_up_ne _ (j := u) (k := w) _ (by omega)) _)) dX6_become_100 ?_
  refine x_put C (σ' := va_up σ w (upd (upd (upd (upd (cpB (xd (wc w + 5)) w (σ u) (cpB (xd (wc w + 4)) w (σ u) (cpB (xd (wc w + 3)) w (σ u) (cpB (xd (wc w + 2)) w (σ u) (cpB (xd (wc w + 1)) w (σ u) (σ w)))))) 4 (σ u 4)) 5 (σ u 5)) 6 (σ u 6)) 7 (σ u 7))) (by have := wc_lt hw; omega) (wd_0 hw) fp_X6_43 rfl rfl rfl (u2_bank _ _ _ _ _) dX6_become_103 ?_
  refine x_aload_n C 0 dX6_become_106 rfl rfl ?_
  refine x_aload_n C 1 dX6_become_107 rfl rfl ?_
  refine x_get C (by have := wc_lt hu; omega) (wd_0 hu) fl_X6_46 (q := (1, u, 8)) (v := .int (σ u 8)) rfl (congrArg Value.int (congrFun (va_up_ne _ (j := u) (k := w) _ (by omega)) _)) dX6_become_108 ?_
  refine x_put C (σ' := va_up σ w (upd (upd (upd (upd (upd (cpB (xd (wc w + 5)) w (σ u) (cpB (xd (wc w + 4)) w (σ u) (cpB (xd (wc w + 3)) w (σ u) (cpB (xd (wc w + 2)) w (σ u) (cpB (xd (wc w + 1)) w (σ u) (σ w)))))) 4 (σ u 4)) 5 (σ u 5)) 6 (σ u 6)) 7 (σ u 7)) 8 (σ u 8))) (by have := wc_lt hw; omega) (wd_0 hw) fp_X6_46 rfl rfl rfl (u2_bank _ _ _ _ _) dX6_become_111 ?_
  refine x_aload_n C 0 dX6_become_114 rfl rfl ?_
  refine x_aload_n C 1 dX6_become_115 rfl rfl ?_
  refine x_get C (by have := wc_lt hu; omega) (wd_0 hu) fl_X6_49 (q := (1, u, 9)) (v := .int (σ u 9)) rfl (congrArg Value.int (congrFun (va_up_ne _ (j := u) (k := w) _ (by omega)) _)) dX6_become_116 ?_
  refine x_put C (σ' := va_up σ w (upd (upd (upd (upd (upd (upd (cpB (xd (wc w + 5)) w (σ u) (cpB (xd (wc w + 4)) w (σ u) (cpB (xd (wc w + 3)) w (σ u) (cpB (xd (wc w + 2)) w (σ u) (cpB (xd (wc w + 1)) w (σ u) (σ w)))))) 4 (σ u 4)) 5 (σ u 5)) 6 (σ u 6)) 7 (σ u 7)) 8 (σ u 8)) 9 (σ u 9))) (by have := wc_lt hw; omega) (wd_0 hw) fp_X6_49 rfl rfl rfl (u2_bank _ _ _ _ _) dX6_become_119 ?_
  refine x_aload_n C 0 dX6_become_122 rfl rfl ?_
  refine x_aload_n C 1 dX6_become_123 rfl rfl ?_
  refine x_get C (by have := wc_lt hu; omega) (wd_0 hu) fl_X6_52 (q := (1, u, 10)) (v := .int (σ u 10)) rfl (congrArg Value.int (congrFun (va_up_ne _ (j := u) (k := w) _ (by omega)) _)) dX6_become_124 ?_
  refine x_put C (σ' := va_up σ w (upd (upd (upd (upd (upd (upd (upd (cpB (xd (wc w + 5)) w (σ u) (cpB (xd (wc w + 4)) w (σ u) (cpB (xd (wc w + 3)) w (σ u) (cpB (xd (wc w + 2)) w (σ u) (cpB (xd (wc w + 1)) w (σ u) (σ w)))))) 4 (σ u 4)) 5 (σ u 5)) 6 (σ u 6)) 7 (σ u 7)) 8 (σ u 8)) 9 (σ u 9)) 10 (σ u 10))) (by have := wc_lt hw; omega) (wd_0 hw) fp_X6_52 rfl rfl rfl (u2_bank _ _ _ _ _) dX6_become_127 ?_
  refine x_aload_n C 0 dX6_become_130 rfl rfl ?_
  refine x_aload_n C 1 dX6_become_131 rfl rfl ?_
  refine x_get C (by have := wc_lt hu; omega) (wd_0 hu) fl_X6_55 (q := (1, u, 11)) (v := .int (σ u 11)) rfl (congrArg Value.int (congrFun (va_up_ne _ (j := u) (k := w) _ (by omega)) _)) dX6_become_132 ?_
  refine x_put C (σ' := va_up σ w (upd (upd (upd (upd (upd (upd (upd (upd (cpB (xd (wc w + 5)) w (σ u) (cpB (xd (wc w + 4)) w (σ u) (cpB (xd (wc w + 3)) w (σ u) (cpB (xd (wc w + 2)) w (σ u) (cpB (xd (wc w + 1)) w (σ u) (σ w)))))) 4 (σ u 4)) 5 (σ u 5)) 6 (σ u 6)) 7 (σ u 7)) 8 (σ u 8)) 9 (σ u 9)) 10 (σ u 10)) 11 (σ u 11))) (by have := wc_lt hw; omega) (wd_0 hw) fp_X6_55 rfl rfl rfl (u2_bank _ _ _ _ _) dX6_become_135 ?_
  exact x_vret C (congrArg (va_up _ _) (mix_eq hw _ _)) rfl dX6_become_138
set_option maxHeartbeats 4000000 in
set_option maxRecDepth 100000 in
theorem cW_isOf (l : Launch) (E : xE) (σ : Nat → Nat → Int32) (τ : Nat → Int64) (w : Nat) (hw : w < 4) (g : Nat → Int32) (q : Nat) (hc : q < 12) (hg : gI g) (kind : Int32) : xMi l yX6_isOf cX6_isOf 5 .boolean 1 22 E [.ref (xad E (wc w)), .int (nI q), .int (kind)] (va_up σ w (g)) (τ) (if isK (g (32 + q)) kind then 1 else 0) (va_up σ w (g)) (τ) := by
  refine xMi_of (own := RX6) (by decide +kernel) rfl (Nat.le_of_ble_eq_true rfl) ?_
  intro zp ze zs zm za zb zh zc C
  refine WM.to (lv1 := [(0, .ref (xad E (wc w))), (1, .int (nI q)), (2, .int (kind))]) (st1 := []) (σ1 := va_up σ w (g)) (τ1 := τ) ?_ rfl rfl rfl rfl
  refine x_aload_n C 0 dX6_isOf_0 rfl rfl ?_
  refine x_get C (by have := wc_lt hw; omega) (wd_0 hw) fl_X6_15 (q := (0, wc w + 2, 0)) (v := .ref (xad E (wc w + 2))) rfl rfl dX6_isOf_1 ?_
  refine x_iload_n C 1 dX6_isOf_4 rfl rfl ?_
  refine x_ald C (by have := wc_lt hw; omega) (wd_2 hw) (v := g (32 + q)) (vp_in_nI (show q < 12 by omega) (by decide)) (by rw [(nI_clamp (show q < 2 ^ 31 by omega)), Nat.one_mul]; exact (congrFun (va_up_self _ _ _) _)) dX6_isOf_5 ?_
  rcases kind_cases (hg.k hc) with e | e | e | e | e | e | e
  · refine WM.topi (y := 0) e ?_
    refine x_istore_n C (lv1 := [(3, .int (0)), (0, .ref (xad E (wc w))), (1, .int (nI q)), (2, .int (kind))]) dX6_isOf_6 rfl (by decide) rfl ?_
    refine x_iconst C (v := 0) dX6_isOf_7 (by decide) ?_
    refine x_istore C (lv1 := [(4, .int (0)), (3, .int (0)), (0, .ref (xad E (wc w))), (1, .int (nI q)), (2, .int (kind))]) dX6_isOf_8 (by decide) rfl ?_
    refine x_iload C 0 dX6_isOf_10 rfl ?_
    refine x_bipush C (v := 7) dX6_isOf_12 (by decide) ?_
    refine x_icmp_ge C (tgt := 46) dX6_isOf_14 (by decide) (fun h1 => absurd h1 (by decide)) (fun h1 => ?_)
    refine x_iload_n C 1 dX6_isOf_17 rfl rfl ?_
    refine x_iconst C (v := 0) dX6_isOf_18 (by decide) ?_
    refine x_bipush C (v := 6) dX6_isOf_19 (by decide) ?_
    refine x_callNi C (As := [.int (0), .int (0), .int (6)]) (rest := []) (c_within l E (va_up σ w (g)) τ 0 0 6) kn_X6_67 ⟨Nat.le_of_ble_eq_true rfl, Nat.le_of_ble_eq_true rfl⟩ rfl rfl (Nat.le_of_ble_eq_true rfl) dX6_isOf_21 ?_
    refine x_ifeqB C (tgt := 46) dX6_isOf_24 (by decide) (fun h2 => absurd h2 (by decide)) (fun h2 => ?_)
    refine x_iload_n C 1 dX6_isOf_27 rfl rfl ?_
    refine x_iload_n C 4 dX6_isOf_28 rfl rfl ?_
    refine x_icmp_ne C (tgt := 34) dX6_isOf_29 (by decide) (fun h3 => ?_) (fun h3 => ?_)
    · refine x_gets C 4 (by decide) fs_X6_71 dX6_isOf_34 ?_
      refine x_iload_n C 1 dX6_isOf_37 rfl rfl ?_
      refine x_ti C 4 (by decide) (v := (-1)) (vp_in_nI (n := 0) (by decide) (by decide)) (by decide +kernel) dX6_isOf_38 ?_
      refine x_istore_n C (lv1 := [(3, .int ((-1))), (4, .int (0)), (0, .ref (xad E (wc w))), (1, .int (nI q)), (2, .int (kind))]) dX6_isOf_39 rfl (by decide) rfl ?_
      refine x_iinc C (v := 1) (lv1 := [(4, .int (1)), (3, .int ((-1))), (0, .ref (xad E (wc w))), (1, .int (nI q)), (2, .int (kind))]) 1 dX6_isOf_40 rfl (by decide) (by decide) rfl ?_
      refine x_goto2 C (tgt := 10) dX6_isOf_43 (by decide) ?_
      refine x_iload C 0 dX6_isOf_10 rfl ?_
      refine x_bipush C (v := 7) dX6_isOf_12 (by decide) ?_
      refine x_icmp_ge C (tgt := 46) dX6_isOf_14 (by decide) (fun h4 => absurd h4 (by decide)) (fun h4 => ?_)
      refine x_iload_n C 1 dX6_isOf_17 rfl rfl ?_
      refine x_iconst C (v := 0) dX6_isOf_18 (by decide) ?_
      refine x_bipush C (v := 6) dX6_isOf_19 (by decide) ?_
      refine x_callNi C (As := [.int ((-1)), .int (0), .int (6)]) (rest := []) (c_within l E (va_up σ w (g)) τ (-1) 0 6) kn_X6_67 ⟨Nat.le_of_ble_eq_true rfl, Nat.le_of_ble_eq_true rfl⟩ rfl rfl (Nat.le_of_ble_eq_true rfl) dX6_isOf_21 ?_
      refine x_ifeqB C (tgt := 46) dX6_isOf_24 (by decide) (fun h5 => ?_) (fun h5 => absurd h5 (by decide))
      refine x_iconst C (v := 0) dX6_isOf_46 (by decide) ?_
      exact x_zret C rfl (by rw [e]; simp [isK, h3, Ne.symm h3]) rfl rfl dX6_isOf_47
    · refine x_iconst C (v := 1) dX6_isOf_32 (by decide) ?_
      exact x_zret C rfl (by rw [e]; subst h3; decide) rfl rfl dX6_isOf_33
  · refine WM.topi (y := 1) e ?_
    refine x_istore_n C (lv1 := [(3, .int (1)), (0, .ref (xad E (wc w))), (1, .int (nI q)), (2, .int (kind))]) dX6_isOf_6 rfl (by decide) rfl ?_
    refine x_iconst C (v := 0) dX6_isOf_7 (by decide) ?_
    refine x_istore C (lv1 := [(4, .int (0)), (3, .int (1)), (0, .ref (xad E (wc w))), (1, .int (nI q)), (2, .int (kind))]) dX6_isOf_8 (by decide) rfl ?_
    refine x_iload C 0 dX6_isOf_10 rfl ?_
    refine x_bipush C (v := 7) dX6_isOf_12 (by decide) ?_
    refine x_icmp_ge C (tgt := 46) dX6_isOf_14 (by decide) (fun h6 => absurd h6 (by decide)) (fun h6 => ?_)
    refine x_iload_n C 1 dX6_isOf_17 rfl rfl ?_
    refine x_iconst C (v := 0) dX6_isOf_18 (by decide) ?_
    refine x_bipush C (v := 6) dX6_isOf_19 (by decide) ?_
    refine x_callNi C (As := [.int (1), .int (0), .int (6)]) (rest := []) (c_within l E (va_up σ w (g)) τ 1 0 6) kn_X6_67 ⟨Nat.le_of_ble_eq_true rfl, Nat.le_of_ble_eq_true rfl⟩ rfl rfl (Nat.le_of_ble_eq_true rfl) dX6_isOf_21 ?_
    refine x_ifeqB C (tgt := 46) dX6_isOf_24 (by decide) (fun h7 => absurd h7 (by decide)) (fun h7 => ?_)
    refine x_iload_n C 1 dX6_isOf_27 rfl rfl ?_
    refine x_iload_n C 4 dX6_isOf_28 rfl rfl ?_
    refine x_icmp_ne C (tgt := 34) dX6_isOf_29 (by decide) (fun h8 => ?_) (fun h8 => ?_)
    · refine x_gets C 4 (by decide) fs_X6_71 dX6_isOf_34 ?_
      refine x_iload_n C 1 dX6_isOf_37 rfl rfl ?_
      refine x_ti C 4 (by decide) (v := 0) (vp_in_nI (n := 1) (by decide) (by decide)) (by decide +kernel) dX6_isOf_38 ?_
      refine x_istore_n C (lv1 := [(3, .int (0)), (4, .int (0)), (0, .ref (xad E (wc w))), (1, .int (nI q)), (2, .int (kind))]) dX6_isOf_39 rfl (by decide) rfl ?_
      refine x_iinc C (v := 1) (lv1 := [(4, .int (1)), (3, .int (0)), (0, .ref (xad E (wc w))), (1, .int (nI q)), (2, .int (kind))]) 1 dX6_isOf_40 rfl (by decide) (by decide) rfl ?_
      refine x_goto2 C (tgt := 10) dX6_isOf_43 (by decide) ?_
      refine x_iload C 0 dX6_isOf_10 rfl ?_
      refine x_bipush C (v := 7) dX6_isOf_12 (by decide) ?_
      refine x_icmp_ge C (tgt := 46) dX6_isOf_14 (by decide) (fun h9 => absurd h9 (by decide)) (fun h9 => ?_)
      refine x_iload_n C 1 dX6_isOf_17 rfl rfl ?_
      refine x_iconst C (v := 0) dX6_isOf_18 (by decide) ?_
      refine x_bipush C (v := 6) dX6_isOf_19 (by decide) ?_
      refine x_callNi C (As := [.int (0), .int (0), .int (6)]) (rest := []) (c_within l E (va_up σ w (g)) τ 0 0 6) kn_X6_67 ⟨Nat.le_of_ble_eq_true rfl, Nat.le_of_ble_eq_true rfl⟩ rfl rfl (Nat.le_of_ble_eq_true rfl) dX6_isOf_21 ?_
      refine x_ifeqB C (tgt := 46) dX6_isOf_24 (by decide) (fun h10 => absurd h10 (by decide)) (fun h10 => ?_)
      refine x_iload_n C 1 dX6_isOf_27 rfl rfl ?_
      refine x_iload_n C 4 dX6_isOf_28 rfl rfl ?_
      refine x_icmp_ne C (tgt := 34) dX6_isOf_29 (by decide) (fun h11 => ?_) (fun h11 => ?_)
      · refine x_gets C 4 (by decide) fs_X6_71 dX6_isOf_34 ?_
        refine x_iload_n C 1 dX6_isOf_37 rfl rfl ?_
        refine x_ti C 4 (by decide) (v := (-1)) (vp_in_nI (n := 0) (by decide) (by decide)) (by decide +kernel) dX6_isOf_38 ?_
        refine x_istore_n C (lv1 := [(3, .int ((-1))), (4, .int (1)), (0, .ref (xad E (wc w))), (1, .int (nI q)), (2, .int (kind))]) dX6_isOf_39 rfl (by decide) rfl ?_
        refine x_iinc C (v := 2) (lv1 := [(4, .int (2)), (3, .int ((-1))), (0, .ref (xad E (wc w))), (1, .int (nI q)), (2, .int (kind))]) 1 dX6_isOf_40 rfl (by decide) (by decide) rfl ?_
        refine x_goto2 C (tgt := 10) dX6_isOf_43 (by decide) ?_
        refine x_iload C 0 dX6_isOf_10 rfl ?_
        refine x_bipush C (v := 7) dX6_isOf_12 (by decide) ?_
        refine x_icmp_ge C (tgt := 46) dX6_isOf_14 (by decide) (fun h12 => absurd h12 (by decide)) (fun h12 => ?_)
        refine x_iload_n C 1 dX6_isOf_17 rfl rfl ?_
        refine x_iconst C (v := 0) dX6_isOf_18 (by decide) ?_
        refine x_bipush C (v := 6) dX6_isOf_19 (by decide) ?_
        refine x_callNi C (As := [.int ((-1)), .int (0), .int (6)]) (rest := []) (c_within l E (va_up σ w (g)) τ (-1) 0 6) kn_X6_67 ⟨Nat.le_of_ble_eq_true rfl, Nat.le_of_ble_eq_true rfl⟩ rfl rfl (Nat.le_of_ble_eq_true rfl) dX6_isOf_21 ?_
        refine x_ifeqB C (tgt := 46) dX6_isOf_24 (by decide) (fun h13 => ?_) (fun h13 => absurd h13 (by decide))
        refine x_iconst C (v := 0) dX6_isOf_46 (by decide) ?_
        exact x_zret C rfl (by rw [e]; simp [isK, h8, Ne.symm h8, h11, Ne.symm h11]) rfl rfl dX6_isOf_47
      · refine x_iconst C (v := 1) dX6_isOf_32 (by decide) ?_
        exact x_zret C rfl (by rw [e]; subst h11; decide) rfl rfl dX6_isOf_33
    · refine x_iconst C (v := 1) dX6_isOf_32 (by decide) ?_
      exact x_zret C rfl (by rw [e]; subst h8; decide) rfl rfl dX6_isOf_33
  · refine WM.topi (y := 2) e ?_
    refine x_istore_n C (lv1 := [(3, .int (2)), (0, .ref (xad E (wc w))), (1, .int (nI q)), (2, .int (kind))]) dX6_isOf_6 rfl (by decide) rfl ?_
    refine x_iconst C (v := 0) dX6_isOf_7 (by decide) ?_
    refine x_istore C (lv1 := [(4, .int (0)), (3, .int (2)), (0, .ref (xad E (wc w))), (1, .int (nI q)), (2, .int (kind))]) dX6_isOf_8 (by decide) rfl ?_
    refine x_iload C 0 dX6_isOf_10 rfl ?_
    refine x_bipush C (v := 7) dX6_isOf_12 (by decide) ?_
    refine x_icmp_ge C (tgt := 46) dX6_isOf_14 (by decide) (fun h14 => absurd h14 (by decide)) (fun h14 => ?_)
    refine x_iload_n C 1 dX6_isOf_17 rfl rfl ?_
    refine x_iconst C (v := 0) dX6_isOf_18 (by decide) ?_
    refine x_bipush C (v := 6) dX6_isOf_19 (by decide) ?_
    refine x_callNi C (As := [.int (2), .int (0), .int (6)]) (rest := []) (c_within l E (va_up σ w (g)) τ 2 0 6) kn_X6_67 ⟨Nat.le_of_ble_eq_true rfl, Nat.le_of_ble_eq_true rfl⟩ rfl rfl (Nat.le_of_ble_eq_true rfl) dX6_isOf_21 ?_
    refine x_ifeqB C (tgt := 46) dX6_isOf_24 (by decide) (fun h15 => absurd h15 (by decide)) (fun h15 => ?_)
    refine x_iload_n C 1 dX6_isOf_27 rfl rfl ?_
    refine x_iload_n C 4 dX6_isOf_28 rfl rfl ?_
    refine x_icmp_ne C (tgt := 34) dX6_isOf_29 (by decide) (fun h16 => ?_) (fun h16 => ?_)
    · refine x_gets C 4 (by decide) fs_X6_71 dX6_isOf_34 ?_
      refine x_iload_n C 1 dX6_isOf_37 rfl rfl ?_
      refine x_ti C 4 (by decide) (v := 0) (vp_in_nI (n := 2) (by decide) (by decide)) (by decide +kernel) dX6_isOf_38 ?_
      refine x_istore_n C (lv1 := [(3, .int (0)), (4, .int (0)), (0, .ref (xad E (wc w))), (1, .int (nI q)), (2, .int (kind))]) dX6_isOf_39 rfl (by decide) rfl ?_
      refine x_iinc C (v := 1) (lv1 := [(4, .int (1)), (3, .int (0)), (0, .ref (xad E (wc w))), (1, .int (nI q)), (2, .int (kind))]) 1 dX6_isOf_40 rfl (by decide) (by decide) rfl ?_
      refine x_goto2 C (tgt := 10) dX6_isOf_43 (by decide) ?_
      refine x_iload C 0 dX6_isOf_10 rfl ?_
      refine x_bipush C (v := 7) dX6_isOf_12 (by decide) ?_
      refine x_icmp_ge C (tgt := 46) dX6_isOf_14 (by decide) (fun h17 => absurd h17 (by decide)) (fun h17 => ?_)
      refine x_iload_n C 1 dX6_isOf_17 rfl rfl ?_
      refine x_iconst C (v := 0) dX6_isOf_18 (by decide) ?_
      refine x_bipush C (v := 6) dX6_isOf_19 (by decide) ?_
      refine x_callNi C (As := [.int (0), .int (0), .int (6)]) (rest := []) (c_within l E (va_up σ w (g)) τ 0 0 6) kn_X6_67 ⟨Nat.le_of_ble_eq_true rfl, Nat.le_of_ble_eq_true rfl⟩ rfl rfl (Nat.le_of_ble_eq_true rfl) dX6_isOf_21 ?_
      refine x_ifeqB C (tgt := 46) dX6_isOf_24 (by decide) (fun h18 => absurd h18 (by decide)) (fun h18 => ?_)
      refine x_iload_n C 1 dX6_isOf_27 rfl rfl ?_
      refine x_iload_n C 4 dX6_isOf_28 rfl rfl ?_
      refine x_icmp_ne C (tgt := 34) dX6_isOf_29 (by decide) (fun h19 => ?_) (fun h19 => ?_)
      · refine x_gets C 4 (by decide) fs_X6_71 dX6_isOf_34 ?_
        refine x_iload_n C 1 dX6_isOf_37 rfl rfl ?_
        refine x_ti C 4 (by decide) (v := (-1)) (vp_in_nI (n := 0) (by decide) (by decide)) (by decide +kernel) dX6_isOf_38 ?_
        refine x_istore_n C (lv1 := [(3, .int ((-1))), (4, .int (1)), (0, .ref (xad E (wc w))), (1, .int (nI q)), (2, .int (kind))]) dX6_isOf_39 rfl (by decide) rfl ?_
        refine x_iinc C (v := 2) (lv1 := [(4, .int (2)), (3, .int ((-1))), (0, .ref (xad E (wc w))), (1, .int (nI q)), (2, .int (kind))]) 1 dX6_isOf_40 rfl (by decide) (by decide) rfl ?_
        refine x_goto2 C (tgt := 10) dX6_isOf_43 (by decide) ?_
        refine x_iload C 0 dX6_isOf_10 rfl ?_
        refine x_bipush C (v := 7) dX6_isOf_12 (by decide) ?_
        refine x_icmp_ge C (tgt := 46) dX6_isOf_14 (by decide) (fun h20 => absurd h20 (by decide)) (fun h20 => ?_)
        refine x_iload_n C 1 dX6_isOf_17 rfl rfl ?_
        refine x_iconst C (v := 0) dX6_isOf_18 (by decide) ?_
        refine x_bipush C (v := 6) dX6_isOf_19 (by decide) ?_
        refine x_callNi C (As := [.int ((-1)), .int (0), .int (6)]) (rest := []) (c_within l E (va_up σ w (g)) τ (-1) 0 6) kn_X6_67 ⟨Nat.le_of_ble_eq_true rfl, Nat.le_of_ble_eq_true rfl⟩ rfl rfl (Nat.le_of_ble_eq_true rfl) dX6_isOf_21 ?_
        refine x_ifeqB C (tgt := 46) dX6_isOf_24 (by decide) (fun h21 => ?_) (fun h21 => absurd h21 (by decide))
        refine x_iconst C (v := 0) dX6_isOf_46 (by decide) ?_
        exact x_zret C rfl (by rw [e]; simp [isK, h16, Ne.symm h16, h19, Ne.symm h19]) rfl rfl dX6_isOf_47
      · refine x_iconst C (v := 1) dX6_isOf_32 (by decide) ?_
        exact x_zret C rfl (by rw [e]; subst h19; decide) rfl rfl dX6_isOf_33
    · refine x_iconst C (v := 1) dX6_isOf_32 (by decide) ?_
      exact x_zret C rfl (by rw [e]; subst h16; decide) rfl rfl dX6_isOf_33
  · refine WM.topi (y := 3) e ?_
    refine x_istore_n C (lv1 := [(3, .int (3)), (0, .ref (xad E (wc w))), (1, .int (nI q)), (2, .int (kind))]) dX6_isOf_6 rfl (by decide) rfl ?_
    refine x_iconst C (v := 0) dX6_isOf_7 (by decide) ?_
    refine x_istore C (lv1 := [(4, .int (0)), (3, .int (3)), (0, .ref (xad E (wc w))), (1, .int (nI q)), (2, .int (kind))]) dX6_isOf_8 (by decide) rfl ?_
    refine x_iload C 0 dX6_isOf_10 rfl ?_
    refine x_bipush C (v := 7) dX6_isOf_12 (by decide) ?_
    refine x_icmp_ge C (tgt := 46) dX6_isOf_14 (by decide) (fun h22 => absurd h22 (by decide)) (fun h22 => ?_)
    refine x_iload_n C 1 dX6_isOf_17 rfl rfl ?_
    refine x_iconst C (v := 0) dX6_isOf_18 (by decide) ?_
    refine x_bipush C (v := 6) dX6_isOf_19 (by decide) ?_
    refine x_callNi C (As := [.int (3), .int (0), .int (6)]) (rest := []) (c_within l E (va_up σ w (g)) τ 3 0 6) kn_X6_67 ⟨Nat.le_of_ble_eq_true rfl, Nat.le_of_ble_eq_true rfl⟩ rfl rfl (Nat.le_of_ble_eq_true rfl) dX6_isOf_21 ?_
    refine x_ifeqB C (tgt := 46) dX6_isOf_24 (by decide) (fun h23 => absurd h23 (by decide)) (fun h23 => ?_)
    refine x_iload_n C 1 dX6_isOf_27 rfl rfl ?_
    refine x_iload_n C 4 dX6_isOf_28 rfl rfl ?_
    refine x_icmp_ne C (tgt := 34) dX6_isOf_29 (by decide) (fun h24 => ?_) (fun h24 => ?_)
    · refine x_gets C 4 (by decide) fs_X6_71 dX6_isOf_34 ?_
      refine x_iload_n C 1 dX6_isOf_37 rfl rfl ?_
      refine x_ti C 4 (by decide) (v := 0) (vp_in_nI (n := 3) (by decide) (by decide)) (by decide +kernel) dX6_isOf_38 ?_
      refine x_istore_n C (lv1 := [(3, .int (0)), (4, .int (0)), (0, .ref (xad E (wc w))), (1, .int (nI q)), (2, .int (kind))]) dX6_isOf_39 rfl (by decide) rfl ?_
      refine x_iinc C (v := 1) (lv1 := [(4, .int (1)), (3, .int (0)), (0, .ref (xad E (wc w))), (1, .int (nI q)), (2, .int (kind))]) 1 dX6_isOf_40 rfl (by decide) (by decide) rfl ?_
      refine x_goto2 C (tgt := 10) dX6_isOf_43 (by decide) ?_
      refine x_iload C 0 dX6_isOf_10 rfl ?_
      refine x_bipush C (v := 7) dX6_isOf_12 (by decide) ?_
      refine x_icmp_ge C (tgt := 46) dX6_isOf_14 (by decide) (fun h25 => absurd h25 (by decide)) (fun h25 => ?_)
      refine x_iload_n C 1 dX6_isOf_17 rfl rfl ?_
      refine x_iconst C (v := 0) dX6_isOf_18 (by decide) ?_
      refine x_bipush C (v := 6) dX6_isOf_19 (by decide) ?_
      refine x_callNi C (As := [.int (0), .int (0), .int (6)]) (rest := []) (c_within l E (va_up σ w (g)) τ 0 0 6) kn_X6_67 ⟨Nat.le_of_ble_eq_true rfl, Nat.le_of_ble_eq_true rfl⟩ rfl rfl (Nat.le_of_ble_eq_true rfl) dX6_isOf_21 ?_
      refine x_ifeqB C (tgt := 46) dX6_isOf_24 (by decide) (fun h26 => absurd h26 (by decide)) (fun h26 => ?_)
      refine x_iload_n C 1 dX6_isOf_27 rfl rfl ?_
      refine x_iload_n C 4 dX6_isOf_28 rfl rfl ?_
      refine x_icmp_ne C (tgt := 34) dX6_isOf_29 (by decide) (fun h27 => ?_) (fun h27 => ?_)
      · refine x_gets C 4 (by decide) fs_X6_71 dX6_isOf_34 ?_
        refine x_iload_n C 1 dX6_isOf_37 rfl rfl ?_
        refine x_ti C 4 (by decide) (v := (-1)) (vp_in_nI (n := 0) (by decide) (by decide)) (by decide +kernel) dX6_isOf_38 ?_
        refine x_istore_n C (lv1 := [(3, .int ((-1))), (4, .int (1)), (0, .ref (xad E (wc w))), (1, .int (nI q)), (2, .int (kind))]) dX6_isOf_39 rfl (by decide) rfl ?_
        refine x_iinc C (v := 2) (lv1 := [(4, .int (2)), (3, .int ((-1))), (0, .ref (xad E (wc w))), (1, .int (nI q)), (2, .int (kind))]) 1 dX6_isOf_40 rfl (by decide) (by decide) rfl ?_
        refine x_goto2 C (tgt := 10) dX6_isOf_43 (by decide) ?_
        refine x_iload C 0 dX6_isOf_10 rfl ?_
        refine x_bipush C (v := 7) dX6_isOf_12 (by decide) ?_
        refine x_icmp_ge C (tgt := 46) dX6_isOf_14 (by decide) (fun h28 => absurd h28 (by decide)) (fun h28 => ?_)
        refine x_iload_n C 1 dX6_isOf_17 rfl rfl ?_
        refine x_iconst C (v := 0) dX6_isOf_18 (by decide) ?_
        refine x_bipush C (v := 6) dX6_isOf_19 (by decide) ?_
        refine x_callNi C (As := [.int ((-1)), .int (0), .int (6)]) (rest := []) (c_within l E (va_up σ w (g)) τ (-1) 0 6) kn_X6_67 ⟨Nat.le_of_ble_eq_true rfl, Nat.le_of_ble_eq_true rfl⟩ rfl rfl (Nat.le_of_ble_eq_true rfl) dX6_isOf_21 ?_
        refine x_ifeqB C (tgt := 46) dX6_isOf_24 (by decide) (fun h29 => ?_) (fun h29 => absurd h29 (by decide))
        refine x_iconst C (v := 0) dX6_isOf_46 (by decide) ?_
        exact x_zret C rfl (by rw [e]; simp [isK, h24, Ne.symm h24, h27, Ne.symm h27]) rfl rfl dX6_isOf_47
      · refine x_iconst C (v := 1) dX6_isOf_32 (by decide) ?_
        exact x_zret C rfl (by rw [e]; subst h27; decide) rfl rfl dX6_isOf_33
    · refine x_iconst C (v := 1) dX6_isOf_32 (by decide) ?_
      exact x_zret C rfl (by rw [e]; subst h24; decide) rfl rfl dX6_isOf_33
  · refine WM.topi (y := 4) e ?_
    refine x_istore_n C (lv1 := [(3, .int (4)), (0, .ref (xad E (wc w))), (1, .int (nI q)), (2, .int (kind))]) dX6_isOf_6 rfl (by decide) rfl ?_
    refine x_iconst C (v := 0) dX6_isOf_7 (by decide) ?_
    refine x_istore C (lv1 := [(4, .int (0)), (3, .int (4)), (0, .ref (xad E (wc w))), (1, .int (nI q)), (2, .int (kind))]) dX6_isOf_8 (by decide) rfl ?_
    refine x_iload C 0 dX6_isOf_10 rfl ?_
    refine x_bipush C (v := 7) dX6_isOf_12 (by decide) ?_
    refine x_icmp_ge C (tgt := 46) dX6_isOf_14 (by decide) (fun h30 => absurd h30 (by decide)) (fun h30 => ?_)
    refine x_iload_n C 1 dX6_isOf_17 rfl rfl ?_
    refine x_iconst C (v := 0) dX6_isOf_18 (by decide) ?_
    refine x_bipush C (v := 6) dX6_isOf_19 (by decide) ?_
    refine x_callNi C (As := [.int (4), .int (0), .int (6)]) (rest := []) (c_within l E (va_up σ w (g)) τ 4 0 6) kn_X6_67 ⟨Nat.le_of_ble_eq_true rfl, Nat.le_of_ble_eq_true rfl⟩ rfl rfl (Nat.le_of_ble_eq_true rfl) dX6_isOf_21 ?_
    refine x_ifeqB C (tgt := 46) dX6_isOf_24 (by decide) (fun h31 => absurd h31 (by decide)) (fun h31 => ?_)
    refine x_iload_n C 1 dX6_isOf_27 rfl rfl ?_
    refine x_iload_n C 4 dX6_isOf_28 rfl rfl ?_
    refine x_icmp_ne C (tgt := 34) dX6_isOf_29 (by decide) (fun h32 => ?_) (fun h32 => ?_)
    · refine x_gets C 4 (by decide) fs_X6_71 dX6_isOf_34 ?_
      refine x_iload_n C 1 dX6_isOf_37 rfl rfl ?_
      refine x_ti C 4 (by decide) (v := 2) (vp_in_nI (n := 4) (by decide) (by decide)) (by decide +kernel) dX6_isOf_38 ?_
      refine x_istore_n C (lv1 := [(3, .int (2)), (4, .int (0)), (0, .ref (xad E (wc w))), (1, .int (nI q)), (2, .int (kind))]) dX6_isOf_39 rfl (by decide) rfl ?_
      refine x_iinc C (v := 1) (lv1 := [(4, .int (1)), (3, .int (2)), (0, .ref (xad E (wc w))), (1, .int (nI q)), (2, .int (kind))]) 1 dX6_isOf_40 rfl (by decide) (by decide) rfl ?_
      refine x_goto2 C (tgt := 10) dX6_isOf_43 (by decide) ?_
      refine x_iload C 0 dX6_isOf_10 rfl ?_
      refine x_bipush C (v := 7) dX6_isOf_12 (by decide) ?_
      refine x_icmp_ge C (tgt := 46) dX6_isOf_14 (by decide) (fun h33 => absurd h33 (by decide)) (fun h33 => ?_)
      refine x_iload_n C 1 dX6_isOf_17 rfl rfl ?_
      refine x_iconst C (v := 0) dX6_isOf_18 (by decide) ?_
      refine x_bipush C (v := 6) dX6_isOf_19 (by decide) ?_
      refine x_callNi C (As := [.int (2), .int (0), .int (6)]) (rest := []) (c_within l E (va_up σ w (g)) τ 2 0 6) kn_X6_67 ⟨Nat.le_of_ble_eq_true rfl, Nat.le_of_ble_eq_true rfl⟩ rfl rfl (Nat.le_of_ble_eq_true rfl) dX6_isOf_21 ?_
      refine x_ifeqB C (tgt := 46) dX6_isOf_24 (by decide) (fun h34 => absurd h34 (by decide)) (fun h34 => ?_)
      refine x_iload_n C 1 dX6_isOf_27 rfl rfl ?_
      refine x_iload_n C 4 dX6_isOf_28 rfl rfl ?_
      refine x_icmp_ne C (tgt := 34) dX6_isOf_29 (by decide) (fun h35 => ?_) (fun h35 => ?_)
      · refine x_gets C 4 (by decide) fs_X6_71 dX6_isOf_34 ?_
        refine x_iload_n C 1 dX6_isOf_37 rfl rfl ?_
        refine x_ti C 4 (by decide) (v := 0) (vp_in_nI (n := 2) (by decide) (by decide)) (by decide +kernel) dX6_isOf_38 ?_
        refine x_istore_n C (lv1 := [(3, .int (0)), (4, .int (1)), (0, .ref (xad E (wc w))), (1, .int (nI q)), (2, .int (kind))]) dX6_isOf_39 rfl (by decide) rfl ?_
        refine x_iinc C (v := 2) (lv1 := [(4, .int (2)), (3, .int (0)), (0, .ref (xad E (wc w))), (1, .int (nI q)), (2, .int (kind))]) 1 dX6_isOf_40 rfl (by decide) (by decide) rfl ?_
        refine x_goto2 C (tgt := 10) dX6_isOf_43 (by decide) ?_
        refine x_iload C 0 dX6_isOf_10 rfl ?_
        refine x_bipush C (v := 7) dX6_isOf_12 (by decide) ?_
        refine x_icmp_ge C (tgt := 46) dX6_isOf_14 (by decide) (fun h36 => absurd h36 (by decide)) (fun h36 => ?_)
        refine x_iload_n C 1 dX6_isOf_17 rfl rfl ?_
        refine x_iconst C (v := 0) dX6_isOf_18 (by decide) ?_
        refine x_bipush C (v := 6) dX6_isOf_19 (by decide) ?_
        refine x_callNi C (As := [.int (0), .int (0), .int (6)]) (rest := []) (c_within l E (va_up σ w (g)) τ 0 0 6) kn_X6_67 ⟨Nat.le_of_ble_eq_true rfl, Nat.le_of_ble_eq_true rfl⟩ rfl rfl (Nat.le_of_ble_eq_true rfl) dX6_isOf_21 ?_
        refine x_ifeqB C (tgt := 46) dX6_isOf_24 (by decide) (fun h37 => absurd h37 (by decide)) (fun h37 => ?_)
        refine x_iload_n C 1 dX6_isOf_27 rfl rfl ?_
        refine x_iload_n C 4 dX6_isOf_28 rfl rfl ?_
        refine x_icmp_ne C (tgt := 34) dX6_isOf_29 (by decide) (fun h38 => ?_) (fun h38 => ?_)
        · refine x_gets C 4 (by decide) fs_X6_71 dX6_isOf_34 ?_
          refine x_iload_n C 1 dX6_isOf_37 rfl rfl ?_
          refine x_ti C 4 (by decide) (v := (-1)) (vp_in_nI (n := 0) (by decide) (by decide)) (by decide +kernel) dX6_isOf_38 ?_
          refine x_istore_n C (lv1 := [(3, .int ((-1))), (4, .int (2)), (0, .ref (xad E (wc w))), (1, .int (nI q)), (2, .int (kind))]) dX6_isOf_39 rfl (by decide) rfl ?_
          refine x_iinc C (v := 3) (lv1 := [(4, .int (3)), (3, .int ((-1))), (0, .ref (xad E (wc w))), (1, .int (nI q)), (2, .int (kind))]) 1 dX6_isOf_40 rfl (by decide) (by decide) rfl ?_
          refine x_goto2 C (tgt := 10) dX6_isOf_43 (by decide) ?_
          refine x_iload C 0 dX6_isOf_10 rfl ?_
          refine x_bipush C (v := 7) dX6_isOf_12 (by decide) ?_
          refine x_icmp_ge C (tgt := 46) dX6_isOf_14 (by decide) (fun h39 => absurd h39 (by decide)) (fun h39 => ?_)
          refine x_iload_n C 1 dX6_isOf_17 rfl rfl ?_
          refine x_iconst C (v := 0) dX6_isOf_18 (by decide) ?_
          refine x_bipush C (v := 6) dX6_isOf_19 (by decide) ?_
          refine x_callNi C (As := [.int ((-1)), .int (0), .int (6)]) (rest := []) (c_within l E (va_up σ w (g)) τ (-1) 0 6) kn_X6_67 ⟨Nat.le_of_ble_eq_true rfl, Nat.le_of_ble_eq_true rfl⟩ rfl rfl (Nat.le_of_ble_eq_true rfl) dX6_isOf_21 ?_
          refine x_ifeqB C (tgt := 46) dX6_isOf_24 (by decide) (fun h40 => ?_) (fun h40 => absurd h40 (by decide))
          refine x_iconst C (v := 0) dX6_isOf_46 (by decide) ?_
          exact x_zret C rfl (by rw [e]; simp [isK, h32, Ne.symm h32, h35, Ne.symm h35, h38, Ne.symm h38]) rfl rfl dX6_isOf_47
        · refine x_iconst C (v := 1) dX6_isOf_32 (by decide) ?_
          exact x_zret C rfl (by rw [e]; subst h38; decide) rfl rfl dX6_isOf_33
      · refine x_iconst C (v := 1) dX6_isOf_32 (by decide) ?_
        exact x_zret C rfl (by rw [e]; subst h35; decide) rfl rfl dX6_isOf_33
    · refine x_iconst C (v := 1) dX6_isOf_32 (by decide) ?_
      exact x_zret C rfl (by rw [e]; subst h32; decide) rfl rfl dX6_isOf_33
  · refine WM.topi (y := 5) e ?_
    refine x_istore_n C (lv1 := [(3, .int (5)), (0, .ref (xad E (wc w))), (1, .int (nI q)), (2, .int (kind))]) dX6_isOf_6 rfl (by decide) rfl ?_
    refine x_iconst C (v := 0) dX6_isOf_7 (by decide) ?_
    refine x_istore C (lv1 := [(4, .int (0)), (3, .int (5)), (0, .ref (xad E (wc w))), (1, .int (nI q)), (2, .int (kind))]) dX6_isOf_8 (by decide) rfl ?_
    refine x_iload C 0 dX6_isOf_10 rfl ?_
    refine x_bipush C (v := 7) dX6_isOf_12 (by decide) ?_
    refine x_icmp_ge C (tgt := 46) dX6_isOf_14 (by decide) (fun h41 => absurd h41 (by decide)) (fun h41 => ?_)
    refine x_iload_n C 1 dX6_isOf_17 rfl rfl ?_
    refine x_iconst C (v := 0) dX6_isOf_18 (by decide) ?_
    refine x_bipush C (v := 6) dX6_isOf_19 (by decide) ?_
    refine x_callNi C (As := [.int (5), .int (0), .int (6)]) (rest := []) (c_within l E (va_up σ w (g)) τ 5 0 6) kn_X6_67 ⟨Nat.le_of_ble_eq_true rfl, Nat.le_of_ble_eq_true rfl⟩ rfl rfl (Nat.le_of_ble_eq_true rfl) dX6_isOf_21 ?_
    refine x_ifeqB C (tgt := 46) dX6_isOf_24 (by decide) (fun h42 => absurd h42 (by decide)) (fun h42 => ?_)
    refine x_iload_n C 1 dX6_isOf_27 rfl rfl ?_
    refine x_iload_n C 4 dX6_isOf_28 rfl rfl ?_
    refine x_icmp_ne C (tgt := 34) dX6_isOf_29 (by decide) (fun h43 => ?_) (fun h43 => ?_)
    · refine x_gets C 4 (by decide) fs_X6_71 dX6_isOf_34 ?_
      refine x_iload_n C 1 dX6_isOf_37 rfl rfl ?_
      refine x_ti C 4 (by decide) (v := 3) (vp_in_nI (n := 5) (by decide) (by decide)) (by decide +kernel) dX6_isOf_38 ?_
      refine x_istore_n C (lv1 := [(3, .int (3)), (4, .int (0)), (0, .ref (xad E (wc w))), (1, .int (nI q)), (2, .int (kind))]) dX6_isOf_39 rfl (by decide) rfl ?_
      refine x_iinc C (v := 1) (lv1 := [(4, .int (1)), (3, .int (3)), (0, .ref (xad E (wc w))), (1, .int (nI q)), (2, .int (kind))]) 1 dX6_isOf_40 rfl (by decide) (by decide) rfl ?_
      refine x_goto2 C (tgt := 10) dX6_isOf_43 (by decide) ?_
      refine x_iload C 0 dX6_isOf_10 rfl ?_
      refine x_bipush C (v := 7) dX6_isOf_12 (by decide) ?_
      refine x_icmp_ge C (tgt := 46) dX6_isOf_14 (by decide) (fun h44 => absurd h44 (by decide)) (fun h44 => ?_)
      refine x_iload_n C 1 dX6_isOf_17 rfl rfl ?_
      refine x_iconst C (v := 0) dX6_isOf_18 (by decide) ?_
      refine x_bipush C (v := 6) dX6_isOf_19 (by decide) ?_
      refine x_callNi C (As := [.int (3), .int (0), .int (6)]) (rest := []) (c_within l E (va_up σ w (g)) τ 3 0 6) kn_X6_67 ⟨Nat.le_of_ble_eq_true rfl, Nat.le_of_ble_eq_true rfl⟩ rfl rfl (Nat.le_of_ble_eq_true rfl) dX6_isOf_21 ?_
      refine x_ifeqB C (tgt := 46) dX6_isOf_24 (by decide) (fun h45 => absurd h45 (by decide)) (fun h45 => ?_)
      refine x_iload_n C 1 dX6_isOf_27 rfl rfl ?_
      refine x_iload_n C 4 dX6_isOf_28 rfl rfl ?_
      refine x_icmp_ne C (tgt := 34) dX6_isOf_29 (by decide) (fun h46 => ?_) (fun h46 => ?_)
      · refine x_gets C 4 (by decide) fs_X6_71 dX6_isOf_34 ?_
        refine x_iload_n C 1 dX6_isOf_37 rfl rfl ?_
        refine x_ti C 4 (by decide) (v := 0) (vp_in_nI (n := 3) (by decide) (by decide)) (by decide +kernel) dX6_isOf_38 ?_
        refine x_istore_n C (lv1 := [(3, .int (0)), (4, .int (1)), (0, .ref (xad E (wc w))), (1, .int (nI q)), (2, .int (kind))]) dX6_isOf_39 rfl (by decide) rfl ?_
        refine x_iinc C (v := 2) (lv1 := [(4, .int (2)), (3, .int (0)), (0, .ref (xad E (wc w))), (1, .int (nI q)), (2, .int (kind))]) 1 dX6_isOf_40 rfl (by decide) (by decide) rfl ?_
        refine x_goto2 C (tgt := 10) dX6_isOf_43 (by decide) ?_
        refine x_iload C 0 dX6_isOf_10 rfl ?_
        refine x_bipush C (v := 7) dX6_isOf_12 (by decide) ?_
        refine x_icmp_ge C (tgt := 46) dX6_isOf_14 (by decide) (fun h47 => absurd h47 (by decide)) (fun h47 => ?_)
        refine x_iload_n C 1 dX6_isOf_17 rfl rfl ?_
        refine x_iconst C (v := 0) dX6_isOf_18 (by decide) ?_
        refine x_bipush C (v := 6) dX6_isOf_19 (by decide) ?_
        refine x_callNi C (As := [.int (0), .int (0), .int (6)]) (rest := []) (c_within l E (va_up σ w (g)) τ 0 0 6) kn_X6_67 ⟨Nat.le_of_ble_eq_true rfl, Nat.le_of_ble_eq_true rfl⟩ rfl rfl (Nat.le_of_ble_eq_true rfl) dX6_isOf_21 ?_
        refine x_ifeqB C (tgt := 46) dX6_isOf_24 (by decide) (fun h48 => absurd h48 (by decide)) (fun h48 => ?_)
        refine x_iload_n C 1 dX6_isOf_27 rfl rfl ?_
        refine x_iload_n C 4 dX6_isOf_28 rfl rfl ?_
        refine x_icmp_ne C (tgt := 34) dX6_isOf_29 (by decide) (fun h49 => ?_) (fun h49 => ?_)
        · refine x_gets C 4 (by decide) fs_X6_71 dX6_isOf_34 ?_
          refine x_iload_n C 1 dX6_isOf_37 rfl rfl ?_
          refine x_ti C 4 (by decide) (v := (-1)) (vp_in_nI (n := 0) (by decide) (by decide)) (by decide +kernel) dX6_isOf_38 ?_
          refine x_istore_n C (lv1 := [(3, .int ((-1))), (4, .int (2)), (0, .ref (xad E (wc w))), (1, .int (nI q)), (2, .int (kind))]) dX6_isOf_39 rfl (by decide) rfl ?_
          refine x_iinc C (v := 3) (lv1 := [(4, .int (3)), (3, .int ((-1))), (0, .ref (xad E (wc w))), (1, .int (nI q)), (2, .int (kind))]) 1 dX6_isOf_40 rfl (by decide) (by decide) rfl ?_
          refine x_goto2 C (tgt := 10) dX6_isOf_43 (by decide) ?_
          refine x_iload C 0 dX6_isOf_10 rfl ?_
          refine x_bipush C (v := 7) dX6_isOf_12 (by decide) ?_
          refine x_icmp_ge C (tgt := 46) dX6_isOf_14 (by decide) (fun h50 => absurd h50 (by decide)) (fun h50 => ?_)
          refine x_iload_n C 1 dX6_isOf_17 rfl rfl ?_
          refine x_iconst C (v := 0) dX6_isOf_18 (by decide) ?_
          refine x_bipush C (v := 6) dX6_isOf_19 (by decide) ?_
          refine x_callNi C (As := [.int ((-1)), .int (0), .int (6)]) (rest := []) (c_within l E (va_up σ w (g)) τ (-1) 0 6) kn_X6_67 ⟨Nat.le_of_ble_eq_true rfl, Nat.le_of_ble_eq_true rfl⟩ rfl rfl (Nat.le_of_ble_eq_true rfl) dX6_isOf_21 ?_
          refine x_ifeqB C (tgt := 46) dX6_isOf_24 (by decide) (fun h51 => ?_) (fun h51 => absurd h51 (by decide))
          refine x_iconst C (v := 0) dX6_isOf_46 (by decide) ?_
          exact x_zret C rfl (by rw [e]; simp [isK, h43, Ne.symm h43, h46, Ne.symm h46, h49, Ne.symm h49]) rfl rfl dX6_isOf_47
        · refine x_iconst C (v := 1) dX6_isOf_32 (by decide) ?_
          exact x_zret C rfl (by rw [e]; subst h49; decide) rfl rfl dX6_isOf_33
      · refine x_iconst C (v := 1) dX6_isOf_32 (by decide) ?_
        exact x_zret C rfl (by rw [e]; subst h46; decide) rfl rfl dX6_isOf_33
    · refine x_iconst C (v := 1) dX6_isOf_32 (by decide) ?_
      exact x_zret C rfl (by rw [e]; subst h43; decide) rfl rfl dX6_isOf_33
  · refine WM.topi (y := 6) e ?_
    refine x_istore_n C (lv1 := [(3, .int (6)), (0, .ref (xad E (wc w))), (1, .int (nI q)), (2, .int (kind))]) dX6_isOf_6 rfl (by decide) rfl ?_
    refine x_iconst C (v := 0) dX6_isOf_7 (by decide) ?_
    refine x_istore C (lv1 := [(4, .int (0)), (3, .int (6)), (0, .ref (xad E (wc w))), (1, .int (nI q)), (2, .int (kind))]) dX6_isOf_8 (by decide) rfl ?_
    refine x_iload C 0 dX6_isOf_10 rfl ?_
    refine x_bipush C (v := 7) dX6_isOf_12 (by decide) ?_
    refine x_icmp_ge C (tgt := 46) dX6_isOf_14 (by decide) (fun h52 => absurd h52 (by decide)) (fun h52 => ?_)
    refine x_iload_n C 1 dX6_isOf_17 rfl rfl ?_
    refine x_iconst C (v := 0) dX6_isOf_18 (by decide) ?_
    refine x_bipush C (v := 6) dX6_isOf_19 (by decide) ?_
    refine x_callNi C (As := [.int (6), .int (0), .int (6)]) (rest := []) (c_within l E (va_up σ w (g)) τ 6 0 6) kn_X6_67 ⟨Nat.le_of_ble_eq_true rfl, Nat.le_of_ble_eq_true rfl⟩ rfl rfl (Nat.le_of_ble_eq_true rfl) dX6_isOf_21 ?_
    refine x_ifeqB C (tgt := 46) dX6_isOf_24 (by decide) (fun h53 => absurd h53 (by decide)) (fun h53 => ?_)
    refine x_iload_n C 1 dX6_isOf_27 rfl rfl ?_
    refine x_iload_n C 4 dX6_isOf_28 rfl rfl ?_
    refine x_icmp_ne C (tgt := 34) dX6_isOf_29 (by decide) (fun h54 => ?_) (fun h54 => ?_)
    · refine x_gets C 4 (by decide) fs_X6_71 dX6_isOf_34 ?_
      refine x_iload_n C 1 dX6_isOf_37 rfl rfl ?_
      refine x_ti C 4 (by decide) (v := 4) (vp_in_nI (n := 6) (by decide) (by decide)) (by decide +kernel) dX6_isOf_38 ?_
      refine x_istore_n C (lv1 := [(3, .int (4)), (4, .int (0)), (0, .ref (xad E (wc w))), (1, .int (nI q)), (2, .int (kind))]) dX6_isOf_39 rfl (by decide) rfl ?_
      refine x_iinc C (v := 1) (lv1 := [(4, .int (1)), (3, .int (4)), (0, .ref (xad E (wc w))), (1, .int (nI q)), (2, .int (kind))]) 1 dX6_isOf_40 rfl (by decide) (by decide) rfl ?_
      refine x_goto2 C (tgt := 10) dX6_isOf_43 (by decide) ?_
      refine x_iload C 0 dX6_isOf_10 rfl ?_
      refine x_bipush C (v := 7) dX6_isOf_12 (by decide) ?_
      refine x_icmp_ge C (tgt := 46) dX6_isOf_14 (by decide) (fun h55 => absurd h55 (by decide)) (fun h55 => ?_)
      refine x_iload_n C 1 dX6_isOf_17 rfl rfl ?_
      refine x_iconst C (v := 0) dX6_isOf_18 (by decide) ?_
      refine x_bipush C (v := 6) dX6_isOf_19 (by decide) ?_
      refine x_callNi C (As := [.int (4), .int (0), .int (6)]) (rest := []) (c_within l E (va_up σ w (g)) τ 4 0 6) kn_X6_67 ⟨Nat.le_of_ble_eq_true rfl, Nat.le_of_ble_eq_true rfl⟩ rfl rfl (Nat.le_of_ble_eq_true rfl) dX6_isOf_21 ?_
      refine x_ifeqB C (tgt := 46) dX6_isOf_24 (by decide) (fun h56 => absurd h56 (by decide)) (fun h56 => ?_)
      refine x_iload_n C 1 dX6_isOf_27 rfl rfl ?_
      refine x_iload_n C 4 dX6_isOf_28 rfl rfl ?_
      refine x_icmp_ne C (tgt := 34) dX6_isOf_29 (by decide) (fun h57 => ?_) (fun h57 => ?_)
      · refine x_gets C 4 (by decide) fs_X6_71 dX6_isOf_34 ?_
        refine x_iload_n C 1 dX6_isOf_37 rfl rfl ?_
        refine x_ti C 4 (by decide) (v := 2) (vp_in_nI (n := 4) (by decide) (by decide)) (by decide +kernel) dX6_isOf_38 ?_
        refine x_istore_n C (lv1 := [(3, .int (2)), (4, .int (1)), (0, .ref (xad E (wc w))), (1, .int (nI q)), (2, .int (kind))]) dX6_isOf_39 rfl (by decide) rfl ?_
        refine x_iinc C (v := 2) (lv1 := [(4, .int (2)), (3, .int (2)), (0, .ref (xad E (wc w))), (1, .int (nI q)), (2, .int (kind))]) 1 dX6_isOf_40 rfl (by decide) (by decide) rfl ?_
        refine x_goto2 C (tgt := 10) dX6_isOf_43 (by decide) ?_
        refine x_iload C 0 dX6_isOf_10 rfl ?_
        refine x_bipush C (v := 7) dX6_isOf_12 (by decide) ?_
        refine x_icmp_ge C (tgt := 46) dX6_isOf_14 (by decide) (fun h58 => absurd h58 (by decide)) (fun h58 => ?_)
        refine x_iload_n C 1 dX6_isOf_17 rfl rfl ?_
        refine x_iconst C (v := 0) dX6_isOf_18 (by decide) ?_
        refine x_bipush C (v := 6) dX6_isOf_19 (by decide) ?_
        refine x_callNi C (As := [.int (2), .int (0), .int (6)]) (rest := []) (c_within l E (va_up σ w (g)) τ 2 0 6) kn_X6_67 ⟨Nat.le_of_ble_eq_true rfl, Nat.le_of_ble_eq_true rfl⟩ rfl rfl (Nat.le_of_ble_eq_true rfl) dX6_isOf_21 ?_
        refine x_ifeqB C (tgt := 46) dX6_isOf_24 (by decide) (fun h59 => absurd h59 (by decide)) (fun h59 => ?_)
        refine x_iload_n C 1 dX6_isOf_27 rfl rfl ?_
        refine x_iload_n C 4 dX6_isOf_28 rfl rfl ?_
        refine x_icmp_ne C (tgt := 34) dX6_isOf_29 (by decide) (fun h60 => ?_) (fun h60 => ?_)
        · refine x_gets C 4 (by decide) fs_X6_71 dX6_isOf_34 ?_
          refine x_iload_n C 1 dX6_isOf_37 rfl rfl ?_
          refine x_ti C 4 (by decide) (v := 0) (vp_in_nI (n := 2) (by decide) (by decide)) (by decide +kernel) dX6_isOf_38 ?_
          refine x_istore_n C (lv1 := [(3, .int (0)), (4, .int (2)), (0, .ref (xad E (wc w))), (1, .int (nI q)), (2, .int (kind))]) dX6_isOf_39 rfl (by decide) rfl ?_
          refine x_iinc C (v := 3) (lv1 := [(4, .int (3)), (3, .int (0)), (0, .ref (xad E (wc w))), (1, .int (nI q)), (2, .int (kind))]) 1 dX6_isOf_40 rfl (by decide) (by decide) rfl ?_
          refine x_goto2 C (tgt := 10) dX6_isOf_43 (by decide) ?_
          refine x_iload C 0 dX6_isOf_10 rfl ?_
          refine x_bipush C (v := 7) dX6_isOf_12 (by decide) ?_
          refine x_icmp_ge C (tgt := 46) dX6_isOf_14 (by decide) (fun h61 => absurd h61 (by decide)) (fun h61 => ?_)
          refine x_iload_n C 1 dX6_isOf_17 rfl rfl ?_
          refine x_iconst C (v := 0) dX6_isOf_18 (by decide) ?_
          refine x_bipush C (v := 6) dX6_isOf_19 (by decide) ?_
          refine x_callNi C (As := [.int (0), .int (0), .int (6)]) (rest := []) (c_within l E (va_up σ w (g)) τ 0 0 6) kn_X6_67 ⟨Nat.le_of_ble_eq_true rfl, Nat.le_of_ble_eq_true rfl⟩ rfl rfl (Nat.le_of_ble_eq_true rfl) dX6_isOf_21 ?_
          refine x_ifeqB C (tgt := 46) dX6_isOf_24 (by decide) (fun h62 => absurd h62 (by decide)) (fun h62 => ?_)
          refine x_iload_n C 1 dX6_isOf_27 rfl rfl ?_
          refine x_iload_n C 4 dX6_isOf_28 rfl rfl ?_
          refine x_icmp_ne C (tgt := 34) dX6_isOf_29 (by decide) (fun h63 => ?_) (fun h63 => ?_)
          · refine x_gets C 4 (by decide) fs_X6_71 dX6_isOf_34 ?_
            refine x_iload_n C 1 dX6_isOf_37 rfl rfl ?_
            refine x_ti C 4 (by decide) (v := (-1)) (vp_in_nI (n := 0) (by decide) (by decide)) (by decide +kernel) dX6_isOf_38 ?_
            refine x_istore_n C (lv1 := [(3, .int ((-1))), (4, .int (3)), (0, .ref (xad E (wc w))), (1, .int (nI q)), (2, .int (kind))]) dX6_isOf_39 rfl (by decide) rfl ?_
            refine x_iinc C (v := 4) (lv1 := [(4, .int (4)), (3, .int ((-1))), (0, .ref (xad E (wc w))), (1, .int (nI q)), (2, .int (kind))]) 1 dX6_isOf_40 rfl (by decide) (by decide) rfl ?_
            refine x_goto2 C (tgt := 10) dX6_isOf_43 (by decide) ?_
            refine x_iload C 0 dX6_isOf_10 rfl ?_
            refine x_bipush C (v := 7) dX6_isOf_12 (by decide) ?_
            refine x_icmp_ge C (tgt := 46) dX6_isOf_14 (by decide) (fun h64 => absurd h64 (by decide)) (fun h64 => ?_)
            refine x_iload_n C 1 dX6_isOf_17 rfl rfl ?_
            refine x_iconst C (v := 0) dX6_isOf_18 (by decide) ?_
            refine x_bipush C (v := 6) dX6_isOf_19 (by decide) ?_
            refine x_callNi C (As := [.int ((-1)), .int (0), .int (6)]) (rest := []) (c_within l E (va_up σ w (g)) τ (-1) 0 6) kn_X6_67 ⟨Nat.le_of_ble_eq_true rfl, Nat.le_of_ble_eq_true rfl⟩ rfl rfl (Nat.le_of_ble_eq_true rfl) dX6_isOf_21 ?_
            refine x_ifeqB C (tgt := 46) dX6_isOf_24 (by decide) (fun h65 => ?_) (fun h65 => absurd h65 (by decide))
            refine x_iconst C (v := 0) dX6_isOf_46 (by decide) ?_
            exact x_zret C rfl (by rw [e]; simp [isK, h54, Ne.symm h54, h57, Ne.symm h57, h60, Ne.symm h60, h63, Ne.symm h63]) rfl rfl dX6_isOf_47
          · refine x_iconst C (v := 1) dX6_isOf_32 (by decide) ?_
            exact x_zret C rfl (by rw [e]; subst h63; decide) rfl rfl dX6_isOf_33
        · refine x_iconst C (v := 1) dX6_isOf_32 (by decide) ?_
          exact x_zret C rfl (by rw [e]; subst h60; decide) rfl rfl dX6_isOf_33
      · refine x_iconst C (v := 1) dX6_isOf_32 (by decide) ?_
        exact x_zret C rfl (by rw [e]; subst h57; decide) rfl rfl dX6_isOf_33
    · refine x_iconst C (v := 1) dX6_isOf_32 (by decide) ?_
      exact x_zret C rfl (by rw [e]; subst h54; decide) rfl rfl dX6_isOf_33
