/-! what is kept: State.become -/
def sc (w : Nat) : Nat := [1, 28].getD w 0
theorem sc_lt {w : Nat} (h : w < 2) : sc w ≤ 28 := by
  match w, h with
  | 0, _ => decide
  | 1, _ => decide
theorem sd_0 {w : Nat} (h : w < 2) : xd (sc w) = (3, [(0, wc w, 0), (0, sc w + 7, 0), (1, w, 13), (0, sc w + 8, 0), (1, w, 12)]) := by
  match w, h with
  | 0, _ => rfl
  | 1, _ => rfl
theorem sd_7 {w : Nat} (h : w < 2) : xd (sc w + 7) = (10, [(6, sc w + 9, 3)]) := by
  match w, h with
  | 0, _ => rfl
  | 1, _ => rfl
theorem sd_8 {w : Nat} (h : w < 2) : xd (sc w + 8) = (9, [(10, w, 124), (1, 0, 0)]) := by
  match w, h with
  | 0, _ => rfl
  | 1, _ => rfl
theorem sp_0 {w p : Nat} (h : w < 2) (hp : p < 6) : xd (sc w + 9 + 3 * p) = (0, [(0, sc w + 9 + 3 * p + 1, 0), (0, sc w + 9 + 3 * p + 2, 0), (1, w, 134 + 25 * p)]) := by
  match w, h, p, hp with
  | 0, _, 0, _ => rfl
  | 0, _, 1, _ => rfl
  | 0, _, 2, _ => rfl
  | 0, _, 3, _ => rfl
  | 0, _, 4, _ => rfl
  | 0, _, 5, _ => rfl
  | 1, _, 0, _ => rfl
  | 1, _, 1, _ => rfl
  | 1, _, 2, _ => rfl
  | 1, _, 3, _ => rfl
  | 1, _, 4, _ => rfl
  | 1, _, 5, _ => rfl
theorem sp_1 {w p : Nat} (h : w < 2) (hp : p < 6) : xd (sc w + 9 + 3 * p + 1) = (9, [(12, w, 135 + 25 * p), (2, 0, 0)]) := by
  match w, h, p, hp with
  | 0, _, 0, _ => rfl
  | 0, _, 1, _ => rfl
  | 0, _, 2, _ => rfl
  | 0, _, 3, _ => rfl
  | 0, _, 4, _ => rfl
  | 0, _, 5, _ => rfl
  | 1, _, 0, _ => rfl
  | 1, _, 1, _ => rfl
  | 1, _, 2, _ => rfl
  | 1, _, 3, _ => rfl
  | 1, _, 4, _ => rfl
  | 1, _, 5, _ => rfl
theorem sp_2 {w p : Nat} (h : w < 2) (hp : p < 6) : xd (sc w + 9 + 3 * p + 2) = (9, [(12, w, 136 + 25 * p), (2, 0, 0)]) := by
  match w, h, p, hp with
  | 0, _, 0, _ => rfl
  | 0, _, 1, _ => rfl
  | 0, _, 2, _ => rfl
  | 0, _, 3, _ => rfl
  | 0, _, 4, _ => rfl
  | 0, _, 5, _ => rfl
  | 1, _, 0, _ => rfl
  | 1, _, 1, _ => rfl
  | 1, _, 2, _ => rfl
  | 1, _, 3, _ => rfl
  | 1, _, 4, _ => rfl
  | 1, _, 5, _ => rfl
def mixP (a b : Nat → Int32) (p : Nat) : Nat → Int32 := fun i => if 134 + 25 * p ≤ i ∧ i < 159 + 25 * p then a i else b i
def mixPs (a b : Nat → Int32) (k : Nat) : Nat → Int32 := fun i => if 134 ≤ i ∧ i < 134 + 25 * k then a i else b i
theorem mixPs_0 (a b : Nat → Int32) : mixPs a b 0 = b := by
  funext i
  exact if_neg (by omega)
theorem mixPs_s (a b : Nat → Int32) (k : Nat) : mixP a (mixPs a b k) k = mixPs a b (k + 1) := by
  funext i
  unfold mixP mixPs
  by_cases h : 134 + 25 * k ≤ i ∧ i < 159 + 25 * k
  · rw [if_pos h, if_pos (by omega)]
  · rw [if_neg h]
    by_cases h2 : 134 ≤ i ∧ i < 134 + 25 * k
    · rw [if_pos h2, if_pos (by omega)]
    · rw [if_neg h2, if_neg (by omega)]
theorem prog_eq {w p : Nat} (hw : w < 2) (hp : p < 6) (a b : Nat → Int32) : upd (cpB (xd (sc w + 9 + 3 * p + 2)) w a (cpB (xd (sc w + 9 + 3 * p + 1)) w a b)) (134 + 25 * p) (a (134 + 25 * p)) = mixP a b p := by
  rw [sp_1 hw hp, sp_2 hw hp]
  funext i
  by_cases h : i = 134 + 25 * p
  · subst h
    rw [upd_at]
    exact (if_pos (by omega)).symm
  · rw [upd_ne h]
    unfold cpB mixP
    simp only [xin_a]
    by_cases h5 : 136 + 25 * p ≤ i ∧ (i - (136 + 25 * p)) % 2 = 0 ∧ (i - (136 + 25 * p)) / 2 < 12
    · rw [if_pos h5, if_pos (by omega)]
    · rw [if_neg h5]
      by_cases h4 : 135 + 25 * p ≤ i ∧ (i - (135 + 25 * p)) % 2 = 0 ∧ (i - (135 + 25 * p)) / 2 < 12
      · rw [if_pos h4, if_pos (by omega)]
      · rw [if_neg h4, if_neg (by omega)]
theorem chk_0 : ∀ j, j < 94 → chkB 0 [(0, 14), (20, 284)] (xd j) = true := by decide +kernel
theorem chk_1 : ∀ j, j < 94 → chkB 1 [(0, 14), (20, 284)] (xd j) = true := by decide +kernel
def bcS (w : Nat) (a b : Nat → Int32) : Nat → Int32 := upd (cpB (xd (sc w + 8)) w a (upd (mixPs a (mixG a b) 6) 13 (a 13))) 12 (a 12)
theorem bcS_eq {w : Nat} (hw : w < 2) (a b : Nat → Int32) {i : Nat} (hi : i < 14 ∨ (20 ≤ i ∧ i < 284)) : bcS w a b i = a i := by
  unfold bcS
  rw [sd_8 hw]
  by_cases h12 : i = 12
  · subst h12
    rw [upd_at]
  · rw [upd_ne h12]
    unfold cpB
    simp only [xin_a]
    by_cases h1 : 124 ≤ i ∧ (i - 124) % 1 = 0 ∧ (i - 124) / 1 < 10
    · rw [if_pos h1]
    · rw [if_neg h1]
      by_cases h13 : i = 13
      · subst h13
        rw [upd_at]
      · rw [upd_ne h13]
        unfold mixPs mixG
        by_cases h2 : 134 ≤ i ∧ i < 134 + 25 * 6
        · rw [if_pos h2]
        · rw [if_neg h2, if_pos (by omega)]
theorem st_alter {E : xE} {S : xV} {τ : Nat → Int64} {w : Nat} (hw : w < 2) {a b : Nat → Int32} : ∀ j, j < 94 → xce E (va_up S w a) τ (xd j) = xce E (va_up S w (bcS w a b)) τ (xd j) := by
  refine run_alter [(0, 14), (20, 284)] (by
    match w, hw with
    | 0, _ => exact chk_0
    | 1, _ => exact chk_1) ?_
  intro i hi
  obtain ⟨r, hr, h1, h2⟩ := hi
  simp only [List.mem_cons, List.not_mem_nil, or_false] at hr
  rcases hr with rfl | rfl
  · exact (bcS_eq hw a b (Or.inl h2)).symm
  · exact (bcS_eq hw a b (Or.inr ⟨h1, h2⟩)).symm
/-! the views of what is kept -/
theorem vw_img (g k F T c B N M f : Nat → Int32) : vw g f F T (upd c 0 1) B N M = u2 (va_up (vw g k F T c B N M) 1 f) 4 0 1 := by
  funext b
  by_cases h1 : b = 1
  · subst h1
    simp [vw, va_up, u2, upd]
  · by_cases h4 : b = 4
    · subst h4
      funext i
      by_cases hi : i = 0
      · subst hi
        simp [vw, va_up, u2, upd]
      · simp [vw, va_up, u2, upd, hi]
    · simp [vw, va_up, u2, h1, h4]
theorem vw_tear (g k F T c B N M : Nat → Int32) : vw g k F T (upd c 0 0) B N M = u2 (va_up (vw g k F T c B N M) 1 (fun _ => 0)) 4 0 0 := by
  funext b
  by_cases h1 : b = 1
  · subst h1
    simp [vw, va_up, u2, upd]
  · by_cases h4 : b = 4
    · subst h4
      funext i
      by_cases hi : i = 0
      · subst hi
        simp [vw, va_up, u2, upd]
      · simp [vw, va_up, u2, upd, hi]
    · simp [vw, va_up, u2, h1, h4]
theorem cv_img (σ : xV) (f : Nat → Int32) : cv (u2 (va_up σ 1 f) 6 0 1) = u2 (va_up (cv σ) 1 f) 4 0 1 := vw_img _ _ _ _ _ _ _ _ f
theorem mv_img (σ : xV) (f : Nat → Int32) : mv (u2 (va_up σ 13 f) 17 0 1) = u2 (va_up (mv σ) 1 f) 4 0 1 := vw_img _ _ _ _ _ _ _ _ f
theorem cv_tear (σ : xV) : cv (u2 σ 6 0 0) = u2 (va_up (cv σ) 1 (fun _ => 0)) 4 0 0 := vw_tear _ _ _ _ _ _ _ _
theorem mv_tear (σ : xV) : mv (u2 σ 17 0 0) = u2 (va_up (mv σ) 1 (fun _ => 0)) 4 0 0 := vw_tear _ _ _ _ _ _ _ _
theorem cv_k {σ : xV} (h : ¬ σ 6 0 = 0) : cv σ 1 = σ 1 := if_neg h
theorem mv_k {σ : xV} (h : ¬ σ 17 0 = 0) : mv σ 1 = σ 13 := if_neg h
theorem tear_p {s V : xV} (h : s 4 0 = 0) (hV : V = u2 (va_up s 1 (fun _ => 0)) 4 0 0) : sp_tear s = (0, V) := by
  subst hV
  unfold sp_tear
  rw [if_pos h]
theorem tear_n {s V : xV} (h : ¬ s 4 0 = 0) (hV : V = u2 (va_up s 1 (fun _ => 0)) 4 0 0) : sp_tear s = (1, V) := by
  subst hV
  unfold sp_tear
  rw [if_neg h]
set_option maxHeartbeats 4000000 in
set_option maxRecDepth 100000 in
theorem c_pbecome (l : Launch) (E : xE) (σ : Nat → Nat → Int32) (τ : Nat → Int64) (w u p : Nat) (hkw : w < 2) (hku : u < 2) (hne : u ≠ w) (hp : p < 6) (g : Nat → Int32) : xMv l yX0_become cX0_become 2 1 60 E [.ref (xad E (sc w + 9 + 3 * p)), .ref (xad E (sc u + 9 + 3 * p))] (va_up σ w (g)) (τ) (va_up σ w (mixP (σ u) g p)) (τ) := by
  refine xMv_of (own := RX0) (by decide +kernel) rfl (Nat.le_of_ble_eq_true rfl) ?_
  intro zp ze zs zm za zb zh zc C
  refine WM.to (lv1 := [(0, .ref (xad E (sc w + 9 + 3 * p))), (1, .ref (xad E (sc u + 9 + 3 * p)))]) (st1 := []) (σ1 := va_up σ w (g)) (τ1 := τ) ?_ rfl rfl rfl rfl
  refine x_aload_n C 1 dX0_become_0 rfl rfl ?_
  refine x_get C (by have := sc_lt hku; omega) (sp_0 hku (show p < 6 by omega)) fl_X0_9 (q := (0, sc u + 9 + 3 * p + 1, 0)) (v := .ref (xad E (sc u + 9 + 3 * p + 1))) rfl rfl dX0_become_1 ?_
  refine x_iconst C (v := 0) dX0_become_4 (by decide) ?_
  refine x_aload_n C 0 dX0_become_5 rfl rfl ?_
  refine x_get C (by have := sc_lt hkw; omega) (sp_0 hkw (show p < 6 by omega)) fl_X0_9 (q := (0, sc w + 9 + 3 * p + 1, 0)) (v := .ref (xad E (sc w + 9 + 3 * p + 1))) rfl rfl dX0_become_6 ?_
  refine x_iconst C (v := 0) dX0_become_9 (by decide) ?_
  refine x_bipush C (v := 12) dX0_become_10 (by decide) ?_
  refine x_copy C (σ' := va_up σ w (cpB (xd (sc w + 9 + 3 * p + 1)) w (σ u) (g))) (by have := sc_lt hku; omega) (sp_1 hku (show p < 6 by omega)) (by have := sc_lt hkw; omega) (sp_1 hkw (show p < 6 by omega)) (by decide) (by decide) (by decide) (by decide) (by decide) (cpB_in (sp_1 hkw (show p < 6 by omega)) rfl (by decide) (by decide) (fun _ => (congrFun (va_up_ne _ _ hne) _))) (cpB_out rfl) ⟨km_X0_18, kM_copy⟩ ⟨Nat.le_of_ble_eq_true rfl, Nat.le_of_ble_eq_true rfl⟩ dX0_become_12 ?_
  refine x_aload_n C 1 dX0_become_15 rfl rfl ?_
  refine x_get C (by have := sc_lt hku; omega) (sp_0 hku (show p < 6 by omega)) fl_X0_15 (q := (0, sc u + 9 + 3 * p + 2, 0)) (v := .ref (xad E (sc u + 9 + 3 * p + 2))) rfl rfl dX0_become_16 ?_
  refine x_iconst C (v := 0) dX0_become_19 (by decide) ?_
  refine x_aload_n C 0 dX0_become_20 rfl rfl ?_
  refine x_get C (by have := sc_lt hkw; omega) (sp_0 hkw (show p < 6 by omega)) fl_X0_15 (q := (0, sc w + 9 + 3 * p + 2, 0)) (v := .ref (xad E (sc w + 9 + 3 * p + 2))) rfl rfl dX0_become_21 ?_
  refine x_iconst C (v := 0) dX0_become_24 (by decide) ?_
  refine x_bipush C (v := 12) dX0_become_25 (by decide) ?_
  refine x_copy C (σ' := va_up σ w (cpB (xd (sc w + 9 + 3 * p + 2)) w (σ u) (cpB (xd (sc w + 9 + 3 * p + 1)) w (σ u) (g)))) (by have := sc_lt hku; omega) (sp_2 hku (show p < 6 by omega)) (by have := sc_lt hkw; omega) (sp_2 hkw (show p < 6 by omega)) (by decide) (by decide) (by decide) (by decide) (by decide) (cpB_in (sp_2 hkw (show p < 6 by omega)) rfl (by decide) (by decide) (fun _ => (congrFun (va_up_ne _ _ hne) _))) (cpB_out rfl) ⟨km_X0_18, kM_copy⟩ ⟨Nat.le_of_ble_eq_true rfl, Nat.le_of_ble_eq_true rfl⟩ dX0_become_27 ?_
  refine x_aload_n C 0 dX0_become_30 rfl rfl ?_
  refine x_aload_n C 1 dX0_become_31 rfl rfl ?_
  refine x_get C (by have := sc_lt hku; omega) (sp_0 hku (show p < 6 by omega)) fl_X0_24 (q := (1, u, 134 + 25 * p)) (v := .int (σ u (134 + 25 * p))) rfl (congrArg Value.int (congrFun (va_up_ne _ (j := u) (k := w) _ (by omega)) _)) dX0_become_32 ?_
  refine x_put C (σ' := va_up σ w (upd (cpB (xd (sc w + 9 + 3 * p + 2)) w (σ u) (cpB (xd (sc w + 9 + 3 * p + 1)) w (σ u) (g))) (134 + 25 * p) (σ u (134 + 25 * p)))) (by have := sc_lt hkw; omega) (sp_0 hkw (show p < 6 by omega)) fp_X0_24 rfl rfl rfl (u2_bank _ _ _ _ _) dX0_become_35 ?_
  exact x_vret C (congrArg (va_up _ _) (prog_eq hkw hp _ _)) rfl dX0_become_38
set_option maxHeartbeats 4000000 in
set_option maxRecDepth 100000 in
theorem c_sbecome (l : Launch) (E : xE) (σ : Nat → Nat → Int32) (τ : Nat → Int64) (w u : Nat) (hkw : w < 2) (hku : u < 2) (hne : u ≠ w) : xMv l yX3_become cX3_become 3 2 81 E [.ref (xad E (sc w)), .ref (xad E (sc u))] (σ) (τ) (va_up σ w (σ u)) (τ) := by
  refine xMv_of (own := RX3) (by decide +kernel) rfl (Nat.le_of_ble_eq_true rfl) ?_
  intro zp ze zs zm za zb zh zc C
  refine WM.to (lv1 := [(0, .ref (xad E (sc w))), (1, .ref (xad E (sc u)))]) (st1 := []) (σ1 := σ) (τ1 := τ) ?_ rfl rfl rfl rfl
  have hw : w < 4 := by omega
  have hu : u < 4 := by omega
  refine x_aload_n C 0 dX3_become_0 rfl rfl ?_
  refine x_get C (by have := sc_lt hkw; omega) (sd_0 hkw) fl_X3_12 (q := (0, wc w, 0)) (v := .ref (xad E (wc w))) rfl rfl dX3_become_1 ?_
  refine x_aload_n C 1 dX3_become_4 rfl rfl ?_
  refine x_get C (by have := sc_lt hku; omega) (sd_0 hku) fl_X3_12 (q := (0, wc u, 0)) (v := .ref (xad E (wc u))) rfl rfl dX3_become_5 ?_
  refine x_callVv C (As := [.ref (xad E (wc u))]) (rest := []) (cW_become l E σ τ w u hw hu hne) kv_X3_33 (x_recv C (by have := wc_lt hw; omega) (wd_0 hw) rfl) ⟨Nat.le_of_ble_eq_true rfl, Nat.le_of_ble_eq_true rfl⟩ rfl rfl (Nat.le_of_ble_eq_true rfl) dX3_become_8 ?_
  refine x_iconst C (v := 0) dX3_become_11 (by decide) ?_
  refine x_istore_n C (lv1 := [(2, .int (0)), (0, .ref (xad E (sc w))), (1, .ref (xad E (sc u)))]) dX3_become_12 rfl (by decide) rfl ?_
  have loop : ∀ (j k : Nat), j + k = 6 → WM zp l ze { frames := 2, cells := 0, slots := 0, locals := 81 } zs zm za zb zh zc 0 0 (MQ zb (va_Qv (fun _ : Unit => True) (fun _ t => xP E (va_up σ w (σ u)) (τ) t.heap) (xA E)) za zs 0 0 (xA E)) E (xA E) 3 (va_up σ w (mixPs (σ u) (mixG (σ u) (σ w)) k)) (τ) 13 [(0, .ref (xad E (sc w))), (1, .ref (xad E (sc u))), (2, .int (nI k))] [] := by
    intro j
    induction j with
    | zero =>
      intro k hk
      refine x_iload_n C 2 dX3_become_13 rfl rfl ?_
      refine x_bipush C (v := 6) dX3_become_14 (by decide) ?_
      refine x_icmp_ge C (tgt := 40) dX3_become_16 (by decide) (fun h1 => ?_) (fun h1 => absurd h1 (nI_nlt (a := k) (b := 6) (by omega) (by omega)))
      obtain rfl : k = 6 := by omega
      refine x_aload_n C 0 dX3_become_40 rfl rfl ?_
      refine x_aload_n C 1 dX3_become_41 rfl rfl ?_
      refine x_get C (by have := sc_lt hku; omega) (sd_0 hku) fl_X3_40 (q := (1, u, 13)) (v := .int (σ u 13)) rfl (congrArg Value.int (congrFun (va_up_ne _ (j := u) (k := w) _ (by omega)) _)) dX3_become_42 ?_
      refine x_put C (σ' := va_up σ w (upd (mixPs (σ u) (mixG (σ u) (σ w)) 6) 13 (σ u 13))) (by have := sc_lt hkw; omega) (sd_0 hkw) fp_X3_40 rfl rfl rfl (u2_bank _ _ _ _ _) dX3_become_45 ?_
      refine x_aload_n C 1 dX3_become_48 rfl rfl ?_
      refine x_get C (by have := sc_lt hku; omega) (sd_0 hku) fl_X3_24 (q := (0, sc u + 8, 0)) (v := .ref (xad E (sc u + 8))) rfl rfl dX3_become_49 ?_
      refine x_iconst C (v := 0) dX3_become_52 (by decide) ?_
      refine x_aload_n C 0 dX3_become_53 rfl rfl ?_
      refine x_get C (by have := sc_lt hkw; omega) (sd_0 hkw) fl_X3_24 (q := (0, sc w + 8, 0)) (v := .ref (xad E (sc w + 8))) rfl rfl dX3_become_54 ?_
      refine x_iconst C (v := 0) dX3_become_57 (by decide) ?_
      refine x_bipush C (v := 10) dX3_become_58 (by decide) ?_
      refine x_copy C (σ' := va_up σ w (cpB (xd (sc w + 8)) w (σ u) (upd (mixPs (σ u) (mixG (σ u) (σ w)) 6) 13 (σ u 13)))) (by have := sc_lt hku; omega) (sd_8 hku) (by have := sc_lt hkw; omega) (sd_8 hkw) (by decide) (by decide) (by decide) (by decide) (by decide) (cpB_in (sd_8 hkw) rfl (by decide) (by decide) (fun _ => (congrFun (va_up_ne _ _ hne) _))) (cpB_out rfl) ⟨km_X3_43, kM_copy⟩ ⟨Nat.le_of_ble_eq_true rfl, Nat.le_of_ble_eq_true rfl⟩ dX3_become_60 ?_
      refine x_aload_n C 0 dX3_become_63 rfl rfl ?_
      refine x_aload_n C 1 dX3_become_64 rfl rfl ?_
      refine x_get C (by have := sc_lt hku; omega) (sd_0 hku) fl_X3_28 (q := (1, u, 12)) (v := .int (σ u 12)) rfl (congrArg Value.int (congrFun (va_up_ne _ (j := u) (k := w) _ (by omega)) _)) dX3_become_65 ?_
      refine x_put C (σ' := va_up σ w (upd (cpB (xd (sc w + 8)) w (σ u) (upd (mixPs (σ u) (mixG (σ u) (σ w)) 6) 13 (σ u 13))) 12 (σ u 12))) (by have := sc_lt hkw; omega) (sd_0 hkw) fp_X3_28 rfl rfl rfl (u2_bank _ _ _ _ _) dX3_become_68 ?_
      refine WM.alter (σ' := va_up σ w (σ u)) (st_alter hkw) ?_
      exact x_vret C rfl rfl dX3_become_71
    | succ j ih =>
      intro k hk
      refine x_iload_n C 2 dX3_become_13 rfl rfl ?_
      refine x_bipush C (v := 6) dX3_become_14 (by decide) ?_
      refine x_icmp_ge C (tgt := 40) dX3_become_16 (by decide) (fun h2 => absurd (nI_lt (a := k) (b := 6) (by omega) (by omega)) h2) (fun h2 => ?_)
      refine x_aload_n C 0 dX3_become_19 rfl rfl ?_
      refine x_get C (by have := sc_lt hkw; omega) (sd_0 hkw) fl_X3_20 (q := (0, sc w + 7, 0)) (v := .ref (xad E (sc w + 7))) rfl rfl dX3_become_20 ?_
      refine x_iload_n C 2 dX3_become_23 rfl rfl ?_
      refine x_aldq C (by have := sc_lt hkw; omega) (t := 1) (Or.inl rfl) (z := sc w + 9 + 3 * k) (sd_7 hkw) rfl (vp_in_nI (show k < 6 by omega) (by decide)) (by rw [nI_clamp (by omega)]) dX3_become_24 ?_
      refine x_aload_n C 1 dX3_become_25 rfl rfl ?_
      refine x_get C (by have := sc_lt hku; omega) (sd_0 hku) fl_X3_20 (q := (0, sc u + 7, 0)) (v := .ref (xad E (sc u + 7))) rfl rfl dX3_become_26 ?_
      refine x_iload_n C 2 dX3_become_29 rfl rfl ?_
      refine x_aldq C (by have := sc_lt hku; omega) (t := 1) (Or.inl rfl) (z := sc u + 9 + 3 * k) (sd_7 hku) rfl (vp_in_nI (show k < 6 by omega) (by decide)) (by rw [nI_clamp (by omega)]) dX3_become_30 ?_
      refine x_callVv C (As := [.ref (xad E (sc u + 9 + 3 * k))]) (rest := []) (c_pbecome l E σ τ w u k hkw hku hne (by omega) (mixPs (σ u) (mixG (σ u) (σ w)) k)) kv_X3_37 (x_recv C (by have := sc_lt hkw; omega) (sp_0 hkw (show k < 6 by omega)) rfl) ⟨Nat.le_of_ble_eq_true rfl, Nat.le_of_ble_eq_true rfl⟩ rfl rfl (Nat.le_of_ble_eq_true rfl) dX3_become_31 ?_
      refine x_iinc C (v := nI (k + 1)) (lv1 := [(2, .int (nI (k + 1))), (0, .ref (xad E (sc w))), (1, .ref (xad E (sc u)))]) 2 dX3_become_34 rfl (nI_add k 1) (by decide) rfl ?_
      refine x_goto2 C (tgt := 13) dX3_become_37 (by decide) ?_
      refine WM.keep [1, 2, 0] (lv' := [(0, .ref (xad E (sc w))), (1, .ref (xad E (sc u))), (2, .int (nI (k + 1)))]) rfl ?_
      exact WM.to (ih (k + 1) (by omega)) (congrArg (va_up _ _) (mixPs_s _ _ _)) rfl rfl rfl
  refine WM.keep [1, 2, 0] rfl ?_
  exact WM.to (loop (6) 0 (by omega)) (congrArg (va_up _ _) (mixPs_0 _ _).symm) rfl rfl rfl
set_option maxHeartbeats 4000000 in
set_option maxRecDepth 100000 in
theorem k_image (l : Launch) (E : xE) (σ : Nat → Nat → Int32) (τ : Nat → Int64) (T : Nat) (hT : T < 1073741824)  (hI : Inv (cv σ) T) : xOi l yX7_image cX7_image 1 .int 3 103 E [.ref (xad E (0))] σ τ (cpost (sp_image (cv σ)) σ) := by
  refine xOi_of (own := RX7) (by decide +kernel) rfl (Nat.le_of_ble_eq_true rfl) ?_
  intro zp ze zs zm za zb zh zc C
  refine WM.to (lv1 := [(0, .ref (xad E (0)))]) (st1 := []) (σ1 := σ) (τ1 := τ) ?_ rfl rfl rfl rfl
  have hg : gI (σ 0) := hI.g
  have hgT : gT (σ 0) T := hI.t
  have h0 : 0 ≤ (σ 0 10).toInt := hI.h0
  refine x_aload_n C 0 dX7_image_0 rfl rfl ?_
  refine x_get C (Nat.le_of_ble_eq_true rfl) xd_0 fl_X7_16 (q := (0, 28, 0)) (v := .ref (xad E (28))) rfl rfl dX7_image_1 ?_
  refine x_aload_n C 0 dX7_image_4 rfl rfl ?_
  refine x_get C (Nat.le_of_ble_eq_true rfl) xd_0 fl_X7_12 (q := (0, 1, 0)) (v := .ref (xad E (1))) rfl rfl dX7_image_5 ?_
  refine x_callVv C (As := [.ref (xad E (1))]) (rest := []) (c_sbecome l E σ τ 1 0 (by decide) (by decide) (by decide)) kv_X7_289 (x_recv C (Nat.le_of_ble_eq_true rfl) xd_28 rfl) ⟨Nat.le_of_ble_eq_true rfl, Nat.le_of_ble_eq_true rfl⟩ rfl rfl (Nat.le_of_ble_eq_true rfl) dX7_image_8 ?_
  refine x_aload_n C 0 dX7_image_11 rfl rfl ?_
  refine x_iconst C (v := 1) dX7_image_12 (by decide) ?_
  refine x_put C (σ' := u2 (va_up σ 1 (σ 0)) 6 0 (1)) (Nat.le_of_ble_eq_true rfl) xd_0 fp_X7_292 rfl rfl rfl rfl dX7_image_13 ?_
  refine x_iconst C (v := 1) dX7_image_16 (by decide) ?_
  exact x_oret C (cpost_of (V := u2 (va_up (cv σ) 1 (σ 0)) 4 0 1) rfl (cv_img _ _) (by rw [mv_u6, mv_v1]) rfl) dX7_image_17
set_option maxHeartbeats 4000000 in
set_option maxRecDepth 100000 in
theorem m_image (l : Launch) (E : xE) (σ : Nat → Nat → Int32) (τ : Nat → Int64) (T : Nat) (hT : T < 1073741824)  (hI : Inv (mv σ) T) (hlv : ∀ j, j < 12 → σ 15 j = (xzl 1).getD j 0) : xOi l yX8_image cX8_image 1 .int 1 22 E [.ref (xad E (81))] σ τ (mpost (sp_image (mv σ)) σ) := by
  refine xOi_of (own := RX8) (by decide +kernel) rfl (Nat.le_of_ble_eq_true rfl) ?_
  intro zp ze zs zm za zb zh zc C
  refine WM.to (lv1 := [(0, .ref (xad E (81)))]) (st1 := []) (σ1 := σ) (τ1 := τ) ?_ rfl rfl rfl rfl
  have hg : gI (σ 10) := hI.g
  have hgT : gT (σ 10) T := hI.t
  have h0 : 0 ≤ (σ 10 10).toInt := hI.h0
  refine x_aload_n C 0 dX8_image_0 rfl rfl ?_
  refine x_get C (Nat.le_of_ble_eq_true rfl) xd_81 fl_X8_9 (q := (0, 82, 0)) (v := .ref (xad E (82))) rfl rfl dX8_image_1 ?_
  refine x_aload_n C 0 dX8_image_4 rfl rfl ?_
  refine x_get C (Nat.le_of_ble_eq_true rfl) xd_81 fl_X8_19 (q := (0, 85, 0)) (v := .ref (xad E (85))) rfl rfl dX8_image_5 ?_
  refine x_callSv C (As := [.ref (xad E (82)), .ref (xad E (85))]) (rest := []) (cM_copies l E σ τ 10 13 (by decide) (by decide) (by decide)) ks_X8_235 ⟨Nat.le_of_ble_eq_true rfl, Nat.le_of_ble_eq_true rfl⟩ rfl rfl (Nat.le_of_ble_eq_true rfl) dX8_image_8 ?_
  refine WM.to (σ1 := va_up σ 13 (σ 10)) ?_ (congrArg (va_up _ _) rfl) rfl rfl rfl
  refine x_aload_n C 0 dX8_image_11 rfl rfl ?_
  refine x_iconst C (v := 1) dX8_image_12 (by decide) ?_
  refine x_put C (σ' := u2 (va_up σ 13 (σ 10)) 17 0 (1)) (Nat.le_of_ble_eq_true rfl) xd_81 fp_X8_288 rfl rfl rfl rfl dX8_image_13 ?_
  refine x_iconst C (v := 1) dX8_image_16 (by decide) ?_
  exact x_oret C (mpost_of (V := u2 (va_up (mv σ) 1 (σ 10)) 4 0 1) rfl (mv_img _ _) (by rw [cv_u17, cv_v13]) rfl) dX8_image_17
set_option maxHeartbeats 4000000 in
set_option maxRecDepth 100000 in
theorem k_undo (l : Launch) (E : xE) (σ : Nat → Nat → Int32) (τ : Nat → Int64) (T : Nat) (hT : T < 1073741824)  (hI : Inv (cv σ) T) : xOi l yX7_undo cX7_undo 1 .int 3 103 E [.ref (xad E (0))] σ τ (cpost (sp_undo (cv σ)) σ) := by
  refine xOi_of (own := RX7) (by decide +kernel) rfl (Nat.le_of_ble_eq_true rfl) ?_
  intro zp ze zs zm za zb zh zc C
  refine WM.to (lv1 := [(0, .ref (xad E (0)))]) (st1 := []) (σ1 := σ) (τ1 := τ) ?_ rfl rfl rfl rfl
  have hg : gI (σ 0) := hI.g
  have hgT : gT (σ 0) T := hI.t
  have h0 : 0 ≤ (σ 0 10).toInt := hI.h0
  refine x_aload_n C 0 dX7_undo_0 rfl rfl ?_
  refine x_get C (Nat.le_of_ble_eq_true rfl) xd_0 fl_X7_292 (q := (1, 6, 0)) (v := .int (σ 6 0)) rfl rfl dX7_undo_1 ?_
  refine x_if_ne C (tgt := 14) dX7_undo_4 (by decide) (fun h1 => ?_) (fun h1 => ?_)
  · refine x_aload_n C 0 dX7_undo_14 rfl rfl ?_
    refine x_get C (Nat.le_of_ble_eq_true rfl) xd_0 fl_X7_12 (q := (0, 1, 0)) (v := .ref (xad E (1))) rfl rfl dX7_undo_15 ?_
    refine x_aload_n C 0 dX7_undo_18 rfl rfl ?_
    refine x_get C (Nat.le_of_ble_eq_true rfl) xd_0 fl_X7_16 (q := (0, 28, 0)) (v := .ref (xad E (28))) rfl rfl dX7_undo_19 ?_
    refine x_callVv C (As := [.ref (xad E (28))]) (rest := []) (c_sbecome l E σ τ 0 1 (by decide) (by decide) (by decide)) kv_X7_289 (x_recv C (Nat.le_of_ble_eq_true rfl) xd_1 rfl) ⟨Nat.le_of_ble_eq_true rfl, Nat.le_of_ble_eq_true rfl⟩ rfl rfl (Nat.le_of_ble_eq_true rfl) dX7_undo_22 ?_
    refine x_aload_n C 0 dX7_undo_25 rfl rfl ?_
    refine x_get C (Nat.le_of_ble_eq_true rfl) xd_0 fl_X7_12 (q := (0, 1, 0)) (v := .ref (xad E (1))) rfl rfl dX7_undo_26 ?_
    refine x_get C (Nat.le_of_ble_eq_true rfl) xd_1 fl_X7_68 (q := (0, 2, 0)) (v := .ref (xad E (2))) rfl rfl dX7_undo_29 ?_
    refine x_get C (Nat.le_of_ble_eq_true rfl) xd_2 fl_X7_127 (q := (1, 0, 9)) (v := .int ((σ 1) 9)) rfl (congrArg Value.int (congrFun (va_up_self _ _ _) _)) dX7_undo_32 ?_
    exact x_oret C (cpost_of (V := va_up (cv σ) 0 (σ 1)) (Eq.trans (if_neg h1) (by rw [cv_k h1])) (by rw [cv_v0]) (by rw [mv_v0]) rfl) dX7_undo_35
  · refine x_aload_n C 0 dX7_undo_7 rfl rfl ?_
    refine x_ldc C dX7_undo_8 kc_X7_145 ?_
    refine x_callVi C (As := [.int ((-1000004))]) (rest := []) (c_finding l E σ τ 3 (by decide) (-1000004) (by decide)) kv_X7_64 (x_recv C (Nat.le_of_ble_eq_true rfl) xd_0 rfl) ⟨Nat.le_of_ble_eq_true rfl, Nat.le_of_ble_eq_true rfl⟩ rfl rfl (Nat.le_of_ble_eq_true rfl) dX7_undo_10 ?_
    exact x_oret C (cpost_of (V := u2 (cv σ) 2 3 (σ 4 3 + 1)) (if_pos h1) (by rw [cv_u4]) (by rw [mv_u4]) rfl) dX7_undo_13
set_option maxHeartbeats 4000000 in
set_option maxRecDepth 100000 in
theorem m_undo (l : Launch) (E : xE) (σ : Nat → Nat → Int32) (τ : Nat → Int64) (T : Nat) (hT : T < 1073741824)  (hI : Inv (mv σ) T) (hlv : ∀ j, j < 12 → σ 15 j = (xzl 1).getD j 0) : xOi l yX8_undo cX8_undo 1 .int 1 22 E [.ref (xad E (81))] σ τ (mpost (sp_undo (mv σ)) σ) := by
  refine xOi_of (own := RX8) (by decide +kernel) rfl (Nat.le_of_ble_eq_true rfl) ?_
  intro zp ze zs zm za zb zh zc C
  refine WM.to (lv1 := [(0, .ref (xad E (81)))]) (st1 := []) (σ1 := σ) (τ1 := τ) ?_ rfl rfl rfl rfl
  have hg : gI (σ 10) := hI.g
  have hgT : gT (σ 10) T := hI.t
  have h0 : 0 ≤ (σ 10 10).toInt := hI.h0
  refine x_aload_n C 0 dX8_undo_0 rfl rfl ?_
  refine x_get C (Nat.le_of_ble_eq_true rfl) xd_81 fl_X8_288 (q := (1, 17, 0)) (v := .int (σ 17 0)) rfl rfl dX8_undo_1 ?_
  refine x_if_ne C (tgt := 14) dX8_undo_4 (by decide) (fun h1 => ?_) (fun h1 => ?_)
  · refine x_aload_n C 0 dX8_undo_14 rfl rfl ?_
    refine x_get C (Nat.le_of_ble_eq_true rfl) xd_81 fl_X8_19 (q := (0, 85, 0)) (v := .ref (xad E (85))) rfl rfl dX8_undo_15 ?_
    refine x_aload_n C 0 dX8_undo_18 rfl rfl ?_
    refine x_get C (Nat.le_of_ble_eq_true rfl) xd_81 fl_X8_9 (q := (0, 82, 0)) (v := .ref (xad E (82))) rfl rfl dX8_undo_19 ?_
    refine x_callSv C (As := [.ref (xad E (85)), .ref (xad E (82))]) (rest := []) (cM_copies l E σ τ 13 10 (by decide) (by decide) (by decide)) ks_X8_235 ⟨Nat.le_of_ble_eq_true rfl, Nat.le_of_ble_eq_true rfl⟩ rfl rfl (Nat.le_of_ble_eq_true rfl) dX8_undo_22 ?_
    refine WM.to (σ1 := va_up σ 10 (σ 13)) ?_ (congrArg (va_up _ _) rfl) rfl rfl rfl
    refine x_aload_n C 0 dX8_undo_25 rfl rfl ?_
    refine x_get C (Nat.le_of_ble_eq_true rfl) xd_81 fl_X8_9 (q := (0, 82, 0)) (v := .ref (xad E (82))) rfl rfl dX8_undo_26 ?_
    refine x_bipush C (v := 9) dX8_undo_29 (by decide) ?_
    refine x_ald C (Nat.le_of_ble_eq_true rfl) xd_82 (v := (σ 13) 9) (vp_in_nI (show 9 < 284 by omega) (by decide)) (by rw [(show (9 : Int32).toNatClampNeg = 9 from by decide), Nat.zero_add, Nat.one_mul]; exact (congrFun (va_up_self _ _ _) _)) dX8_undo_31 ?_
    exact x_oret C (mpost_of (V := va_up (mv σ) 0 (σ 13)) (Eq.trans (if_neg h1) (by rw [mv_k h1])) (by rw [mv_v10]) (by rw [cv_v10]) rfl) dX8_undo_32
  · refine x_aload_n C 0 dX8_undo_7 rfl rfl ?_
    refine x_ldc C dX8_undo_8 kc_X8_125 ?_
    refine x_callVi C (As := [.int ((-1000004))]) (rest := []) (c_finds l E σ τ 3 (by decide) (-1000004) (by decide)) kv_X8_61 (x_recv C (Nat.le_of_ble_eq_true rfl) xd_81 rfl) ⟨Nat.le_of_ble_eq_true rfl, Nat.le_of_ble_eq_true rfl⟩ rfl rfl (Nat.le_of_ble_eq_true rfl) dX8_undo_10 ?_
    exact x_oret C (mpost_of (V := u2 (mv σ) 2 3 (σ 14 3 + 1)) (if_pos h1) (by rw [mv_u14]) (by rw [cv_u14]) rfl) dX8_undo_13
set_option maxHeartbeats 4000000 in
set_option maxRecDepth 100000 in
theorem k_tear (l : Launch) (E : xE) (σ : Nat → Nat → Int32) (τ : Nat → Int64) (T : Nat) (hT : T < 1073741824)  (hI : Inv (cv σ) T) : xOi l yX7_tear cX7_tear 2 .int 0 0 E [.ref (xad E (0))] σ τ (cpost (sp_tear (cv σ)) σ) := by
  refine xOi_of (own := RX7) (by decide +kernel) rfl (Nat.le_of_ble_eq_true rfl) ?_
  intro zp ze zs zm za zb zh zc C
  refine WM.to (lv1 := [(0, .ref (xad E (0)))]) (st1 := []) (σ1 := σ) (τ1 := τ) ?_ rfl rfl rfl rfl
  have hg : gI (σ 0) := hI.g
  have hgT : gT (σ 0) T := hI.t
  have h0 : 0 ≤ (σ 0 10).toInt := hI.h0
  refine x_aload_n C 0 dX7_tear_0 rfl rfl ?_
  refine x_get C (Nat.le_of_ble_eq_true rfl) xd_0 fl_X7_292 (q := (1, 6, 0)) (v := .int (σ 6 0)) rfl rfl dX7_tear_1 ?_
  refine x_if_eq C (tgt := 11) dX7_tear_4 (by decide) (fun h1 => ?_) (fun h1 => ?_)
  · refine x_iconst C (v := 0) dX7_tear_11 (by decide) ?_
    refine x_istore_n C (lv1 := [(1, .int (0)), (0, .ref (xad E (0)))]) dX7_tear_12 rfl (by decide) rfl ?_
    refine x_aload_n C 1 dX7_tear_13 rfl rfl ?_
    refine x_iconst C (v := 0) dX7_tear_14 (by decide) ?_
    refine x_put C (σ' := u2 σ 6 0 (0)) (Nat.le_of_ble_eq_true rfl) xd_0 fp_X7_292 rfl rfl rfl rfl dX7_tear_15 ?_
    refine x_iload_n C 0 dX7_tear_18 rfl rfl ?_
    exact x_oret C (cpost_of (V := u2 (va_up (cv σ) 1 (fun _ => 0)) 4 0 0) (tear_p h1 rfl) (cv_tear _) (by rw [mv_u6]) rfl) dX7_tear_19
  · refine x_iconst C (v := 1) dX7_tear_7 (by decide) ?_
    refine x_goto2 C (tgt := 12) dX7_tear_8 (by decide) ?_
    refine x_istore_n C (lv1 := [(1, .int (1)), (0, .ref (xad E (0)))]) dX7_tear_12 rfl (by decide) rfl ?_
    refine x_aload_n C 1 dX7_tear_13 rfl rfl ?_
    refine x_iconst C (v := 0) dX7_tear_14 (by decide) ?_
    refine x_put C (σ' := u2 σ 6 0 (0)) (Nat.le_of_ble_eq_true rfl) xd_0 fp_X7_292 rfl rfl rfl rfl dX7_tear_15 ?_
    refine x_iload_n C 0 dX7_tear_18 rfl rfl ?_
    exact x_oret C (cpost_of (V := u2 (va_up (cv σ) 1 (fun _ => 0)) 4 0 0) (tear_n h1 rfl) (cv_tear _) (by rw [mv_u6]) rfl) dX7_tear_19
set_option maxHeartbeats 4000000 in
set_option maxRecDepth 100000 in
theorem m_tear (l : Launch) (E : xE) (σ : Nat → Nat → Int32) (τ : Nat → Int64) (T : Nat) (hT : T < 1073741824)  (hI : Inv (mv σ) T) (hlv : ∀ j, j < 12 → σ 15 j = (xzl 1).getD j 0) : xOi l yX8_tear cX8_tear 2 .int 0 0 E [.ref (xad E (81))] σ τ (mpost (sp_tear (mv σ)) σ) := by
  refine xOi_of (own := RX8) (by decide +kernel) rfl (Nat.le_of_ble_eq_true rfl) ?_
  intro zp ze zs zm za zb zh zc C
  refine WM.to (lv1 := [(0, .ref (xad E (81)))]) (st1 := []) (σ1 := σ) (τ1 := τ) ?_ rfl rfl rfl rfl
  have hg : gI (σ 10) := hI.g
  have hgT : gT (σ 10) T := hI.t
  have h0 : 0 ≤ (σ 10 10).toInt := hI.h0
  refine x_aload_n C 0 dX8_tear_0 rfl rfl ?_
  refine x_get C (Nat.le_of_ble_eq_true rfl) xd_81 fl_X8_288 (q := (1, 17, 0)) (v := .int (σ 17 0)) rfl rfl dX8_tear_1 ?_
  refine x_if_eq C (tgt := 11) dX8_tear_4 (by decide) (fun h1 => ?_) (fun h1 => ?_)
  · refine x_iconst C (v := 0) dX8_tear_11 (by decide) ?_
    refine x_istore_n C (lv1 := [(1, .int (0)), (0, .ref (xad E (81)))]) dX8_tear_12 rfl (by decide) rfl ?_
    refine x_aload_n C 1 dX8_tear_13 rfl rfl ?_
    refine x_iconst C (v := 0) dX8_tear_14 (by decide) ?_
    refine x_put C (σ' := u2 σ 17 0 (0)) (Nat.le_of_ble_eq_true rfl) xd_81 fp_X8_288 rfl rfl rfl rfl dX8_tear_15 ?_
    refine x_iload_n C 0 dX8_tear_18 rfl rfl ?_
    exact x_oret C (mpost_of (V := u2 (va_up (mv σ) 1 (fun _ => 0)) 4 0 0) (tear_p h1 rfl) (mv_tear _) (by rw [cv_u17]) rfl) dX8_tear_19
  · refine x_iconst C (v := 1) dX8_tear_7 (by decide) ?_
    refine x_goto2 C (tgt := 12) dX8_tear_8 (by decide) ?_
    refine x_istore_n C (lv1 := [(1, .int (1)), (0, .ref (xad E (81)))]) dX8_tear_12 rfl (by decide) rfl ?_
    refine x_aload_n C 1 dX8_tear_13 rfl rfl ?_
    refine x_iconst C (v := 0) dX8_tear_14 (by decide) ?_
    refine x_put C (σ' := u2 σ 17 0 (0)) (Nat.le_of_ble_eq_true rfl) xd_81 fp_X8_288 rfl rfl rfl rfl dX8_tear_15 ?_
    refine x_iload_n C 0 dX8_tear_18 rfl rfl ?_
    exact x_oret C (mpost_of (V := u2 (va_up (mv σ) 1 (fun _ => 0)) 4 0 0) (tear_n h1 rfl) (mv_tear _) (by rw [cv_u17]) rfl) dX8_tear_19
