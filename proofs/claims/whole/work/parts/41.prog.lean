/-! programs: programOf -/
theorem rngPr {x n : Int32} (hn : 0 ≤ n.toInt ∧ n.toInt ≤ 6) (h : rng x 0 (n - 1)) : ∃ p : Nat, p < 6 ∧ x = nI p := by
  have h1 := rng_iff.mp h
  have e1 : (1 : Int32).toInt = 1 := by decide
  rw [tI_sub (by omega) (by omega), tI_0, e1] at h1
  obtain ⟨j, hj, e⟩ := nI_is (x := x) (by omega) (n := 5) (by omega) (by decide)
  exact ⟨j, by omega, e⟩
theorem min6 {n : Int32} (hn : 0 ≤ n.toInt ∧ n.toInt ≤ 6) : (if (6 : Int32) < n then 6 else n) = n := by
  refine if_neg ?_
  have e : (6 : Int32).toInt = 6 := by decide
  rw [tI_lt, e]
  omega
def tkN (g : Nat → Int32) (q : Nat) : Nat → Int32
  | 0 => 0
  | k + 1 => if g (135 + 25 * q + 2 * k) = 12 then tkN g q k + g (136 + 25 * q + 2 * k) else tkN g q k
def progS (q : Nat) (what : Int32) (s : xV) : Int32 × xV := (if what = 0 then s 0 (134 + 25 * q) else tkN (s 0) q (s 0 (134 + 25 * q)).toNatClampNeg, s)
def sp_programOf (p what : Int32) (s : xV) : Int32 × xV := if rng p 0 (s 0 13 - 1) ∧ rng what 0 1 then progS p.toNatClampNeg what s else bad s
theorem prog_0 {q : Nat} {what : Int32} {s : xV} (h : what = 0) : progS q what s = (s 0 (134 + 25 * q), s) := congrArg (fun z => (z, s)) (if_pos h)
theorem prog_1 {q c k : Nat} {what : Int32} {s : xV} (h : ¬ what = 0) (hc : s 0 (134 + 25 * q) = nI c) (hc2 : c < 2 ^ 31) (hk : k = c) : progS q what s = (tkN (s 0) q k, s) := by
  subst hk
  unfold progS
  rw [if_neg h, hc, nI_clamp hc2]
set_option maxHeartbeats 4000000 in
set_option maxRecDepth 100000 in
theorem c_isProg (l : Launch) (E : xE) (σ : Nat → Nat → Int32) (τ : Nat → Int64) (p : Int32) (hn : 0 ≤ (σ 0 13).toInt ∧ (σ 0 13).toInt ≤ 6) : xMi l yX7_isProgram cX7_isProgram 2 .boolean 1 23 E [.ref (xad E (0)), .int (p)] (σ) (τ) (if rng p 0 (σ 0 13 - 1) then 1 else 0) (σ) (τ) := by
  refine xMi_of (own := RX7) (by decide +kernel) rfl (Nat.le_of_ble_eq_true rfl) ?_
  intro zp ze zs zm za zb zh zc C
  refine WM.to (lv1 := [(0, .ref (xad E (0))), (1, .int (p))]) (st1 := []) (σ1 := σ) (τ1 := τ) ?_ rfl rfl rfl rfl
  refine x_iload_n C 1 dX7_isProgram_0 rfl rfl ?_
  refine x_iconst C (v := 0) dX7_isProgram_1 (by decide) ?_
  refine x_aload_n C 0 dX7_isProgram_2 rfl rfl ?_
  refine x_get C (Nat.le_of_ble_eq_true rfl) xd_0 fl_X7_12 (q := (0, 1, 0)) (v := .ref (xad E (1))) rfl rfl dX7_isProgram_3 ?_
  refine x_get C (Nat.le_of_ble_eq_true rfl) xd_1 fl_X7_163 (q := (1, 0, 13)) (v := .int (σ 0 13)) rfl rfl dX7_isProgram_6 ?_
  refine x_bipush C (v := 6) dX7_isProgram_9 (by decide) ?_
  refine x_mmin C km_X7_151 kM_min ⟨Nat.le_of_ble_eq_true rfl, Nat.le_of_ble_eq_true rfl⟩ dX7_isProgram_11 ?_
  refine WM.topi (y := σ 0 13) (min6 hn) ?_
  refine x_iconst C (v := 1) dX7_isProgram_14 (by decide) ?_
  refine x_isub C dX7_isProgram_15 ?_
  refine x_callSi C (As := [.int (p), .int (0), .int ((σ 0 13) - 1)]) (rest := []) (c_within l E σ τ p 0 ((σ 0 13) - 1)) ks_X7_59 ⟨Nat.le_of_ble_eq_true rfl, Nat.le_of_ble_eq_true rfl⟩ rfl rfl (Nat.le_of_ble_eq_true rfl) dX7_isProgram_16 ?_
  exact x_zret C (by first | rfl | exact nzB _) rfl rfl rfl dX7_isProgram_19
set_option maxHeartbeats 4000000 in
set_option maxRecDepth 100000 in
theorem c_misProg (l : Launch) (E : xE) (σ : Nat → Nat → Int32) (τ : Nat → Int64) (p : Int32) : xMi l yX8_isProgram cX8_isProgram 2 .boolean 1 25 E [.ref (xad E (81)), .int (p)] (σ) (τ) (if rng p 0 (σ 10 13 - 1) then 1 else 0) (σ) (τ) := by
  refine xMi_of (own := RX8) (by decide +kernel) rfl (Nat.le_of_ble_eq_true rfl) ?_
  intro zp ze zs zm za zb zh zc C
  refine WM.to (lv1 := [(0, .ref (xad E (81))), (1, .int (p))]) (st1 := []) (σ1 := σ) (τ1 := τ) ?_ rfl rfl rfl rfl
  refine x_iload_n C 1 dX8_isProgram_0 rfl rfl ?_
  refine x_i2l C dX8_isProgram_1 ?_
  refine x_lconst C (v := 0) dX8_isProgram_2 (by decide) ?_
  refine x_aload_n C 0 dX8_isProgram_3 rfl rfl ?_
  refine x_get C (Nat.le_of_ble_eq_true rfl) xd_81 fl_X8_9 (q := (0, 82, 0)) (v := .ref (xad E (82))) rfl rfl dX8_isProgram_4 ?_
  refine x_bipush C (v := 13) dX8_isProgram_7 (by decide) ?_
  refine x_ald C (Nat.le_of_ble_eq_true rfl) xd_82 (v := σ 10 13) (vp_in_nI (show 13 < 284 by omega) (by decide)) (by rw [(show (13 : Int32).toNatClampNeg = 13 from by decide), Nat.zero_add, Nat.one_mul]) dX8_isProgram_9 ?_
  refine x_iconst C (v := 1) dX8_isProgram_10 (by decide) ?_
  refine x_isub C dX8_isProgram_11 ?_
  refine x_i2l C dX8_isProgram_12 ?_
  refine x_callSi C (As := [.long (Int32.toInt64 p), .long (0), .long (Int32.toInt64 ((σ 10 13) - 1))]) (rest := []) (c_in l E σ τ (Int32.toInt64 p) 0 (Int32.toInt64 ((σ 10 13) - 1))) ks_X8_49 ⟨Nat.le_of_ble_eq_true rfl, Nat.le_of_ble_eq_true rfl⟩ rfl rfl (Nat.le_of_ble_eq_true rfl) dX8_isProgram_13 ?_
  refine WM.topi (y := if rng p 0 ((σ 10 13) - 1) then 1 else 0) (in_eq p 0 ((σ 10 13) - 1) (by decide) rfl) ?_
  exact x_zret C (by first | rfl | exact nzB _) rfl rfl rfl dX8_isProgram_16
set_option maxHeartbeats 4000000 in
set_option maxRecDepth 100000 in
theorem c_ticksAll (l : Launch) (E : xE) (σ : Nat → Nat → Int32) (τ : Nat → Int64) (w p c : Nat) (hkw : w < 2) (hp : p < 6) (hc : σ w (134 + 25 * p) = nI c) (hcb : c ≤ 12) : xMi l yX0_ticksOfAll cX0_ticksOfAll 3 .int 0 0 E [.ref (xad E (sc w + 9 + 3 * p))] (σ) (τ) (tkN (σ w) p c) (σ) (τ) := by
  refine xMi_of (own := RX0) (by decide +kernel) rfl (Nat.le_of_ble_eq_true rfl) ?_
  intro zp ze zs zm za zb zh zc C
  refine WM.to (lv1 := [(0, .ref (xad E (sc w + 9 + 3 * p)))]) (st1 := []) (σ1 := σ) (τ1 := τ) ?_ rfl rfl rfl rfl
  refine x_iconst C (v := 0) dX0_ticksOfAll_0 (by decide) ?_
  refine x_istore_n C (lv1 := [(1, .int (0)), (0, .ref (xad E (sc w + 9 + 3 * p)))]) dX0_ticksOfAll_1 rfl (by decide) rfl ?_
  refine x_iconst C (v := 0) dX0_ticksOfAll_2 (by decide) ?_
  refine x_istore_n C (lv1 := [(2, .int (0)), (1, .int (0)), (0, .ref (xad E (sc w + 9 + 3 * p)))]) dX0_ticksOfAll_3 rfl (by decide) rfl ?_
  have loop : ∀ (j k : Nat), j + k = c → WM zp l ze { frames := 0, cells := 0, slots := 0, locals := 0 } zs zm za zb zh zc 0 0 (MQ zb (va_Qi (fun r (_ : Unit) => r = (tkN (σ w) p c)) (fun _ t => xP E (σ) (τ) t.heap) (xA E)) za zs 0 0 (xA E)) E (xA E) 3 (σ) (τ) 4 [(0, .ref (xad E (sc w + 9 + 3 * p))), (1, .int (tkN (σ w) p k)), (2, .int (nI k))] [] := by
    intro j
    induction j with
    | zero =>
      intro k hk
      refine x_iload_n C 2 dX0_ticksOfAll_4 rfl rfl ?_
      refine x_aload_n C 0 dX0_ticksOfAll_5 rfl rfl ?_
      refine x_get C (by have := sc_lt hkw; omega) (sp_0 hkw (show p < 6 by omega)) fl_X0_24 (q := (1, w, 134 + 25 * p)) (v := .int (nI c)) rfl (congrArg Value.int hc) dX0_ticksOfAll_6 ?_
      refine x_icmp_ge C (tgt := 38) dX0_ticksOfAll_9 (by decide) (fun h1 => ?_) (fun h1 => absurd h1 (nI_nlt (a := k) (b := c) (by omega) (by omega)))
      refine x_iload_n C 1 dX0_ticksOfAll_38 rfl rfl ?_
      exact x_iret C (by rw [show k = c by omega]) rfl rfl dX0_ticksOfAll_39
    | succ j ih =>
      intro k hk
      refine x_iload_n C 2 dX0_ticksOfAll_4 rfl rfl ?_
      refine x_aload_n C 0 dX0_ticksOfAll_5 rfl rfl ?_
      refine x_get C (by have := sc_lt hkw; omega) (sp_0 hkw (show p < 6 by omega)) fl_X0_24 (q := (1, w, 134 + 25 * p)) (v := .int (nI c)) rfl (congrArg Value.int hc) dX0_ticksOfAll_6 ?_
      refine x_icmp_ge C (tgt := 38) dX0_ticksOfAll_9 (by decide) (fun h2 => absurd (nI_lt (a := k) (b := c) (by omega) (by omega)) h2) (fun h2 => ?_)
      refine x_aload_n C 0 dX0_ticksOfAll_12 rfl rfl ?_
      refine x_get C (by have := sc_lt hkw; omega) (sp_0 hkw (show p < 6 by omega)) fl_X0_9 (q := (0, sc w + 9 + 3 * p + 1, 0)) (v := .ref (xad E (sc w + 9 + 3 * p + 1))) rfl rfl dX0_ticksOfAll_13 ?_
      refine x_iload_n C 2 dX0_ticksOfAll_16 rfl rfl ?_
      refine x_ald C (by have := sc_lt hkw; omega) (sp_1 hkw (show p < 6 by omega)) (v := σ w (135 + 25 * p + 2 * k)) (vp_in_nI (show k < 12 by omega) (by decide)) (by rw [(nI_clamp (show k < 2 ^ 31 by omega))]) dX0_ticksOfAll_17 ?_
      refine x_bipush C (v := 12) dX0_ticksOfAll_18 (by decide) ?_
      refine x_icmp_ne C (tgt := 32) dX0_ticksOfAll_20 (by decide) (fun h3 => ?_) (fun h3 => ?_)
      · refine x_iinc C (v := nI (k + 1)) (lv1 := [(2, .int (nI (k + 1))), (0, .ref (xad E (sc w + 9 + 3 * p))), (1, .int (tkN (σ w) p k))]) 2 dX0_ticksOfAll_32 rfl (nI_add k 1) (by decide) rfl ?_
        refine x_goto2 C (tgt := 4) dX0_ticksOfAll_35 (by decide) ?_
        refine WM.keep [1, 2, 0] (lv' := [(0, .ref (xad E (sc w + 9 + 3 * p))), (1, .int (tkN (σ w) p k)), (2, .int (nI (k + 1)))]) rfl ?_
        exact WM.to (ih (k + 1) (by omega)) rfl rfl (by rw [show tkN (σ w) p (k + 1) = tkN (σ w) p k from if_neg h3]) rfl
      · refine x_iload_n C 1 dX0_ticksOfAll_23 rfl rfl ?_
        refine x_aload_n C 0 dX0_ticksOfAll_24 rfl rfl ?_
        refine x_get C (by have := sc_lt hkw; omega) (sp_0 hkw (show p < 6 by omega)) fl_X0_15 (q := (0, sc w + 9 + 3 * p + 2, 0)) (v := .ref (xad E (sc w + 9 + 3 * p + 2))) rfl rfl dX0_ticksOfAll_25 ?_
        refine x_iload_n C 2 dX0_ticksOfAll_28 rfl rfl ?_
        refine x_ald C (by have := sc_lt hkw; omega) (sp_2 hkw (show p < 6 by omega)) (v := σ w (136 + 25 * p + 2 * k)) (vp_in_nI (show k < 12 by omega) (by decide)) (by rw [(nI_clamp (show k < 2 ^ 31 by omega))]) dX0_ticksOfAll_29 ?_
        refine x_iadd C dX0_ticksOfAll_30 ?_
        refine x_istore_n C (lv1 := [(1, .int ((tkN (σ w) p k) + (σ w (136 + 25 * p + 2 * k)))), (0, .ref (xad E (sc w + 9 + 3 * p))), (2, .int (nI k))]) dX0_ticksOfAll_31 rfl (by decide) rfl ?_
        refine x_iinc C (v := nI (k + 1)) (lv1 := [(2, .int (nI (k + 1))), (1, .int ((tkN (σ w) p k) + (σ w (136 + 25 * p + 2 * k)))), (0, .ref (xad E (sc w + 9 + 3 * p)))]) 2 dX0_ticksOfAll_32 rfl (nI_add k 1) (by decide) rfl ?_
        refine x_goto2 C (tgt := 4) dX0_ticksOfAll_35 (by decide) ?_
        refine WM.keep [2, 1, 0] (lv' := [(0, .ref (xad E (sc w + 9 + 3 * p))), (1, .int ((tkN (σ w) p k) + (σ w (136 + 25 * p + 2 * k)))), (2, .int (nI (k + 1)))]) rfl ?_
        exact WM.to (ih (k + 1) (by omega)) rfl rfl (by rw [show tkN (σ w) p (k + 1) = tkN (σ w) p k + σ w (136 + 25 * p + 2 * k) from if_pos h3]) rfl
  refine WM.keep [2, 1, 0] rfl ?_
  exact WM.to (loop (c) 0 (by omega)) rfl rfl rfl rfl
set_option maxHeartbeats 4000000 in
set_option maxRecDepth 100000 in
theorem k_programOf (l : Launch) (E : xE) (σ : Nat → Nat → Int32) (τ : Nat → Int64) (T : Nat) (hT : T < 1073741824) (p what : Int32) (hI : Inv (cv σ) T) : xOi l yX7_programOf cX7_programOf 3 .int 2 44 E [.ref (xad E (0)), .int (p), .int (what)] σ τ (cpost (sp_programOf p what (cv σ)) σ) := by
  refine xOi_of (own := RX7) (by decide +kernel) rfl (Nat.le_of_ble_eq_true rfl) ?_
  intro zp ze zs zm za zb zh zc C
  refine WM.to (lv1 := [(0, .ref (xad E (0))), (1, .int (p)), (2, .int (what))]) (st1 := []) (σ1 := σ) (τ1 := τ) ?_ rfl rfl rfl rfl
  have hg : gI (σ 0) := hI.g
  have hgT : gT (σ 0) T := hI.t
  have h0 : 0 ≤ (σ 0 10).toInt := hI.h0
  have hk0 : 0 < 2 := by decide
  refine x_aload_n C 0 dX7_programOf_0 rfl rfl ?_
  refine x_iload_n C 1 dX7_programOf_1 rfl rfl ?_
  refine x_callVi C (As := [.int (p)]) (rest := []) (c_isProg l E σ τ p hI.1.2.2.1) kv_X7_174 (x_recv C (Nat.le_of_ble_eq_true rfl) xd_0 rfl) ⟨Nat.le_of_ble_eq_true rfl, Nat.le_of_ble_eq_true rfl⟩ rfl rfl (Nat.le_of_ble_eq_true rfl) dX7_programOf_2 ?_
  refine x_ifneB C (tgt := 15) dX7_programOf_5 (by decide) (fun h1 => ?_) (fun h1 => ?_)
  · obtain ⟨q, hq6, rfl⟩ := rngPr hI.1.2.2.1 h1
    obtain ⟨c, hcb, hc⟩ := nI_is (x := σ 0 (134 + 25 * q)) (hI.1.2.2.2.2.1 q hq6).1.1 (n := 12) (hI.1.2.2.2.2.1 q hq6).1.2 (by decide)
    refine x_iload_n C 2 dX7_programOf_15 rfl rfl ?_
    by_cases t2 : what = 0
    · refine WM.topi (y := 0) t2 ?_
      refine x_lookup C (off := 28) (tgt := 44) dX7_programOf_16 (by decide) (by decide) (by decide) ?_
      refine x_aload_n C 0 dX7_programOf_44 rfl rfl ?_
      refine x_get C (Nat.le_of_ble_eq_true rfl) xd_0 fl_X7_12 (q := (0, 1, 0)) (v := .ref (xad E (1))) rfl rfl dX7_programOf_45 ?_
      refine x_get C (Nat.le_of_ble_eq_true rfl) xd_1 fl_X7_166 (q := (0, 8, 0)) (v := .ref (xad E (8))) rfl rfl dX7_programOf_48 ?_
      refine x_iload_n C 1 dX7_programOf_51 rfl rfl ?_
      refine x_aldq C (Nat.le_of_ble_eq_true rfl) (t := 1) (Or.inl rfl) (z := sc 0 + 9 + 3 * q) xd_8 rfl (vp_in_nI (show q < 6 by omega) (by decide)) (by rw [nI_clamp (by omega)]; rfl) dX7_programOf_52 ?_
      refine x_get C (by have := sc_lt hk0; omega) (sp_0 hk0 (show q < 6 by omega)) fl_X7_177 (q := (1, 0, 134 + 25 * q)) (v := .int (σ 0 (134 + 25 * q))) rfl rfl dX7_programOf_53 ?_
      exact x_oret C (cpost_of (V := cv σ) (Eq.trans (if_pos (by first | assumption | ((try simp only [rng, mayQ, tI_lt, tI_eq, cvr_0, mvr_0, cvr_c, mvr_c, ruleQ, tn_999, tl_200, tl_999, bitsQ, tl_16, tl_32, tl_40, hasQ, tl_0, tl_1, tl_2, tl_3, tl_4, tl_5, tl_6, tl_7, tl_8, tl_9, tl_10, tl_11, tl_12, tl_13, tl_99] at h1 t2 ⊢) <;> omega))) (Eq.trans (congrArg (fun z => progS z what (cv σ)) (nI_clamp (by omega))) (prog_0 t2))) rfl rfl rfl) dX7_programOf_56
    · by_cases t3 : what = 1
      · refine WM.topi (y := 1) t3 ?_
        refine x_lookup C (off := 41) (tgt := 57) dX7_programOf_16 (by decide) (by decide) (by decide) ?_
        refine x_aload_n C 0 dX7_programOf_57 rfl rfl ?_
        refine x_get C (Nat.le_of_ble_eq_true rfl) xd_0 fl_X7_12 (q := (0, 1, 0)) (v := .ref (xad E (1))) rfl rfl dX7_programOf_58 ?_
        refine x_get C (Nat.le_of_ble_eq_true rfl) xd_1 fl_X7_166 (q := (0, 8, 0)) (v := .ref (xad E (8))) rfl rfl dX7_programOf_61 ?_
        refine x_iload_n C 1 dX7_programOf_64 rfl rfl ?_
        refine x_aldq C (Nat.le_of_ble_eq_true rfl) (t := 1) (Or.inl rfl) (z := sc 0 + 9 + 3 * q) xd_8 rfl (vp_in_nI (show q < 6 by omega) (by decide)) (by rw [nI_clamp (by omega)]; rfl) dX7_programOf_65 ?_
        refine x_callVi C (As := []) (rest := []) (c_ticksAll l E σ τ 0 q c hk0 (by omega) hc (by omega)) kv_X7_180 (x_recv C (by have := sc_lt hk0; omega) (sp_0 hk0 (show q < 6 by omega)) rfl) ⟨Nat.le_of_ble_eq_true rfl, Nat.le_of_ble_eq_true rfl⟩ rfl rfl (Nat.le_of_ble_eq_true rfl) dX7_programOf_66 ?_
        exact x_oret C (cpost_of (V := cv σ) (Eq.trans (if_pos (by first | assumption | ((try simp only [rng, mayQ, tI_lt, tI_eq, cvr_0, mvr_0, cvr_c, mvr_c, ruleQ, tn_999, tl_200, tl_999, bitsQ, tl_16, tl_32, tl_40, hasQ, tl_0, tl_1, tl_2, tl_3, tl_4, tl_5, tl_6, tl_7, tl_8, tl_9, tl_10, tl_11, tl_12, tl_13, tl_99] at h1 t2 t3 ⊢) <;> omega))) (Eq.trans (congrArg (fun z => progS z what (cv σ)) (nI_clamp (by omega))) (prog_1 (k := c) t2 hc (by omega) rfl))) rfl rfl rfl) dX7_programOf_69
      · refine x_lookup C (off := 54) (tgt := 70) dX7_programOf_16 (by decide) (by show Op.lookupswitch.offset [(0, 28), (1, 41)] 54 (Int32.toInt what) = 54; rw [lv_osw t2 (by decide), lv_osw t3 (by decide)]; rfl) (by decide) ?_
        refine x_aload_n C 0 dX7_programOf_70 rfl rfl ?_
        refine x_ldc C dX7_programOf_71 kc_X7_63 ?_
        refine x_callVi C (As := [.int ((-1000001))]) (rest := []) (c_finding l E σ τ 0 (by decide) (-1000001) (by decide)) kv_X7_64 (x_recv C (Nat.le_of_ble_eq_true rfl) xd_0 rfl) ⟨Nat.le_of_ble_eq_true rfl, Nat.le_of_ble_eq_true rfl⟩ rfl rfl (Nat.le_of_ble_eq_true rfl) dX7_programOf_73 ?_
        exact x_oret C (cpost_of (V := u2 (cv σ) 2 0 (σ 4 0 + 1)) (if_neg (by first | assumption | ((try simp only [rng, mayQ, tI_lt, tI_eq, cvr_0, mvr_0, cvr_c, mvr_c, ruleQ, tn_999, tl_200, tl_999, bitsQ, tl_16, tl_32, tl_40, hasQ, tl_0, tl_1, tl_2, tl_3, tl_4, tl_5, tl_6, tl_7, tl_8, tl_9, tl_10, tl_11, tl_12, tl_13, tl_99] at h1 t2 t3 ⊢) <;> omega))) (by rw [cv_u4]) (by rw [mv_u4]) rfl) dX7_programOf_76
  · refine x_aload_n C 0 dX7_programOf_8 rfl rfl ?_
    refine x_ldc C dX7_programOf_9 kc_X7_63 ?_
    refine x_callVi C (As := [.int ((-1000001))]) (rest := []) (c_finding l E σ τ 0 (by decide) (-1000001) (by decide)) kv_X7_64 (x_recv C (Nat.le_of_ble_eq_true rfl) xd_0 rfl) ⟨Nat.le_of_ble_eq_true rfl, Nat.le_of_ble_eq_true rfl⟩ rfl rfl (Nat.le_of_ble_eq_true rfl) dX7_programOf_11 ?_
    exact x_oret C (cpost_of (V := u2 (cv σ) 2 0 (σ 4 0 + 1)) (if_neg (by first | assumption | ((try simp only [rng, mayQ, tI_lt, tI_eq, cvr_0, mvr_0, cvr_c, mvr_c, ruleQ, tn_999, tl_200, tl_999, bitsQ, tl_16, tl_32, tl_40, hasQ, tl_0, tl_1, tl_2, tl_3, tl_4, tl_5, tl_6, tl_7, tl_8, tl_9, tl_10, tl_11, tl_12, tl_13, tl_99] at h1 ⊢) <;> omega))) (by rw [cv_u4]) (by rw [mv_u4]) rfl) dX7_programOf_14
set_option maxHeartbeats 4000000 in
set_option maxRecDepth 100000 in
theorem m_programOf (l : Launch) (E : xE) (σ : Nat → Nat → Int32) (τ : Nat → Int64) (T : Nat) (hT : T < 1073741824) (p what : Int32) (hI : Inv (mv σ) T) (hlv : ∀ j, j < 12 → σ 15 j = (xzl 1).getD j 0) : xOi l yX8_programOf cX8_programOf 6 .int 2 46 E [.ref (xad E (81)), .int (p), .int (what)] σ τ (mpost (sp_programOf p what (mv σ)) σ) := by
  refine xOi_of (own := RX8) (by decide +kernel) rfl (Nat.le_of_ble_eq_true rfl) ?_
  intro zp ze zs zm za zb zh zc C
  refine WM.to (lv1 := [(0, .ref (xad E (81))), (1, .int (p)), (2, .int (what))]) (st1 := []) (σ1 := σ) (τ1 := τ) ?_ rfl rfl rfl rfl
  have hg : gI (σ 10) := hI.g
  have hgT : gT (σ 10) T := hI.t
  have h0 : 0 ≤ (σ 10 10).toInt := hI.h0
  refine x_aload_n C 0 dX8_programOf_0 rfl rfl ?_
  refine x_iload_n C 1 dX8_programOf_1 rfl rfl ?_
  refine x_callVi C (As := [.int (p)]) (rest := []) (c_misProg l E σ τ p) kv_X8_224 (x_recv C (Nat.le_of_ble_eq_true rfl) xd_81 rfl) ⟨Nat.le_of_ble_eq_true rfl, Nat.le_of_ble_eq_true rfl⟩ rfl rfl (Nat.le_of_ble_eq_true rfl) dX8_programOf_2 ?_
  refine x_ifeqB C (tgt := 18) dX8_programOf_5 (by decide) (fun h1 => ?_) (fun h1 => ?_)
  · refine x_aload_n C 0 dX8_programOf_18 rfl rfl ?_
    refine x_ldc C dX8_programOf_19 kc_X8_46 ?_
    refine x_callVi C (As := [.int ((-1000001))]) (rest := []) (c_finds l E σ τ 0 (by decide) (-1000001) (by decide)) kv_X8_61 (x_recv C (Nat.le_of_ble_eq_true rfl) xd_81 rfl) ⟨Nat.le_of_ble_eq_true rfl, Nat.le_of_ble_eq_true rfl⟩ rfl rfl (Nat.le_of_ble_eq_true rfl) dX8_programOf_21 ?_
    exact x_oret C (mpost_of (V := u2 (mv σ) 2 0 (σ 14 0 + 1)) (if_neg (by first | assumption | ((try simp only [rng, mayQ, tI_lt, tI_eq, cvr_0, mvr_0, cvr_c, mvr_c, ruleQ, tn_999, tl_200, tl_999, bitsQ, tl_16, tl_32, tl_40, hasQ, tl_0, tl_1, tl_2, tl_3, tl_4, tl_5, tl_6, tl_7, tl_8, tl_9, tl_10, tl_11, tl_12, tl_13, tl_99] at h1 ⊢) <;> omega))) (by rw [mv_u14]) (by rw [cv_u14]) rfl) dX8_programOf_24
  · refine x_iload_n C 2 dX8_programOf_8 rfl rfl ?_
    refine x_i2l C dX8_programOf_9 ?_
    refine x_lconst C (v := 0) dX8_programOf_10 (by decide) ?_
    refine x_lconst C (v := 1) dX8_programOf_11 (by decide) ?_
    refine x_callSi C (As := [.long (Int32.toInt64 what), .long (0), .long (1)]) (rest := []) (c_in l E σ τ (Int32.toInt64 what) 0 1) ks_X8_49 ⟨Nat.le_of_ble_eq_true rfl, Nat.le_of_ble_eq_true rfl⟩ rfl rfl (Nat.le_of_ble_eq_true rfl) dX8_programOf_12 ?_
    refine WM.topi (y := if rng what 0 1 then 1 else 0) (in_eq what 0 1 (by decide) (by decide)) ?_
    refine x_ifneB C (tgt := 25) dX8_programOf_15 (by decide) (fun h2 => ?_) (fun h2 => ?_)
    · obtain ⟨q, hq6, rfl⟩ := rngPr hI.1.2.2.1 h1
      obtain ⟨c, hcb, hc⟩ := nI_is (x := σ 10 (134 + 25 * q)) (hI.1.2.2.2.2.1 q hq6).1.1 (n := 12) (hI.1.2.2.2.2.1 q hq6).1.2 (by decide)
      refine x_sipush C (v := 134) dX8_programOf_25 (by decide) ?_
      refine x_bipush C (v := 25) dX8_programOf_28 (by decide) ?_
      refine x_iload_n C 1 dX8_programOf_30 rfl rfl ?_
      refine x_imul C dX8_programOf_31 ?_
      refine WM.topi (y := nI (25 * q)) (pk_mul 25 q) ?_
      refine x_iadd C dX8_programOf_32 ?_
      refine WM.topi (y := nI (134 + (25 * q))) (nI_add 134 (25 * q)) ?_
      refine x_istore_n C (lv1 := [(3, .int (nI (134 + (25 * q)))), (0, .ref (xad E (81))), (1, .int (nI q)), (2, .int (what))]) dX8_programOf_33 rfl (by decide) rfl ?_
      refine x_iconst C (v := 0) dX8_programOf_34 (by decide) ?_
      refine x_istore C (lv1 := [(4, .int (0)), (3, .int (nI (134 + (25 * q)))), (0, .ref (xad E (81))), (1, .int (nI q)), (2, .int (what))]) dX8_programOf_35 (by decide) rfl ?_
      refine x_iconst C (v := 0) dX8_programOf_37 (by decide) ?_
      refine x_istore C (lv1 := [(5, .int (0)), (4, .int (0)), (3, .int (nI (134 + (25 * q)))), (0, .ref (xad E (81))), (1, .int (nI q)), (2, .int (what))]) dX8_programOf_38 (by decide) rfl ?_
      have loop : ∀ (j k : Nat), j + k = c → WM zp l ze { frames := 2, cells := 0, slots := 0, locals := 46 } zs zm za zb zh zc 0 0 (MQ zb (va_Qi (fun r (u : xV × (Nat → Int64)) => (mpost (sp_programOf (nI q) what (mv σ)) σ) r u.1) (fun u t => xP E u.1 u.2 t.heap) (xA E)) za zs 0 0 (xA E)) E (xA E) 6 (σ) (τ) 40 [(0, .ref (xad E (81))), (1, .int (nI q)), (2, .int (what)), (3, .int (nI (134 + 25 * q))), (4, .int (tkN (σ 10) q k)), (5, .int (nI k))] [] := by
        intro j
        induction j with
        | zero =>
          intro k hk
          refine x_iload C 5 dX8_programOf_40 rfl ?_
          refine x_aload_n C 0 dX8_programOf_42 rfl rfl ?_
          refine x_get C (Nat.le_of_ble_eq_true rfl) xd_81 fl_X8_9 (q := (0, 82, 0)) (v := .ref (xad E (82))) rfl rfl dX8_programOf_43 ?_
          refine x_iload_n C 3 dX8_programOf_46 rfl rfl ?_
          refine x_ald C (Nat.le_of_ble_eq_true rfl) xd_82 (v := nI c) (vp_in_nI (show 134 + 25 * q < 284 by omega) (by decide)) (by rw [nI_clamp (show 134 + 25 * q < 2 ^ 31 by omega), Nat.zero_add, Nat.one_mul]; exact hc) dX8_programOf_47 ?_
          refine x_icmp_ge C (tgt := 97) dX8_programOf_48 (by decide) (fun h3 => ?_) (fun h3 => absurd h3 (nI_nlt (a := k) (b := c) (by omega) (by omega)))
          refine x_iload_n C 2 dX8_programOf_97 rfl rfl ?_
          refine x_if_ne C (tgt := 110) dX8_programOf_98 (by decide) (fun h4 => ?_) (fun h4 => ?_)
          · refine x_iload C 4 dX8_programOf_110 rfl ?_
            exact x_oret C (mpost_of (V := mv σ) (Eq.trans (if_pos (by first | assumption | ((try simp only [rng, mayQ, tI_lt, tI_eq, cvr_0, mvr_0, cvr_c, mvr_c, ruleQ, tn_999, tl_200, tl_999, bitsQ, tl_16, tl_32, tl_40, hasQ, tl_0, tl_1, tl_2, tl_3, tl_4, tl_5, tl_6, tl_7, tl_8, tl_9, tl_10, tl_11, tl_12, tl_13, tl_99] at h1 h2 ⊢) <;> omega))) (Eq.trans (congrArg (fun z => progS z what (mv σ)) (nI_clamp (by omega))) (prog_1 h4 hc (by omega) (by omega)))) rfl rfl rfl) dX8_programOf_112
          · refine x_aload_n C 0 dX8_programOf_101 rfl rfl ?_
            refine x_get C (Nat.le_of_ble_eq_true rfl) xd_81 fl_X8_9 (q := (0, 82, 0)) (v := .ref (xad E (82))) rfl rfl dX8_programOf_102 ?_
            refine x_iload_n C 3 dX8_programOf_105 rfl rfl ?_
            refine x_ald C (Nat.le_of_ble_eq_true rfl) xd_82 (v := σ 10 (134 + 25 * q)) (vp_in_nI (show 134 + 25 * q < 284 by omega) (by decide)) (by rw [(nI_clamp (show 134 + 25 * q < 2 ^ 31 by omega)), Nat.zero_add, Nat.one_mul]) dX8_programOf_106 ?_
            refine x_goto2 C (tgt := 112) dX8_programOf_107 (by decide) ?_
            exact x_oret C (mpost_of (V := mv σ) (Eq.trans (if_pos (by first | assumption | ((try simp only [rng, mayQ, tI_lt, tI_eq, cvr_0, mvr_0, cvr_c, mvr_c, ruleQ, tn_999, tl_200, tl_999, bitsQ, tl_16, tl_32, tl_40, hasQ, tl_0, tl_1, tl_2, tl_3, tl_4, tl_5, tl_6, tl_7, tl_8, tl_9, tl_10, tl_11, tl_12, tl_13, tl_99] at h1 h2 ⊢) <;> omega))) (Eq.trans (congrArg (fun z => progS z what (mv σ)) (nI_clamp (by omega))) (prog_0 h4))) rfl rfl rfl) dX8_programOf_112
        | succ j ih =>
          intro k hk
          refine x_iload C 5 dX8_programOf_40 rfl ?_
          refine x_aload_n C 0 dX8_programOf_42 rfl rfl ?_
          refine x_get C (Nat.le_of_ble_eq_true rfl) xd_81 fl_X8_9 (q := (0, 82, 0)) (v := .ref (xad E (82))) rfl rfl dX8_programOf_43 ?_
          refine x_iload_n C 3 dX8_programOf_46 rfl rfl ?_
          refine x_ald C (Nat.le_of_ble_eq_true rfl) xd_82 (v := nI c) (vp_in_nI (show 134 + 25 * q < 284 by omega) (by decide)) (by rw [nI_clamp (show 134 + 25 * q < 2 ^ 31 by omega), Nat.zero_add, Nat.one_mul]; exact hc) dX8_programOf_47 ?_
          refine x_icmp_ge C (tgt := 97) dX8_programOf_48 (by decide) (fun h5 => absurd (nI_lt (a := k) (b := c) (by omega) (by omega)) h5) (fun h5 => ?_)
          refine x_iload C 4 dX8_programOf_51 rfl ?_
          refine x_aload_n C 0 dX8_programOf_53 rfl rfl ?_
          refine x_get C (Nat.le_of_ble_eq_true rfl) xd_81 fl_X8_9 (q := (0, 82, 0)) (v := .ref (xad E (82))) rfl rfl dX8_programOf_54 ?_
          refine x_iload_n C 3 dX8_programOf_57 rfl rfl ?_
          refine x_iconst C (v := 1) dX8_programOf_58 (by decide) ?_
          refine x_iadd C dX8_programOf_59 ?_
          refine WM.topi (y := nI (134 + 25 * q + 1)) (nI_add (134 + 25 * q) 1) ?_
          refine x_iconst C (v := 2) dX8_programOf_60 (by decide) ?_
          refine x_iload C 5 dX8_programOf_61 rfl ?_
          refine x_imul C dX8_programOf_63 ?_
          refine WM.topi (y := nI (2 * k)) (pk_mul 2 k) ?_
          refine x_iadd C dX8_programOf_64 ?_
          refine WM.topi (y := nI (134 + 25 * q + 1 + (2 * k))) (nI_add (134 + 25 * q + 1) (2 * k)) ?_
          refine WM.topi (y := nI (135 + 25 * q + 2 * k)) (congrArg nI (by omega)) ?_
          refine x_ald C (Nat.le_of_ble_eq_true rfl) xd_82 (v := σ 10 (135 + 25 * q + 2 * k)) (vp_in_nI (show 135 + 25 * q + 2 * k < 284 by omega) (by decide)) (by rw [(nI_clamp (show 135 + 25 * q + 2 * k < 2 ^ 31 by omega)), Nat.zero_add, Nat.one_mul]) dX8_programOf_65 ?_
          refine x_bipush C (v := 12) dX8_programOf_66 (by decide) ?_
          refine x_icmp_ne C (tgt := 87) dX8_programOf_68 (by decide) (fun h6 => ?_) (fun h6 => ?_)
          · refine x_iconst C (v := 0) dX8_programOf_87 (by decide) ?_
            refine x_iadd C dX8_programOf_88 ?_
            refine x_istore C (lv1 := [(4, .int ((tkN (σ 10) q k) + 0)), (0, .ref (xad E (81))), (1, .int (nI q)), (2, .int (what)), (3, .int (nI (134 + 25 * q))), (5, .int (nI k))]) dX8_programOf_89 (by decide) rfl ?_
            refine x_iinc C (v := nI (k + 1)) (lv1 := [(5, .int (nI (k + 1))), (4, .int ((tkN (σ 10) q k) + 0)), (0, .ref (xad E (81))), (1, .int (nI q)), (2, .int (what)), (3, .int (nI (134 + 25 * q)))]) 5 dX8_programOf_91 rfl (nI_add k 1) (by decide) rfl ?_
            refine x_goto2 C (tgt := 40) dX8_programOf_94 (by decide) ?_
            refine WM.keep [2, 3, 4, 5, 1, 0] (lv' := [(0, .ref (xad E (81))), (1, .int (nI q)), (2, .int (what)), (3, .int (nI (134 + 25 * q))), (4, .int ((tkN (σ 10) q k) + 0)), (5, .int (nI (k + 1)))]) rfl ?_
            exact WM.to (ih (k + 1) (by omega)) rfl rfl (by rw [show tkN (σ 10) q (k + 1) = tkN (σ 10) q k from if_neg h6]; simp) rfl
          · refine x_aload_n C 0 dX8_programOf_71 rfl rfl ?_
            refine x_get C (Nat.le_of_ble_eq_true rfl) xd_81 fl_X8_9 (q := (0, 82, 0)) (v := .ref (xad E (82))) rfl rfl dX8_programOf_72 ?_
            refine x_iload_n C 3 dX8_programOf_75 rfl rfl ?_
            refine x_iconst C (v := 2) dX8_programOf_76 (by decide) ?_
            refine x_iadd C dX8_programOf_77 ?_
            refine WM.topi (y := nI (134 + 25 * q + 2)) (nI_add (134 + 25 * q) 2) ?_
            refine x_iconst C (v := 2) dX8_programOf_78 (by decide) ?_
            refine x_iload C 5 dX8_programOf_79 rfl ?_
            refine x_imul C dX8_programOf_81 ?_
            refine WM.topi (y := nI (2 * k)) (pk_mul 2 k) ?_
            refine x_iadd C dX8_programOf_82 ?_
            refine WM.topi (y := nI (134 + 25 * q + 2 + (2 * k))) (nI_add (134 + 25 * q + 2) (2 * k)) ?_
            refine WM.topi (y := nI (136 + 25 * q + 2 * k)) (congrArg nI (by omega)) ?_
            refine x_ald C (Nat.le_of_ble_eq_true rfl) xd_82 (v := σ 10 (136 + 25 * q + 2 * k)) (vp_in_nI (show 136 + 25 * q + 2 * k < 284 by omega) (by decide)) (by rw [(nI_clamp (show 136 + 25 * q + 2 * k < 2 ^ 31 by omega)), Nat.zero_add, Nat.one_mul]) dX8_programOf_83 ?_
            refine x_goto2 C (tgt := 88) dX8_programOf_84 (by decide) ?_
            refine x_iadd C dX8_programOf_88 ?_
            refine x_istore C (lv1 := [(4, .int ((tkN (σ 10) q k) + (σ 10 (136 + 25 * q + 2 * k)))), (0, .ref (xad E (81))), (1, .int (nI q)), (2, .int (what)), (3, .int (nI (134 + 25 * q))), (5, .int (nI k))]) dX8_programOf_89 (by decide) rfl ?_
            refine x_iinc C (v := nI (k + 1)) (lv1 := [(5, .int (nI (k + 1))), (4, .int ((tkN (σ 10) q k) + (σ 10 (136 + 25 * q + 2 * k)))), (0, .ref (xad E (81))), (1, .int (nI q)), (2, .int (what)), (3, .int (nI (134 + 25 * q)))]) 5 dX8_programOf_91 rfl (nI_add k 1) (by decide) rfl ?_
            refine x_goto2 C (tgt := 40) dX8_programOf_94 (by decide) ?_
            refine WM.keep [2, 3, 4, 5, 1, 0] (lv' := [(0, .ref (xad E (81))), (1, .int (nI q)), (2, .int (what)), (3, .int (nI (134 + 25 * q))), (4, .int ((tkN (σ 10) q k) + (σ 10 (136 + 25 * q + 2 * k)))), (5, .int (nI (k + 1)))]) rfl ?_
            exact WM.to (ih (k + 1) (by omega)) rfl rfl (by rw [show tkN (σ 10) q (k + 1) = tkN (σ 10) q k + σ 10 (136 + 25 * q + 2 * k) from if_pos h6]) rfl
      refine WM.keep [3, 4, 5, 2, 1, 0] rfl ?_
      exact WM.to (loop (c) 0 (by omega)) rfl rfl rfl rfl
    · refine x_aload_n C 0 dX8_programOf_18 rfl rfl ?_
      refine x_ldc C dX8_programOf_19 kc_X8_46 ?_
      refine x_callVi C (As := [.int ((-1000001))]) (rest := []) (c_finds l E σ τ 0 (by decide) (-1000001) (by decide)) kv_X8_61 (x_recv C (Nat.le_of_ble_eq_true rfl) xd_81 rfl) ⟨Nat.le_of_ble_eq_true rfl, Nat.le_of_ble_eq_true rfl⟩ rfl rfl (Nat.le_of_ble_eq_true rfl) dX8_programOf_21 ?_
      exact x_oret C (mpost_of (V := u2 (mv σ) 2 0 (σ 14 0 + 1)) (if_neg (by first | assumption | ((try simp only [rng, mayQ, tI_lt, tI_eq, cvr_0, mvr_0, cvr_c, mvr_c, ruleQ, tn_999, tl_200, tl_999, bitsQ, tl_16, tl_32, tl_40, hasQ, tl_0, tl_1, tl_2, tl_3, tl_4, tl_5, tl_6, tl_7, tl_8, tl_9, tl_10, tl_11, tl_12, tl_13, tl_99] at h1 h2 ⊢) <;> omega))) (by rw [mv_u14]) (by rw [cv_u14]) rfl) dX8_programOf_24
