/-! play -/
def playS (q : Nat) (s : xV) : Int32 × xV := (playG (s 0) q (s 0 (134 + 25 * q)).toNatClampNeg 4, va_up s 0 (playG (s 0) q (s 0 (134 + 25 * q)).toNatClampNeg))
def sp_play (p : Int32) (s : xV) : Int32 × xV := if rng p 0 (s 0 13 - 1) then playS p.toNatClampNeg s else bad s
set_option maxHeartbeats 4000000 in
set_option maxRecDepth 100000 in
theorem k_play (l : Launch) (E : xE) (σ : Nat → Nat → Int32) (τ : Nat → Int64) (T : Nat) (hT : T < 1073741824) (p : Int32) (hI : Inv (cv σ) T) : xOi l yX7_play cX7_play 4 .int 6 136 E [.ref (xad E (0)), .int (p)] σ τ (cpost (sp_play p (cv σ)) σ) := by
  refine xOi_of (own := RX7) (by decide +kernel) rfl (Nat.le_of_ble_eq_true rfl) ?_
  intro zp ze zs zm za zb zh zc C
  refine WM.to (lv1 := [(0, .ref (xad E (0))), (1, .int (p))]) (st1 := []) (σ1 := σ) (τ1 := τ) ?_ rfl rfl rfl rfl
  have hg : gI (σ 0) := hI.g
  have hgT : gT (σ 0) T := hI.t
  have h0 : 0 ≤ (σ 0 10).toInt := hI.h0
  have hk0 : 0 < 2 := by decide
  refine x_aload_n C 0 dX7_play_0 rfl rfl ?_
  refine x_iload_n C 1 dX7_play_1 rfl rfl ?_
  refine x_callVi C (As := [.int (p)]) (rest := []) (c_isProg l E σ τ p hI.1.2.2.1) kv_X7_174 (x_recv C (Nat.le_of_ble_eq_true rfl) xd_0 rfl) ⟨Nat.le_of_ble_eq_true rfl, Nat.le_of_ble_eq_true rfl⟩ rfl rfl (Nat.le_of_ble_eq_true rfl) dX7_play_2 ?_
  refine x_ifneB C (tgt := 15) dX7_play_5 (by decide) (fun h1 => ?_) (fun h1 => ?_)
  · obtain ⟨q, hq6, rfl⟩ := rngPr hI.1.2.2.1 h1
    obtain ⟨c, hcb, hc⟩ := nI_is (x := σ 0 (134 + 25 * q)) (hI.1.2.2.2.2.1 q hq6).1.1 (n := 12) (hI.1.2.2.2.2.1 q hq6).1.2 (by decide)
    have hdk : ∀ k, k < c → deedOK (σ 0 (135 + 25 * q + 2 * k)) (σ 0 (136 + 25 * q + 2 * k)) := fun k hk => (hI.1.2.2.2.2.1 q hq6).2 k (by rw [show (cv σ) 0 (134 + 25 * q) = nI c from hc, nI_clamp (by omega)]; exact hk)
    have hpl := play_inv hg hgT hT hdk hcb
    refine x_aload_n C 0 dX7_play_15 rfl rfl ?_
    refine x_get C (Nat.le_of_ble_eq_true rfl) xd_0 fl_X7_12 (q := (0, 1, 0)) (v := .ref (xad E (1))) rfl rfl dX7_play_16 ?_
    refine x_get C (Nat.le_of_ble_eq_true rfl) xd_1 fl_X7_166 (q := (0, 8, 0)) (v := .ref (xad E (8))) rfl rfl dX7_play_19 ?_
    refine x_iload_n C 1 dX7_play_22 rfl rfl ?_
    refine x_aldq C (Nat.le_of_ble_eq_true rfl) (t := 1) (Or.inl rfl) (z := sc 0 + 9 + 3 * q) xd_8 rfl (vp_in_nI (show q < 6 by omega) (by decide)) (by rw [nI_clamp (by omega)]; rfl) dX7_play_23 ?_
    refine x_astore_n C (lv1 := [(2, .ref (xad E (sc 0 + 9 + 3 * q))), (0, .ref (xad E (0))), (1, .int (nI q))]) dX7_play_24 rfl (by decide) rfl ?_
    refine x_iconst C (v := 0) dX7_play_25 (by decide) ?_
    refine x_istore_n C (lv1 := [(3, .int (0)), (2, .ref (xad E (sc 0 + 9 + 3 * q))), (0, .ref (xad E (0))), (1, .int (nI q))]) dX7_play_26 rfl (by decide) rfl ?_
    have loop : ∀ (j k : Nat), j + k = c → WM zp l ze { frames := 6, cells := 0, slots := 0, locals := 136 } zs zm za zb zh zc 0 0 (MQ zb (va_Qi (fun r (u : xV × (Nat → Int64)) => (cpost (sp_play (nI q) (cv σ)) σ) r u.1) (fun u t => xP E u.1 u.2 t.heap) (xA E)) za zs 0 0 (xA E)) E (xA E) 4 (va_up σ 0 (playG (σ 0) q k)) (τ) 27 [(0, .ref (xad E (0))), (2, .ref (xad E (sc 0 + 9 + 3 * q))), (3, .int (nI k))] [] := by
      intro j
      induction j with
      | zero =>
        intro k hk
        refine x_iload_n C 2 dX7_play_27 rfl rfl ?_
        refine x_aload_n C 1 dX7_play_28 rfl rfl ?_
        refine x_get C (by have := sc_lt hk0; omega) (sp_0 hk0 (show q < 6 by omega)) fl_X7_177 (q := (1, 0, 134 + 25 * q)) (v := .int (nI c)) rfl (congrArg Value.int (Eq.trans (congrFun (va_up_self _ _ _) _) (Eq.trans ((hpl k (by omega)).2.2 (134 + 25 * q) (by omega)) hc))) dX7_play_29 ?_
        refine x_icmp_ge C (tgt := 53) dX7_play_32 (by decide) (fun h2 => ?_) (fun h2 => absurd h2 (nI_nlt (a := k) (b := c) (by omega) (by omega)))
        refine x_aload_n C 0 dX7_play_53 rfl rfl ?_
        refine x_get C (Nat.le_of_ble_eq_true rfl) xd_0 fl_X7_12 (q := (0, 1, 0)) (v := .ref (xad E (1))) rfl rfl dX7_play_54 ?_
        refine x_get C (Nat.le_of_ble_eq_true rfl) xd_1 fl_X7_68 (q := (0, 2, 0)) (v := .ref (xad E (2))) rfl rfl dX7_play_57 ?_
        refine x_get C (Nat.le_of_ble_eq_true rfl) xd_2 fl_X7_104 (q := (1, 0, 4)) (v := .int ((playG (σ 0) q k) 4)) rfl (congrArg Value.int (congrFun (va_up_self _ _ _) _)) dX7_play_60 ?_
        exact x_oret C (cpost_of (V := va_up (cv σ) 0 (playG (σ 0) q k)) (Eq.trans (if_pos (by first | assumption | ((try simp only [rng, mayQ, tI_lt, tI_eq, cvr_0, mvr_0, cvr_c, mvr_c, ruleQ, tn_999, tl_200, tl_999, bitsQ, tl_16, tl_32, tl_40, hasQ, tl_0, tl_1, tl_2, tl_3, tl_4, tl_5, tl_6, tl_7, tl_8, tl_9, tl_10, tl_11, tl_12, tl_13, tl_99] at h1 ⊢) <;> omega))) (by rw [nI_clamp (by omega)]; unfold playS; rw [show (cv σ) 0 (134 + 25 * q) = nI c from hc, nI_clamp (by omega)]; obtain rfl : k = c := (by omega); rfl)) (by rw [cv_v0]) (by rw [mv_v0]) rfl) dX7_play_63
      | succ j ih =>
        intro k hk
        refine x_iload_n C 2 dX7_play_27 rfl rfl ?_
        refine x_aload_n C 1 dX7_play_28 rfl rfl ?_
        refine x_get C (by have := sc_lt hk0; omega) (sp_0 hk0 (show q < 6 by omega)) fl_X7_177 (q := (1, 0, 134 + 25 * q)) (v := .int (nI c)) rfl (congrArg Value.int (Eq.trans (congrFun (va_up_self _ _ _) _) (Eq.trans ((hpl k (by omega)).2.2 (134 + 25 * q) (by omega)) hc))) dX7_play_29 ?_
        refine x_icmp_ge C (tgt := 53) dX7_play_32 (by decide) (fun h3 => absurd (nI_lt (a := k) (b := c) (by omega) (by omega)) h3) (fun h3 => ?_)
        refine x_aload_n C 1 dX7_play_35 rfl rfl ?_
        refine x_iload_n C 2 dX7_play_36 rfl rfl ?_
        refine x_aload_n C 0 dX7_play_37 rfl rfl ?_
        refine x_get C (Nat.le_of_ble_eq_true rfl) xd_0 fl_X7_12 (q := (0, 1, 0)) (v := .ref (xad E (1))) rfl rfl dX7_play_38 ?_
        refine x_get C (Nat.le_of_ble_eq_true rfl) xd_1 fl_X7_68 (q := (0, 2, 0)) (v := .ref (xad E (2))) rfl rfl dX7_play_41 ?_
        refine x_callVv C (As := [.int (nI k), .ref (xad E (2))]) (rest := []) (c_doDeed l E σ τ q k c hq6 (by omega) hcb (playG (σ 0) q k) (σ 0 (135 + 25 * q + 2 * k)) (σ 0 (136 + 25 * q + 2 * k)) (T + 50 * k) (hpl k (by omega)).1 (hpl k (by omega)).2.1 (by omega) (Eq.trans ((hpl k (by omega)).2.2 (134 + 25 * q) (by omega)) hc) ((hpl k (by omega)).2.2 _ (by omega)) ((hpl k (by omega)).2.2 _ (by omega)) (hdk k (by omega))) kv_X7_183 (x_recv C (by have := sc_lt hk0; omega) (sp_0 hk0 (show q < 6 by omega)) rfl) ⟨Nat.le_of_ble_eq_true rfl, Nat.le_of_ble_eq_true rfl⟩ rfl rfl (Nat.le_of_ble_eq_true rfl) dX7_play_44 ?_
        refine x_iinc C (v := nI (k + 1)) (lv1 := [(3, .int (nI (k + 1))), (0, .ref (xad E (0))), (2, .ref (xad E (sc 0 + 9 + 3 * q)))]) 2 dX7_play_47 rfl (nI_add k 1) (by decide) rfl ?_
        refine x_goto2 C (tgt := 27) dX7_play_50 (by decide) ?_
        refine WM.keep [1, 2, 0] (lv' := [(0, .ref (xad E (0))), (2, .ref (xad E (sc 0 + 9 + 3 * q))), (3, .int (nI (k + 1)))]) rfl ?_
        exact WM.to (ih (k + 1) (by omega)) rfl rfl rfl rfl
    refine WM.keep [2, 1, 0] rfl ?_
    exact WM.to (loop (c) 0 (by omega)) (xself σ 0).symm rfl rfl rfl
  · refine x_aload_n C 0 dX7_play_8 rfl rfl ?_
    refine x_ldc C dX7_play_9 kc_X7_63 ?_
    refine x_callVi C (As := [.int ((-1000001))]) (rest := []) (c_finding l E σ τ 0 (by decide) (-1000001) (by decide)) kv_X7_64 (x_recv C (Nat.le_of_ble_eq_true rfl) xd_0 rfl) ⟨Nat.le_of_ble_eq_true rfl, Nat.le_of_ble_eq_true rfl⟩ rfl rfl (Nat.le_of_ble_eq_true rfl) dX7_play_11 ?_
    exact x_oret C (cpost_of (V := u2 (cv σ) 2 0 (σ 4 0 + 1)) (if_neg (by first | assumption | ((try simp only [rng, mayQ, tI_lt, tI_eq, cvr_0, mvr_0, cvr_c, mvr_c, ruleQ, tn_999, tl_200, tl_999, bitsQ, tl_16, tl_32, tl_40, hasQ, tl_0, tl_1, tl_2, tl_3, tl_4, tl_5, tl_6, tl_7, tl_8, tl_9, tl_10, tl_11, tl_12, tl_13, tl_99] at h1 ⊢) <;> omega))) (by rw [cv_u4]) (by rw [mv_u4]) rfl) dX7_play_14
set_option maxHeartbeats 4000000 in
set_option maxRecDepth 100000 in
theorem m_play (l : Launch) (E : xE) (σ : Nat → Nat → Int32) (τ : Nat → Int64) (T : Nat) (hT : T < 1073741824) (p : Int32) (hI : Inv (mv σ) T) (hlv : ∀ j, j < 12 → σ 15 j = (xzl 1).getD j 0) : xOi l yX8_play cX8_play 4 .int 5 114 E [.ref (xad E (81)), .int (p)] σ τ (mpost (sp_play p (mv σ)) σ) := by
  refine xOi_of (own := RX8) (by decide +kernel) rfl (Nat.le_of_ble_eq_true rfl) ?_
  intro zp ze zs zm za zb zh zc C
  refine WM.to (lv1 := [(0, .ref (xad E (81))), (1, .int (p))]) (st1 := []) (σ1 := σ) (τ1 := τ) ?_ rfl rfl rfl rfl
  have hg : gI (σ 10) := hI.g
  have hgT : gT (σ 10) T := hI.t
  have h0 : 0 ≤ (σ 10 10).toInt := hI.h0
  refine x_aload_n C 0 dX8_play_0 rfl rfl ?_
  refine x_iload_n C 1 dX8_play_1 rfl rfl ?_
  refine x_callVi C (As := [.int (p)]) (rest := []) (c_misProg l E σ τ p) kv_X8_224 (x_recv C (Nat.le_of_ble_eq_true rfl) xd_81 rfl) ⟨Nat.le_of_ble_eq_true rfl, Nat.le_of_ble_eq_true rfl⟩ rfl rfl (Nat.le_of_ble_eq_true rfl) dX8_play_2 ?_
  refine x_ifneB C (tgt := 15) dX8_play_5 (by decide) (fun h1 => ?_) (fun h1 => ?_)
  · obtain ⟨q, hq6, rfl⟩ := rngPr hI.1.2.2.1 h1
    obtain ⟨c, hcb, hc⟩ := nI_is (x := σ 10 (134 + 25 * q)) (hI.1.2.2.2.2.1 q hq6).1.1 (n := 12) (hI.1.2.2.2.2.1 q hq6).1.2 (by decide)
    have hdk : ∀ k, k < c → deedOK (σ 10 (135 + 25 * q + 2 * k)) (σ 10 (136 + 25 * q + 2 * k)) := fun k hk => (hI.1.2.2.2.2.1 q hq6).2 k (by rw [show (mv σ) 0 (134 + 25 * q) = nI c from hc, nI_clamp (by omega)]; exact hk)
    have hpl := play_inv hg hgT hT hdk hcb
    refine x_sipush C (v := 134) dX8_play_15 (by decide) ?_
    refine x_bipush C (v := 25) dX8_play_18 (by decide) ?_
    refine x_iload_n C 1 dX8_play_20 rfl rfl ?_
    refine x_imul C dX8_play_21 ?_
    refine WM.topi (y := nI (25 * q)) (pk_mul 25 q) ?_
    refine x_iadd C dX8_play_22 ?_
    refine WM.topi (y := nI (134 + (25 * q))) (nI_add 134 (25 * q)) ?_
    refine x_istore_n C (lv1 := [(2, .int (nI (134 + (25 * q)))), (0, .ref (xad E (81))), (1, .int (nI q))]) dX8_play_23 rfl (by decide) rfl ?_
    refine x_iconst C (v := 0) dX8_play_24 (by decide) ?_
    refine x_istore_n C (lv1 := [(3, .int (0)), (2, .int (nI (134 + (25 * q)))), (0, .ref (xad E (81))), (1, .int (nI q))]) dX8_play_25 rfl (by decide) rfl ?_
    have loop : ∀ (j k : Nat), j + k = c → WM zp l ze { frames := 5, cells := 0, slots := 0, locals := 114 } zs zm za zb zh zc 0 0 (MQ zb (va_Qi (fun r (u : xV × (Nat → Int64)) => (mpost (sp_play (nI q) (mv σ)) σ) r u.1) (fun u t => xP E u.1 u.2 t.heap) (xA E)) za zs 0 0 (xA E)) E (xA E) 4 (va_up σ 10 (playG (σ 10) q k)) (τ) 26 [(0, .ref (xad E (81))), (1, .int (nI q)), (2, .int (nI (134 + 25 * q))), (3, .int (nI k))] [] := by
      intro j
      induction j with
      | zero =>
        intro k hk
        refine x_iload_n C 3 dX8_play_26 rfl rfl ?_
        refine x_aload_n C 0 dX8_play_27 rfl rfl ?_
        refine x_get C (Nat.le_of_ble_eq_true rfl) xd_81 fl_X8_9 (q := (0, 82, 0)) (v := .ref (xad E (82))) rfl rfl dX8_play_28 ?_
        refine x_iload_n C 2 dX8_play_31 rfl rfl ?_
        refine x_ald C (Nat.le_of_ble_eq_true rfl) xd_82 (v := nI c) (vp_in_nI (show 134 + 25 * q < 284 by omega) (by decide)) (by rw [nI_clamp (show 134 + 25 * q < 2 ^ 31 by omega), Nat.zero_add, Nat.one_mul]; exact (Eq.trans (congrFun (va_up_self _ _ _) _) (Eq.trans ((hpl k (by omega)).2.2 (134 + 25 * q) (by omega)) hc))) dX8_play_32 ?_
        refine x_icmp_ge C (tgt := 70) dX8_play_33 (by decide) (fun h2 => ?_) (fun h2 => absurd h2 (nI_nlt (a := k) (b := c) (by omega) (by omega)))
        refine x_aload_n C 0 dX8_play_70 rfl rfl ?_
        refine x_get C (Nat.le_of_ble_eq_true rfl) xd_81 fl_X8_9 (q := (0, 82, 0)) (v := .ref (xad E (82))) rfl rfl dX8_play_71 ?_
        refine x_iconst C (v := 4) dX8_play_74 (by decide) ?_
        refine x_ald C (Nat.le_of_ble_eq_true rfl) xd_82 (v := (playG (σ 10) q k) 4) (vp_in_nI (show 4 < 284 by omega) (by decide)) (by rw [(show (4 : Int32).toNatClampNeg = 4 from by decide), Nat.zero_add, Nat.one_mul]; exact (congrFun (va_up_self _ _ _) _)) dX8_play_75 ?_
        exact x_oret C (mpost_of (V := va_up (mv σ) 0 (playG (σ 10) q k)) (Eq.trans (if_pos (by first | assumption | ((try simp only [rng, mayQ, tI_lt, tI_eq, cvr_0, mvr_0, cvr_c, mvr_c, ruleQ, tn_999, tl_200, tl_999, bitsQ, tl_16, tl_32, tl_40, hasQ, tl_0, tl_1, tl_2, tl_3, tl_4, tl_5, tl_6, tl_7, tl_8, tl_9, tl_10, tl_11, tl_12, tl_13, tl_99] at h1 ⊢) <;> omega))) (by rw [nI_clamp (by omega)]; unfold playS; rw [show (mv σ) 0 (134 + 25 * q) = nI c from hc, nI_clamp (by omega)]; obtain rfl : k = c := (by omega); rfl)) (by rw [mv_v10]) (by rw [cv_v10]) rfl) dX8_play_76
      | succ j ih =>
        intro k hk
        refine x_iload_n C 3 dX8_play_26 rfl rfl ?_
        refine x_aload_n C 0 dX8_play_27 rfl rfl ?_
        refine x_get C (Nat.le_of_ble_eq_true rfl) xd_81 fl_X8_9 (q := (0, 82, 0)) (v := .ref (xad E (82))) rfl rfl dX8_play_28 ?_
        refine x_iload_n C 2 dX8_play_31 rfl rfl ?_
        refine x_ald C (Nat.le_of_ble_eq_true rfl) xd_82 (v := nI c) (vp_in_nI (show 134 + 25 * q < 284 by omega) (by decide)) (by rw [nI_clamp (show 134 + 25 * q < 2 ^ 31 by omega), Nat.zero_add, Nat.one_mul]; exact (Eq.trans (congrFun (va_up_self _ _ _) _) (Eq.trans ((hpl k (by omega)).2.2 (134 + 25 * q) (by omega)) hc))) dX8_play_32 ?_
        refine x_icmp_ge C (tgt := 70) dX8_play_33 (by decide) (fun h3 => absurd (nI_lt (a := k) (b := c) (by omega) (by omega)) h3) (fun h3 => ?_)
        refine x_aload_n C 0 dX8_play_36 rfl rfl ?_
        refine x_aload_n C 0 dX8_play_37 rfl rfl ?_
        refine x_get C (Nat.le_of_ble_eq_true rfl) xd_81 fl_X8_9 (q := (0, 82, 0)) (v := .ref (xad E (82))) rfl rfl dX8_play_38 ?_
        refine x_iload_n C 2 dX8_play_41 rfl rfl ?_
        refine x_iconst C (v := 1) dX8_play_42 (by decide) ?_
        refine x_iadd C dX8_play_43 ?_
        refine WM.topi (y := nI (134 + 25 * q + 1)) (nI_add (134 + 25 * q) 1) ?_
        refine x_iconst C (v := 2) dX8_play_44 (by decide) ?_
        refine x_iload_n C 3 dX8_play_45 rfl rfl ?_
        refine x_imul C dX8_play_46 ?_
        refine WM.topi (y := nI (2 * k)) (pk_mul 2 k) ?_
        refine x_iadd C dX8_play_47 ?_
        refine WM.topi (y := nI (134 + 25 * q + 1 + (2 * k))) (nI_add (134 + 25 * q + 1) (2 * k)) ?_
        refine WM.topi (y := nI (135 + 25 * q + 2 * k)) (congrArg nI (by omega)) ?_
        refine x_ald C (Nat.le_of_ble_eq_true rfl) xd_82 (v := σ 10 (135 + 25 * q + 2 * k)) (vp_in_nI (show 135 + 25 * q + 2 * k < 284 by omega) (by decide)) (by rw [nI_clamp (by omega), Nat.zero_add, Nat.one_mul]; exact (Eq.trans (congrFun (va_up_self _ _ _) _) ((hpl k (by omega)).2.2 _ (by omega)))) dX8_play_48 ?_
        refine x_aload_n C 0 dX8_play_49 rfl rfl ?_
        refine x_get C (Nat.le_of_ble_eq_true rfl) xd_81 fl_X8_9 (q := (0, 82, 0)) (v := .ref (xad E (82))) rfl rfl dX8_play_50 ?_
        refine x_iload_n C 2 dX8_play_53 rfl rfl ?_
        refine x_iconst C (v := 2) dX8_play_54 (by decide) ?_
        refine x_iadd C dX8_play_55 ?_
        refine WM.topi (y := nI (134 + 25 * q + 2)) (nI_add (134 + 25 * q) 2) ?_
        refine x_iconst C (v := 2) dX8_play_56 (by decide) ?_
        refine x_iload_n C 3 dX8_play_57 rfl rfl ?_
        refine x_imul C dX8_play_58 ?_
        refine WM.topi (y := nI (2 * k)) (pk_mul 2 k) ?_
        refine x_iadd C dX8_play_59 ?_
        refine WM.topi (y := nI (134 + 25 * q + 2 + (2 * k))) (nI_add (134 + 25 * q + 2) (2 * k)) ?_
        refine WM.topi (y := nI (136 + 25 * q + 2 * k)) (congrArg nI (by omega)) ?_
        refine x_ald C (Nat.le_of_ble_eq_true rfl) xd_82 (v := σ 10 (136 + 25 * q + 2 * k)) (vp_in_nI (show 136 + 25 * q + 2 * k < 284 by omega) (by decide)) (by rw [nI_clamp (by omega), Nat.zero_add, Nat.one_mul]; exact (Eq.trans (congrFun (va_up_self _ _ _) _) ((hpl k (by omega)).2.2 _ (by omega)))) dX8_play_60 ?_
        refine x_callVv C (As := [.int (σ 10 (135 + 25 * q + 2 * k)), .int (σ 10 (136 + 25 * q + 2 * k))]) (rest := []) (c_plays l E σ τ (playG (σ 10) q k) (σ 10 (135 + 25 * q + 2 * k)) (σ 10 (136 + 25 * q + 2 * k)) (T + 50 * k) (hpl k (by omega)).1 (hpl k (by omega)).2.1 (by omega) (hdk k (by omega)) hlv) kv_X8_227 (x_recv C (Nat.le_of_ble_eq_true rfl) xd_81 rfl) ⟨Nat.le_of_ble_eq_true rfl, Nat.le_of_ble_eq_true rfl⟩ rfl rfl (Nat.le_of_ble_eq_true rfl) dX8_play_61 ?_
        refine x_iinc C (v := nI (k + 1)) (lv1 := [(3, .int (nI (k + 1))), (0, .ref (xad E (81))), (1, .int (nI q)), (2, .int (nI (134 + 25 * q)))]) 3 dX8_play_64 rfl (nI_add k 1) (by decide) rfl ?_
        refine x_goto2 C (tgt := 26) dX8_play_67 (by decide) ?_
        refine WM.keep [1, 2, 3, 0] (lv' := [(0, .ref (xad E (81))), (1, .int (nI q)), (2, .int (nI (134 + 25 * q))), (3, .int (nI (k + 1)))]) rfl ?_
        exact WM.to (ih (k + 1) (by omega)) rfl rfl rfl rfl
    refine WM.keep [2, 3, 1, 0] rfl ?_
    exact WM.to (loop (c) 0 (by omega)) (xself σ 10).symm rfl rfl rfl
  · refine x_aload_n C 0 dX8_play_8 rfl rfl ?_
    refine x_ldc C dX8_play_9 kc_X8_46 ?_
    refine x_callVi C (As := [.int ((-1000001))]) (rest := []) (c_finds l E σ τ 0 (by decide) (-1000001) (by decide)) kv_X8_61 (x_recv C (Nat.le_of_ble_eq_true rfl) xd_81 rfl) ⟨Nat.le_of_ble_eq_true rfl, Nat.le_of_ble_eq_true rfl⟩ rfl rfl (Nat.le_of_ble_eq_true rfl) dX8_play_11 ?_
    exact x_oret C (mpost_of (V := u2 (mv σ) 2 0 (σ 14 0 + 1)) (if_neg (by first | assumption | ((try simp only [rng, mayQ, tI_lt, tI_eq, cvr_0, mvr_0, cvr_c, mvr_c, ruleQ, tn_999, tl_200, tl_999, bitsQ, tl_16, tl_32, tl_40, hasQ, tl_0, tl_1, tl_2, tl_3, tl_4, tl_5, tl_6, tl_7, tl_8, tl_9, tl_10, tl_11, tl_12, tl_13, tl_99] at h1 ⊢) <;> omega))) (by rw [mv_u14]) (by rw [cv_u14]) rfl) dX8_play_14
