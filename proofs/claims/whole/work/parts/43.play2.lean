/-! play: one deed -/
set_option maxHeartbeats 4000000 in
set_option maxRecDepth 100000 in
theorem c_doDeed (l : Launch) (E : xE) (σ : Nat → Nat → Int32) (τ : Nat → Int64) (p k c : Nat) (hp : p < 6) (hk : k < c) (hcb : c ≤ 12) (g : Nat → Int32) (d n : Int32) (T : Nat) (hg : gI g) (hT : gT g T) (hT2 : T + 50 < 2147483647) (hc : g (134 + 25 * p) = nI c) (hd : g (135 + 25 * p + 2 * k) = d) (hn : g (136 + 25 * p + 2 * k) = n) (hok : deedOK d n) : xMv l yX0_doDeed cX0_doDeed 5 5 112 E [.ref (xad E (sc 0 + 9 + 3 * p)), .int (nI k), .ref (xad E (2))] (va_up σ 0 (g)) (τ) (va_up σ 0 (doG d n g)) (τ) := by
  refine xMv_of (own := RX0) (by decide +kernel) rfl (Nat.le_of_ble_eq_true rfl) ?_
  intro zp ze zs zm za zb zh zc C
  refine WM.to (lv1 := [(0, .ref (xad E (sc 0 + 9 + 3 * p))), (1, .int (nI k)), (2, .ref (xad E (2)))]) (st1 := []) (σ1 := va_up σ 0 (g)) (τ1 := τ) ?_ rfl rfl rfl rfl
  have hk0 : 0 < 2 := by decide
  have hr : rng (nI k) 0 (nI c - 1) := by rw [show nI c - 1 = nI (c - 1) from pk_sub (b := 1) (by omega)]; exact rng_nI (b := c - 1) (by omega) (nI_toInt (by omega))
  refine x_iload_n C 1 dX0_doDeed_0 rfl rfl ?_
  refine x_iconst C (v := 0) dX0_doDeed_1 (by decide) ?_
  refine x_aload_n C 0 dX0_doDeed_2 rfl rfl ?_
  refine x_get C (by have := sc_lt hk0; omega) (sp_0 hk0 (show p < 6 by omega)) fl_X0_24 (q := (1, 0, 134 + 25 * p)) (v := .int (nI c)) rfl (congrArg Value.int (Eq.trans (congrFun (va_up_self _ _ _) _) hc)) dX0_doDeed_3 ?_
  refine x_iconst C (v := 1) dX0_doDeed_6 (by decide) ?_
  refine x_isub C dX0_doDeed_7 ?_
  refine x_callNi C (As := [.int (nI k), .int (0), .int ((nI c) - 1)]) (rest := []) (c_within l E (va_up σ 0 (g)) τ (nI k) 0 ((nI c) - 1)) kn_X0_28 ⟨Nat.le_of_ble_eq_true rfl, Nat.le_of_ble_eq_true rfl⟩ rfl rfl (Nat.le_of_ble_eq_true rfl) dX0_doDeed_8 ?_
  refine x_ifneB C (tgt := 15) dX0_doDeed_11 (by decide) (fun h1 => ?_) (fun h1 => absurd hr h1)
  refine x_aload_n C 0 dX0_doDeed_15 rfl rfl ?_
  refine x_get C (by have := sc_lt hk0; omega) (sp_0 hk0 (show p < 6 by omega)) fl_X0_9 (q := (0, sc 0 + 9 + 3 * p + 1, 0)) (v := .ref (xad E (sc 0 + 9 + 3 * p + 1))) rfl rfl dX0_doDeed_16 ?_
  refine x_iload_n C 1 dX0_doDeed_19 rfl rfl ?_
  refine x_ald C (by have := sc_lt hk0; omega) (sp_1 hk0 (show p < 6 by omega)) (v := d) (vp_in_nI (show k < 12 by omega) (by decide)) (by rw [nI_clamp (by omega)]; exact (Eq.trans (congrFun (va_up_self _ _ _) _) hd)) dX0_doDeed_20 ?_
  refine x_istore_n C (lv1 := [(3, .int (d)), (0, .ref (xad E (sc 0 + 9 + 3 * p))), (1, .int (nI k)), (2, .ref (xad E (2)))]) dX0_doDeed_21 rfl (by decide) rfl ?_
  refine x_aload_n C 1 dX0_doDeed_22 rfl rfl ?_
  refine x_get C (by have := sc_lt hk0; omega) (sp_0 hk0 (show p < 6 by omega)) fl_X0_15 (q := (0, sc 0 + 9 + 3 * p + 2, 0)) (v := .ref (xad E (sc 0 + 9 + 3 * p + 2))) rfl rfl dX0_doDeed_23 ?_
  refine x_iload_n C 2 dX0_doDeed_26 rfl rfl ?_
  refine x_ald C (by have := sc_lt hk0; omega) (sp_2 hk0 (show p < 6 by omega)) (v := n) (vp_in_nI (show k < 12 by omega) (by decide)) (by rw [nI_clamp (by omega)]; exact (Eq.trans (congrFun (va_up_self _ _ _) _) hn)) dX0_doDeed_27 ?_
  refine x_istore C (lv1 := [(4, .int (n)), (3, .int (d)), (0, .ref (xad E (sc 0 + 9 + 3 * p))), (1, .int (nI k)), (2, .ref (xad E (2)))]) dX0_doDeed_28 (by decide) rfl ?_
  refine x_iload_n C 1 dX0_doDeed_30 rfl rfl ?_
  refine x_bipush C (v := 7) dX0_doDeed_31 (by decide) ?_
  refine x_icmp_ge C (tgt := 47) dX0_doDeed_33 (by decide) (fun h2 => ?_) (fun h2 => ?_)
  · refine x_iload_n C 1 dX0_doDeed_47 rfl rfl ?_
    refine x_bipush C (v := 11) dX0_doDeed_48 (by decide) ?_
    refine x_icmp_ge C (tgt := 67) dX0_doDeed_50 (by decide) (fun h3 => ?_) (fun h3 => ?_)
    · refine x_iload_n C 1 dX0_doDeed_67 rfl rfl ?_
      refine x_bipush C (v := 11) dX0_doDeed_68 (by decide) ?_
      refine x_icmp_ne C (tgt := 82) dX0_doDeed_70 (by decide) (fun h4 => ?_) (fun h4 => ?_)
      · obtain ⟨j, hj, rfl⟩ := deed_d hok h3 h4
        refine x_aload_n C 4 dX0_doDeed_82 rfl rfl ?_
        refine x_iload C 0 dX0_doDeed_83 rfl ?_
        refine x_callVv C (As := [.int (nI j)]) (rest := []) (cW_steps l E σ τ 0 (by decide) g j T (by omega) hg hT (by omega)) kv_X0_44 (x_recv C (Nat.le_of_ble_eq_true rfl) xd_2 rfl) ⟨Nat.le_of_ble_eq_true rfl, Nat.le_of_ble_eq_true rfl⟩ rfl rfl (Nat.le_of_ble_eq_true rfl) dX0_doDeed_85 ?_
        exact x_vret C (congrArg (va_up _ _) (do_4 h2 h3 h4 (by omega))) rfl dX0_doDeed_88
      · refine x_aload_n C 4 dX0_doDeed_73 rfl rfl ?_
        refine x_iload C 0 dX0_doDeed_74 rfl ?_
        refine x_callVv C (As := [.int (n)]) (rest := []) (cW_nudge l E σ τ 0 (by decide) g n) kv_X0_40 (x_recv C (Nat.le_of_ble_eq_true rfl) xd_2 rfl) ⟨Nat.le_of_ble_eq_true rfl, Nat.le_of_ble_eq_true rfl⟩ rfl rfl (Nat.le_of_ble_eq_true rfl) dX0_doDeed_76 ?_
        refine x_goto2 C (tgt := 88) dX0_doDeed_79 (by decide) ?_
        exact x_vret C (congrArg (va_up _ _) (do_3 h2 h3 h4)) rfl dX0_doDeed_88
    · obtain ⟨j, hj, ej⟩ := deed_b (n := n) h2 h3
      refine x_aload_n C 4 dX0_doDeed_53 rfl rfl ?_
      refine x_get C (Nat.le_of_ble_eq_true rfl) xd_2 fl_X0_37 (q := (0, 3, 0)) (v := .ref (xad E (3))) rfl rfl dX0_doDeed_54 ?_
      refine x_iload_n C 1 dX0_doDeed_57 rfl rfl ?_
      refine x_bipush C (v := 7) dX0_doDeed_58 (by decide) ?_
      refine x_isub C dX0_doDeed_60 ?_
      refine WM.topi (y := nI j) ej ?_
      refine x_iload C 0 dX0_doDeed_61 rfl ?_
      refine x_ast C (σ' := va_up σ 0 (upd g j (n))) (Nat.le_of_ble_eq_true rfl) xd_3 (by decide) (vp_in_nI (show j < 4 by omega) (by decide)) (by rw [(nI_clamp (show j < 2 ^ 31 by omega)), Nat.zero_add, Nat.one_mul]; exact (u2_bank _ _ _ _ _)) dX0_doDeed_63 ?_
      refine x_goto2 C (tgt := 88) dX0_doDeed_64 (by decide) ?_
      exact x_vret C (congrArg (va_up _ _) (do_2 h2 h3 ej (by omega))) rfl dX0_doDeed_88
  · obtain ⟨j, hj, rfl⟩ := deed_a hok h2
    refine x_aload_n C 4 dX0_doDeed_36 rfl rfl ?_
    refine x_get C (Nat.le_of_ble_eq_true rfl) xd_2 fl_X0_32 (q := (0, 4, 0)) (v := .ref (xad E (4))) rfl rfl dX0_doDeed_37 ?_
    refine x_iload C 0 dX0_doDeed_40 rfl ?_
    refine x_iload_n C 1 dX0_doDeed_42 rfl rfl ?_
    refine x_ast C (σ' := va_up σ 0 (upd g (32 + j) (d))) (Nat.le_of_ble_eq_true rfl) xd_4 (by decide) (vp_in_nI (show j < 12 by omega) (by decide)) (by rw [(nI_clamp (show j < 2 ^ 31 by omega)), Nat.one_mul]; exact (u2_bank _ _ _ _ _)) dX0_doDeed_43 ?_
    refine x_goto2 C (tgt := 88) dX0_doDeed_44 (by decide) ?_
    exact x_vret C (congrArg (va_up _ _) (do_1 h2 (by omega))) rfl dX0_doDeed_88
set_option maxHeartbeats 4000000 in
set_option maxRecDepth 100000 in
theorem c_plays (l : Launch) (E : xE) (σ : Nat → Nat → Int32) (τ : Nat → Int64) (g : Nat → Int32) (d n : Int32) (T : Nat) (hg : gI g) (hT : gT g T) (hT2 : T + 50 < 2147483647) (hok : deedOK d n) (hlv : ∀ j, j < 12 → σ 15 j = (xzl 1).getD j 0) : xMv l yX8_plays cX8_plays 3 4 92 E [.ref (xad E (81)), .int (d), .int (n)] (va_up σ 10 (g)) (τ) (va_up σ 10 (doG d n g)) (τ) := by
  refine xMv_of (own := RX8) (by decide +kernel) rfl (Nat.le_of_ble_eq_true rfl) ?_
  intro zp ze zs zm za zb zh zc C
  refine WM.to (lv1 := [(0, .ref (xad E (81))), (1, .int (d)), (2, .int (n))]) (st1 := []) (σ1 := va_up σ 10 (g)) (τ1 := τ) ?_ rfl rfl rfl rfl
  refine x_iload_n C 1 dX8_plays_0 rfl rfl ?_
  refine x_bipush C (v := 7) dX8_plays_1 (by decide) ?_
  refine x_icmp_ge C (tgt := 19) dX8_plays_3 (by decide) (fun h1 => ?_) (fun h1 => ?_)
  · refine x_iload_n C 1 dX8_plays_19 rfl rfl ?_
    refine x_bipush C (v := 11) dX8_plays_20 (by decide) ?_
    refine x_icmp_ne C (tgt := 36) dX8_plays_22 (by decide) (fun h2 => ?_) (fun h2 => ?_)
    · refine x_iload_n C 1 dX8_plays_36 rfl rfl ?_
      refine x_bipush C (v := 12) dX8_plays_37 (by decide) ?_
      refine x_icmp_ne C (tgt := 54) dX8_plays_39 (by decide) (fun h3 => ?_) (fun h3 => ?_)
      · have h11 : d < 11 := by have hh := hok.1.2; simp only [tI_lt, tI_eq, tl_7, tl_11, tl_12] at *; omega
        obtain ⟨j, hj, ej⟩ := deed_b (n := n) h1 h11
        refine x_aload_n C 0 dX8_plays_54 rfl rfl ?_
        refine x_get C (Nat.le_of_ble_eq_true rfl) xd_81 fl_X8_9 (q := (0, 82, 0)) (v := .ref (xad E (82))) rfl rfl dX8_plays_55 ?_
        refine x_iconst C (v := 0) dX8_plays_58 (by decide) ?_
        refine x_iload_n C 1 dX8_plays_59 rfl rfl ?_
        refine x_iadd C dX8_plays_60 ?_
        refine x_bipush C (v := 7) dX8_plays_61 (by decide) ?_
        refine x_isub C dX8_plays_63 ?_
        refine WM.topi (y := nI j) (by rw [Int32.zero_add]; exact ej) ?_
        refine x_iload_n C 2 dX8_plays_64 rfl rfl ?_
        refine x_ast C (σ' := va_up σ 10 (upd g j (n))) (Nat.le_of_ble_eq_true rfl) xd_82 (by decide) (vp_in_nI (show j < 284 by omega) (by decide)) (by rw [(nI_clamp (show j < 2 ^ 31 by omega)), Nat.zero_add, Nat.one_mul]; exact (u2_bank _ _ _ _ _)) dX8_plays_65 ?_
        exact x_vret C (congrArg (va_up _ _) (do_2 h1 h11 ej (by omega))) rfl dX8_plays_66
      · have h11 : ¬ d < 11 := by rw [tI_eq] at h2; simp only [tI_lt, tI_eq, tl_7, tl_11, tl_12] at *; omega
        obtain ⟨j, hj, rfl⟩ := deed_d hok h11 h2
        refine x_aload_n C 0 dX8_plays_42 rfl rfl ?_
        refine x_aload_n C 0 dX8_plays_43 rfl rfl ?_
        refine x_get C (Nat.le_of_ble_eq_true rfl) xd_81 fl_X8_9 (q := (0, 82, 0)) (v := .ref (xad E (82))) rfl rfl dX8_plays_44 ?_
        refine x_iload_n C 2 dX8_plays_47 rfl rfl ?_
        refine x_callVv C (As := [.ref (xad E (82)), .int (nI j)]) (rest := []) (cM_goesOn l E σ τ 10 (by decide) g j T (by omega) hg hT (by omega) hlv) kv_X8_113 (x_recv C (Nat.le_of_ble_eq_true rfl) xd_81 rfl) ⟨Nat.le_of_ble_eq_true rfl, Nat.le_of_ble_eq_true rfl⟩ rfl rfl (Nat.le_of_ble_eq_true rfl) dX8_plays_48 ?_
        refine x_goto2 C (tgt := 66) dX8_plays_51 (by decide) ?_
        exact x_vret C (congrArg (va_up _ _) (do_4 h1 h11 h2 (by omega))) rfl dX8_plays_66
    · have hy := deed_c hok h2
      refine x_aload_n C 0 dX8_plays_25 rfl rfl ?_
      refine x_get C (Nat.le_of_ble_eq_true rfl) xd_81 fl_X8_9 (q := (0, 82, 0)) (v := .ref (xad E (82))) rfl rfl dX8_plays_26 ?_
      refine x_iload_n C 2 dX8_plays_29 rfl rfl ?_
      refine x_callSv C (As := [.ref (xad E (82)), .int (n)]) (rest := []) (cM_touches l E σ τ 10 (by decide) g n hg hy) ks_X8_94 ⟨Nat.le_of_ble_eq_true rfl, Nat.le_of_ble_eq_true rfl⟩ rfl rfl (Nat.le_of_ble_eq_true rfl) dX8_plays_30 ?_
      refine x_goto2 C (tgt := 66) dX8_plays_33 (by decide) ?_
      exact x_vret C (congrArg (va_up _ _) (do_3 h1 (by rw [h2]; decide) h2)) rfl dX8_plays_66
  · obtain ⟨j, hj, rfl⟩ := deed_a hok h1
    refine x_aload_n C 0 dX8_plays_6 rfl rfl ?_
    refine x_get C (Nat.le_of_ble_eq_true rfl) xd_81 fl_X8_9 (q := (0, 82, 0)) (v := .ref (xad E (82))) rfl rfl dX8_plays_7 ?_
    refine x_bipush C (v := 32) dX8_plays_10 (by decide) ?_
    refine x_iload_n C 2 dX8_plays_12 rfl rfl ?_
    refine x_iadd C dX8_plays_13 ?_
    refine WM.topi (y := nI (32 + j)) (nI_add 32 j) ?_
    refine x_iload_n C 1 dX8_plays_14 rfl rfl ?_
    refine x_ast C (σ' := va_up σ 10 (upd g (32 + j) (d))) (Nat.le_of_ble_eq_true rfl) xd_82 (by decide) (vp_in_nI (show 32 + j < 284 by omega) (by decide)) (by rw [(nI_clamp (show 32 + j < 2 ^ 31 by omega)), Nat.zero_add, Nat.one_mul]; exact (u2_bank _ _ _ _ _)) dX8_plays_15 ?_
    refine x_goto2 C (tgt := 66) dX8_plays_16 (by decide) ?_
    exact x_vret C (congrArg (va_up _ _) (do_1 h1 (by omega))) rfl dX8_plays_66
