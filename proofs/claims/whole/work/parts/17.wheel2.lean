/-! LeakCups$Wheel, on -/
set_option maxHeartbeats 4000000 in
set_option maxRecDepth 100000 in
theorem cW_swing (l : Launch) (E : xE) (σ : Nat → Nat → Int32) (τ : Nat → Int64) (w : Nat) (hw : w < 4) (g : Nat → Int32) (hg : gI g) : xMv l yX6_swing cX6_swing 2 2 43 E [.ref (xad E (wc w))] (va_up σ w (g)) (τ) (va_up σ w (swingG g)) (τ) := by
  refine xMv_of (own := RX6) (by decide +kernel) rfl (Nat.le_of_ble_eq_true rfl) ?_
  intro zp ze zs zm za zb zh zc C
  refine WM.to (lv1 := [(0, .ref (xad E (wc w)))]) (st1 := []) (σ1 := va_up σ w (g)) (τ1 := τ) ?_ rfl rfl rfl rfl
  refine x_bipush C (v := 100) dX6_swing_0 (by decide) ?_
  refine x_aload_n C 0 dX6_swing_2 rfl rfl ?_
  refine x_get C (by have := wc_lt hw; omega) (wd_0 hw) fl_X6_9 (q := (0, wc w + 1, 0)) (v := .ref (xad E (wc w + 1))) rfl rfl dX6_swing_3 ?_
  refine x_iconst C (v := 3) dX6_swing_6 (by decide) ?_
  refine x_ald C (by have := wc_lt hw; omega) (wd_1 hw) (v := g 3) (vp_in_nI (show 3 < 4 by omega) (by decide)) (by rw [(show (3 : Int32).toNatClampNeg = 3 from by decide), Nat.zero_add, Nat.one_mul]; exact (congrFun (va_up_self _ _ _) _)) dX6_swing_7 ?_
  refine x_imul C dX6_swing_8 ?_
  refine x_istore_n C (lv1 := [(1, .int (100 * (g 3))), (0, .ref (xad E (wc w)))]) dX6_swing_9 rfl (by decide) rfl ?_
  refine x_iload_n C 0 dX6_swing_10 rfl rfl ?_
  refine x_if_le C (tgt := 29) dX6_swing_11 (by decide) (fun h1 => absurd (heavy_pos hg) h1) (fun h1 => ?_)
  refine x_aload_n C 1 dX6_swing_14 rfl rfl ?_
  refine x_dup C dX6_swing_15 rfl ?_
  refine x_get C (by have := wc_lt hw; omega) (wd_0 hw) fl_X6_33 (q := (1, w, 4)) (v := .int (g 4)) rfl (congrArg Value.int (congrFun (va_up_self _ _ _) _)) dX6_swing_16 ?_
  refine x_aload_n C 1 dX6_swing_19 rfl rfl ?_
  refine x_callVi C (As := []) (rest := [.int (g 4), .ref (xad E (wc w))]) (cW_pull l E σ τ w hw g hg) kv_X6_124 (x_recv C (by have := wc_lt hw; omega) (wd_0 hw) rfl) ⟨Nat.le_of_ble_eq_true rfl, Nat.le_of_ble_eq_true rfl⟩ rfl rfl (Nat.le_of_ble_eq_true rfl) dX6_swing_20 ?_
  refine x_iload_n C 0 dX6_swing_23 rfl rfl ?_
  refine x_idiv C dX6_swing_24 (heavy_ne hg) ?_
  refine x_iadd C dX6_swing_25 ?_
  refine WM.topi (y := fastG g) rfl ?_
  refine x_put C (σ' := va_up σ w (upd g 4 (fastG g))) (by have := wc_lt hw; omega) (wd_0 hw) fp_X6_33 rfl rfl rfl (u2_bank _ _ _ _ _) dX6_swing_26 ?_
  refine x_aload_n C 1 dX6_swing_29 rfl rfl ?_
  refine x_dup C dX6_swing_30 rfl ?_
  refine x_get C (by have := wc_lt hw; omega) (wd_0 hw) fl_X6_33 (q := (1, w, 4)) (v := .int (fastG g)) rfl (congrArg Value.int (Eq.trans (congrFun (va_up_self _ _ _) _) (upd_at _ _ _))) dX6_swing_31 ?_
  refine x_aload_n C 1 dX6_swing_34 rfl rfl ?_
  refine x_get C (by have := wc_lt hw; omega) (wd_0 hw) fl_X6_33 (q := (1, w, 4)) (v := .int (fastG g)) rfl (congrArg Value.int (Eq.trans (congrFun (va_up_self _ _ _) _) (upd_at _ _ _))) dX6_swing_35 ?_
  refine x_aload_n C 1 dX6_swing_38 rfl rfl ?_
  refine x_get C (by have := wc_lt hw; omega) (wd_0 hw) fl_X6_9 (q := (0, wc w + 1, 0)) (v := .ref (xad E (wc w + 1))) rfl rfl dX6_swing_39 ?_
  refine x_iconst C (v := 2) dX6_swing_42 (by decide) ?_
  refine x_ald C (by have := wc_lt hw; omega) (wd_1 hw) (v := g 2) (vp_in_nI (show 2 < 4 by omega) (by decide)) (by rw [(show (2 : Int32).toNatClampNeg = 2 from by decide), Nat.zero_add, Nat.one_mul]; exact (Eq.trans (congrFun (va_up_self _ _ _) _) (upd_ne (j := 2) (k := 4) (by decide)))) dX6_swing_43 ?_
  refine x_imul C dX6_swing_44 ?_
  refine x_bipush C (v := 100) dX6_swing_45 (by decide) ?_
  refine x_idiv C dX6_swing_47 (by decide) ?_
  refine x_isub C dX6_swing_48 ?_
  refine x_put C (σ' := va_up σ w (upd g 4 ((fastG g) - (((fastG g) * (g 2)) / 100)))) (by have := wc_lt hw; omega) (wd_0 hw) fp_X6_33 rfl rfl rfl (Eq.trans (u2_bank _ _ _ _ _) (congrArg (va_up _ _) (upd_upd _ _ _ _))) dX6_swing_49 ?_
  refine x_aload_n C 1 dX6_swing_52 rfl rfl ?_
  refine x_aload_n C 1 dX6_swing_53 rfl rfl ?_
  refine x_get C (by have := wc_lt hw; omega) (wd_0 hw) fl_X6_33 (q := (1, w, 4)) (v := .int ((fastG g) - (((fastG g) * (g 2)) / 100))) rfl (congrArg Value.int (Eq.trans (congrFun (va_up_self _ _ _) _) (upd_at _ _ _))) dX6_swing_54 ?_
  refine x_callSi C (As := [.int ((fastG g) - (((fastG g) * (g 2)) / 100))]) (rest := [.ref (xad E (wc w))]) (c_held l E (va_up σ w (upd g 4 ((fastG g) - (((fastG g) * (g 2)) / 100)))) τ ((fastG g) - (((fastG g) * (g 2)) / 100))) ks_X6_84 ⟨Nat.le_of_ble_eq_true rfl, Nat.le_of_ble_eq_true rfl⟩ rfl rfl (Nat.le_of_ble_eq_true rfl) dX6_swing_57 ?_
  refine WM.topi (y := slowG g) rfl ?_
  refine x_put C (σ' := va_up σ w (upd g 4 (slowG g))) (by have := wc_lt hw; omega) (wd_0 hw) fp_X6_33 rfl rfl rfl (Eq.trans (u2_bank _ _ _ _ _) (congrArg (va_up _ _) (upd_upd _ _ _ _))) dX6_swing_60 ?_
  refine x_aload_n C 1 dX6_swing_63 rfl rfl ?_
  refine x_aload_n C 1 dX6_swing_64 rfl rfl ?_
  refine x_get C (by have := wc_lt hw; omega) (wd_0 hw) fl_X6_37 (q := (1, w, 5)) (v := .int (g 5)) rfl (congrArg Value.int (Eq.trans (congrFun (va_up_self _ _ _) _) (upd_ne (j := 5) (k := 4) (by decide)))) dX6_swing_65 ?_
  refine x_aload_n C 1 dX6_swing_68 rfl rfl ?_
  refine x_get C (by have := wc_lt hw; omega) (wd_0 hw) fl_X6_33 (q := (1, w, 4)) (v := .int (slowG g)) rfl (congrArg Value.int (Eq.trans (congrFun (va_up_self _ _ _) _) (upd_at _ _ _))) dX6_swing_69 ?_
  refine x_iadd C dX6_swing_72 ?_
  refine x_sipush C (v := 1200) dX6_swing_73 (by decide) ?_
  refine x_callSi C (As := [.int ((g 5) + (slowG g)), .int (1200)]) (rest := [.ref (xad E (wc w))]) (c_fmod l E (va_up σ w (upd g 4 (slowG g))) τ ((g 5) + (slowG g)) 1200 (by decide)) ks_X6_127 ⟨Nat.le_of_ble_eq_true rfl, Nat.le_of_ble_eq_true rfl⟩ rfl rfl (Nat.le_of_ble_eq_true rfl) dX6_swing_76 ?_
  refine WM.topi (y := xrem (g 5 + slowG g + 1200) 1200) (fm_eq hg) ?_
  refine x_put C (σ' := va_up σ w (upd (upd g 4 (slowG g)) 5 (xrem (g 5 + slowG g + 1200) 1200))) (by have := wc_lt hw; omega) (wd_0 hw) fp_X6_37 rfl rfl rfl (u2_bank _ _ _ _ _) dX6_swing_79 ?_
  exact x_vret C rfl rfl dX6_swing_82
set_option maxHeartbeats 4000000 in
set_option maxRecDepth 100000 in
theorem cW_logTurn (l : Launch) (E : xE) (σ : Nat → Nat → Int32) (τ : Nat → Int64) (w : Nat) (hw : w < 4) (g : Nat → Int32) (h0 : 0 ≤ (g 10).toInt) : xMv l yX6_logTurn cX6_logTurn 1 1 22 E [.ref (xad E (wc w))] (va_up σ w (g)) (τ) (va_up σ w (logT g)) (τ) := by
  refine xMv_of (own := RX6) (by decide +kernel) rfl (Nat.le_of_ble_eq_true rfl) ?_
  intro zp ze zs zm za zb zh zc C
  refine WM.to (lv1 := [(0, .ref (xad E (wc w)))]) (st1 := []) (σ1 := va_up σ w (g)) (τ1 := τ) ?_ rfl rfl rfl rfl
  refine x_aload_n C 0 dX6_logTurn_0 rfl rfl ?_
  refine x_get C (by have := wc_lt hw; omega) (wd_0 hw) fl_X6_52 (q := (1, w, 10)) (v := .int (g 10)) rfl (congrArg Value.int (congrFun (va_up_self _ _ _) _)) dX6_logTurn_1 ?_
  refine x_iconst C (v := 0) dX6_logTurn_4 (by decide) ?_
  refine x_bipush C (v := 39) dX6_logTurn_5 (by decide) ?_
  refine x_callNi C (As := [.int (g 10), .int (0), .int (39)]) (rest := []) (c_within l E (va_up σ w (g)) τ (g 10) 0 39) kn_X6_67 ⟨Nat.le_of_ble_eq_true rfl, Nat.le_of_ble_eq_true rfl⟩ rfl rfl (Nat.le_of_ble_eq_true rfl) dX6_logTurn_7 ?_
  refine x_ifeqB C (tgt := 39) dX6_logTurn_10 (by decide) (fun h1 => ?_) (fun h1 => ?_)
  · refine x_aload_n C 0 dX6_logTurn_39 rfl rfl ?_
    refine x_dup C dX6_logTurn_40 rfl ?_
    refine x_get C (by have := wc_lt hw; omega) (wd_0 hw) fl_X6_52 (q := (1, w, 10)) (v := .int (g 10)) rfl (congrArg Value.int (congrFun (va_up_self _ _ _) _)) dX6_logTurn_41 ?_
    refine x_iconst C (v := 1) dX6_logTurn_44 (by decide) ?_
    refine x_iadd C dX6_logTurn_45 ?_
    refine x_put C (σ' := va_up σ w (upd g 10 ((g 10) + 1))) (by have := wc_lt hw; omega) (wd_0 hw) fp_X6_52 rfl rfl rfl (u2_bank _ _ _ _ _) dX6_logTurn_46 ?_
    exact x_vret C (congrArg (va_up _ _) (logT_B h0 h1)) rfl dX6_logTurn_49
  · refine x_aload_n C 0 dX6_logTurn_13 rfl rfl ?_
    refine x_get C (by have := wc_lt hw; omega) (wd_0 hw) fl_X6_21 (q := (0, wc w + 4, 0)) (v := .ref (xad E (wc w + 4))) rfl rfl dX6_logTurn_14 ?_
    refine x_aload_n C 0 dX6_logTurn_17 rfl rfl ?_
    refine x_get C (by have := wc_lt hw; omega) (wd_0 hw) fl_X6_52 (q := (1, w, 10)) (v := .int (g 10)) rfl (congrArg Value.int (congrFun (va_up_self _ _ _) _)) dX6_logTurn_18 ?_
    refine x_aload_n C 0 dX6_logTurn_21 rfl rfl ?_
    refine x_get C (by have := wc_lt hw; omega) (wd_0 hw) fl_X6_49 (q := (1, w, 9)) (v := .int (g 9)) rfl (congrArg Value.int (congrFun (va_up_self _ _ _) _)) dX6_logTurn_22 ?_
    refine x_ast C (σ' := va_up σ w (upd g (44 + 2 * ((g 10).toNatClampNeg)) (g 9))) (by have := wc_lt hw; omega) (wd_4 hw) (by decide) (turn_in h1) (u2_bank _ _ _ _ _) dX6_logTurn_25 ?_
    refine x_aload_n C 0 dX6_logTurn_26 rfl rfl ?_
    refine x_get C (by have := wc_lt hw; omega) (wd_0 hw) fl_X6_24 (q := (0, wc w + 5, 0)) (v := .ref (xad E (wc w + 5))) rfl rfl dX6_logTurn_27 ?_
    refine x_aload_n C 0 dX6_logTurn_30 rfl rfl ?_
    refine x_get C (by have := wc_lt hw; omega) (wd_0 hw) fl_X6_52 (q := (1, w, 10)) (v := .int (g 10)) rfl (congrArg Value.int (Eq.trans (congrFun (va_up_self _ _ _) _) (upd_ne (j := 10) (k := 44 + 2 * ((g 10).toNatClampNeg)) (by omega)))) dX6_logTurn_31 ?_
    refine x_aload_n C 0 dX6_logTurn_34 rfl rfl ?_
    refine x_get C (by have := wc_lt hw; omega) (wd_0 hw) fl_X6_55 (q := (1, w, 11)) (v := .int (g 11)) rfl (congrArg Value.int (Eq.trans (congrFun (va_up_self _ _ _) _) (upd_ne (j := 11) (k := 44 + 2 * ((g 10).toNatClampNeg)) (by omega)))) dX6_logTurn_35 ?_
    refine x_ast C (σ' := va_up σ w (upd (upd g (44 + 2 * ((g 10).toNatClampNeg)) (g 9)) (45 + 2 * ((g 10).toNatClampNeg)) (g 11))) (by have := wc_lt hw; omega) (wd_5 hw) (by decide) (turn_in h1) (u2_bank _ _ _ _ _) dX6_logTurn_38 ?_
    refine x_aload_n C 0 dX6_logTurn_39 rfl rfl ?_
    refine x_dup C dX6_logTurn_40 rfl ?_
    refine x_get C (by have := wc_lt hw; omega) (wd_0 hw) fl_X6_52 (q := (1, w, 10)) (v := .int (g 10)) rfl (congrArg Value.int (Eq.trans (congrFun (va_up_self _ _ _) _) (Eq.trans (upd_ne (j := 10) (k := 45 + 2 * ((g 10).toNatClampNeg)) (by omega)) (upd_ne (j := 10) (k := 44 + 2 * ((g 10).toNatClampNeg)) (by omega))))) dX6_logTurn_41 ?_
    refine x_iconst C (v := 1) dX6_logTurn_44 (by decide) ?_
    refine x_iadd C dX6_logTurn_45 ?_
    refine x_put C (σ' := va_up σ w (upd (upd (upd g (44 + 2 * ((g 10).toNatClampNeg)) (g 9)) (45 + 2 * ((g 10).toNatClampNeg)) (g 11)) 10 ((g 10) + 1))) (by have := wc_lt hw; omega) (wd_0 hw) fp_X6_52 rfl rfl rfl (u2_bank _ _ _ _ _) dX6_logTurn_46 ?_
    exact x_vret C (congrArg (va_up _ _) (logT_A h1)) rfl dX6_logTurn_49
set_option maxHeartbeats 4000000 in
set_option maxRecDepth 100000 in
theorem cW_watchWay (l : Launch) (E : xE) (σ : Nat → Nat → Int32) (τ : Nat → Int64) (w : Nat) (hw : w < 4) (g : Nat → Int32) (hg : gI g) (h0 : 0 ≤ (g 10).toInt) : xMv l yX6_watchWay cX6_watchWay 2 2 42 E [.ref (xad E (wc w))] (va_up σ w (g)) (τ) (va_up σ w (watchG g)) (τ) := by
  refine xMv_of (own := RX6) (by decide +kernel) rfl (Nat.le_of_ble_eq_true rfl) ?_
  intro zp ze zs zm za zb zh zc C
  refine WM.to (lv1 := [(0, .ref (xad E (wc w)))]) (st1 := []) (σ1 := va_up σ w (g)) (τ1 := τ) ?_ rfl rfl rfl rfl
  refine x_aload_n C 0 dX6_watchWay_0 rfl rfl ?_
  refine x_get C (by have := wc_lt hw; omega) (wd_0 hw) fl_X6_33 (q := (1, w, 4)) (v := .int (g 4)) rfl (congrArg Value.int (congrFun (va_up_self _ _ _) _)) dX6_watchWay_1 ?_
  refine x_iconst C (v := 0) dX6_watchWay_4 (by decide) ?_
  refine x_callSi C (As := [.int (g 4), .int (0)]) (rest := []) (c_Icmp l E (va_up σ w (g)) τ (g 4) 0) ks_X6_87 ⟨Nat.le_of_ble_eq_true rfl, Nat.le_of_ble_eq_true rfl⟩ rfl rfl (Nat.le_of_ble_eq_true rfl) dX6_watchWay_5 ?_
  refine x_istore_n C (lv1 := [(1, .int (cmpI (g 4) 0)), (0, .ref (xad E (wc w)))]) dX6_watchWay_8 rfl (by decide) rfl ?_
  refine x_iload_n C 0 dX6_watchWay_9 rfl rfl ?_
  refine x_aload_n C 1 dX6_watchWay_10 rfl rfl ?_
  refine x_get C (by have := wc_lt hw; omega) (wd_0 hw) fl_X6_40 (q := (1, w, 6)) (v := .int (g 6)) rfl (congrArg Value.int (congrFun (va_up_self _ _ _) _)) dX6_watchWay_11 ?_
  refine x_imul C dX6_watchWay_14 ?_
  refine x_if_ge C (tgt := 27) dX6_watchWay_15 (by decide) (fun h1 => ?_) (fun h1 => ?_)
  · refine x_aload_n C 1 dX6_watchWay_27 rfl rfl ?_
    refine x_aload_n C 1 dX6_watchWay_28 rfl rfl ?_
    refine x_get C (by have := wc_lt hw; omega) (wd_0 hw) fl_X6_55 (q := (1, w, 11)) (v := .int (g 11)) rfl (congrArg Value.int (congrFun (va_up_self _ _ _) _)) dX6_watchWay_29 ?_
    refine x_aload_n C 1 dX6_watchWay_32 rfl rfl ?_
    refine x_get C (by have := wc_lt hw; omega) (wd_0 hw) fl_X6_33 (q := (1, w, 4)) (v := .int (g 4)) rfl (congrArg Value.int (congrFun (va_up_self _ _ _) _)) dX6_watchWay_33 ?_
    refine x_mabs C km_X6_133 kM_abs ⟨Nat.le_of_ble_eq_true rfl, Nat.le_of_ble_eq_true rfl⟩ dX6_watchWay_36 ?_
    refine WM.topi (y := absG (g 4)) abs_eq ?_
    refine x_mmax C km_X6_74 kM_max ⟨Nat.le_of_ble_eq_true rfl, Nat.le_of_ble_eq_true rfl⟩ dX6_watchWay_39 ?_
    refine x_put C (σ' := va_up σ w (upd g 11 (if (g 11) < (absG (g 4)) then (absG (g 4)) else (g 11)))) (by have := wc_lt hw; omega) (wd_0 hw) fp_X6_55 rfl rfl rfl (u2_bank _ _ _ _ _) dX6_watchWay_42 ?_
    refine x_iload_n C 0 dX6_watchWay_45 rfl rfl ?_
    refine x_if_eq C (tgt := 54) dX6_watchWay_46 (by decide) (fun h2 => ?_) (fun h2 => ?_)
    · exact x_vret C (congrArg (va_up _ _) ((note_A (g := g) rfl h2).trans (congrArg noteG (if_neg (fun q => h1 ((turns_iff hg).mpr q)))).symm)) rfl dX6_watchWay_54
    · refine x_aload_n C 1 dX6_watchWay_49 rfl rfl ?_
      refine x_iload_n C 0 dX6_watchWay_50 rfl rfl ?_
      refine x_put C (σ' := va_up σ w (upd (upd g 11 (if (g 11) < (absG (g 4)) then (absG (g 4)) else (g 11))) 6 (cmpI (g 4) 0))) (by have := wc_lt hw; omega) (wd_0 hw) fp_X6_40 rfl rfl rfl (u2_bank _ _ _ _ _) dX6_watchWay_51 ?_
      exact x_vret C (congrArg (va_up _ _) ((note_B (g := g) rfl h2).trans (congrArg noteG (if_neg (fun q => h1 ((turns_iff hg).mpr q)))).symm)) rfl dX6_watchWay_54
  · refine x_aload_n C 1 dX6_watchWay_18 rfl rfl ?_
    refine x_callVv C (As := []) (rest := []) (cW_logTurn l E σ τ w hw g h0) kv_X6_130 (x_recv C (by have := wc_lt hw; omega) (wd_0 hw) rfl) ⟨Nat.le_of_ble_eq_true rfl, Nat.le_of_ble_eq_true rfl⟩ rfl rfl (Nat.le_of_ble_eq_true rfl) dX6_watchWay_19 ?_
    refine x_aload_n C 1 dX6_watchWay_22 rfl rfl ?_
    refine x_iconst C (v := 0) dX6_watchWay_23 (by decide) ?_
    refine x_put C (σ' := va_up σ w (upd (logT g) 11 (0))) (by have := wc_lt hw; omega) (wd_0 hw) fp_X6_55 rfl rfl rfl (u2_bank _ _ _ _ _) dX6_watchWay_24 ?_
    refine WM.to (σ1 := va_up σ w (logG g)) ?_ rfl rfl rfl rfl
    refine x_aload_n C 1 dX6_watchWay_27 rfl rfl ?_
    refine x_aload_n C 1 dX6_watchWay_28 rfl rfl ?_
    refine x_get C (by have := wc_lt hw; omega) (wd_0 hw) fl_X6_55 (q := (1, w, 11)) (v := .int ((logG g) 11)) rfl (congrArg Value.int (congrFun (va_up_self _ _ _) _)) dX6_watchWay_29 ?_
    refine x_aload_n C 1 dX6_watchWay_32 rfl rfl ?_
    refine x_get C (by have := wc_lt hw; omega) (wd_0 hw) fl_X6_33 (q := (1, w, 4)) (v := .int ((logG g) 4)) rfl (congrArg Value.int (congrFun (va_up_self _ _ _) _)) dX6_watchWay_33 ?_
    refine x_mabs C km_X6_133 kM_abs ⟨Nat.le_of_ble_eq_true rfl, Nat.le_of_ble_eq_true rfl⟩ dX6_watchWay_36 ?_
    refine WM.topi (y := absG ((logG g) 4)) abs_eq ?_
    refine x_mmax C km_X6_74 kM_max ⟨Nat.le_of_ble_eq_true rfl, Nat.le_of_ble_eq_true rfl⟩ dX6_watchWay_39 ?_
    refine x_put C (σ' := va_up σ w (upd (logG g) 11 (if ((logG g) 11) < (absG ((logG g) 4)) then (absG ((logG g) 4)) else ((logG g) 11)))) (by have := wc_lt hw; omega) (wd_0 hw) fp_X6_55 rfl rfl rfl (u2_bank _ _ _ _ _) dX6_watchWay_42 ?_
    refine x_iload_n C 0 dX6_watchWay_45 rfl rfl ?_
    refine x_if_eq C (tgt := 54) dX6_watchWay_46 (by decide) (fun h3 => ?_) (fun h3 => ?_)
    · exact x_vret C (congrArg (va_up _ _) ((note_A (g := (logG g)) (log_4 g).symm h3).trans (congrArg noteG (if_pos ((turns_iff hg).mp h1))).symm)) rfl dX6_watchWay_54
    · refine x_aload_n C 1 dX6_watchWay_49 rfl rfl ?_
      refine x_iload_n C 0 dX6_watchWay_50 rfl rfl ?_
      refine x_put C (σ' := va_up σ w (upd (upd (logG g) 11 (if ((logG g) 11) < (absG ((logG g) 4)) then (absG ((logG g) 4)) else ((logG g) 11))) 6 (cmpI (g 4) 0))) (by have := wc_lt hw; omega) (wd_0 hw) fp_X6_40 rfl rfl rfl (u2_bank _ _ _ _ _) dX6_watchWay_51 ?_
      exact x_vret C (congrArg (va_up _ _) ((note_B (g := (logG g)) (log_4 g).symm h3).trans (congrArg noteG (if_pos ((turns_iff hg).mp h1))).symm)) rfl dX6_watchWay_54
