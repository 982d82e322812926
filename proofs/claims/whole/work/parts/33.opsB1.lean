/-! operations: runs -/
set_option maxHeartbeats 4000000 in
set_option maxRecDepth 100000 in
theorem k_ahead (l : Launch) (E : xE) (σ : Nat → Nat → Int32) (τ : Nat → Int64) (T : Nat) (hT : T < 1073741824) (n what : Int32) (hI : Inv (cv σ) T) : xOi l yX7_ahead cX7_ahead 3 .int 5 112 E [.ref (xad E (0)), .int (n), .int (what)] σ τ (cpost (sp_ahead n what (cv σ)) σ) := by
  refine xOi_of (own := RX7) (by decide +kernel) rfl (Nat.le_of_ble_eq_true rfl) ?_
  intro zp ze zs zm za zb zh zc C
  refine WM.to (lv1 := [(0, .ref (xad E (0))), (1, .int (n)), (2, .int (what))]) (st1 := []) (σ1 := σ) (τ1 := τ) ?_ rfl rfl rfl rfl
  have hg : gI (σ 0) := hI.g
  have hgT : gT (σ 0) T := hI.t
  have h0 : 0 ≤ (σ 0 10).toInt := hI.h0
  refine x_iload_n C 1 dX7_ahead_0 rfl rfl ?_
  refine x_callSi C (As := [.int (n)]) (rest := []) (c_isAhead l E σ τ n) ks_X7_187 ⟨Nat.le_of_ble_eq_true rfl, Nat.le_of_ble_eq_true rfl⟩ rfl rfl (Nat.le_of_ble_eq_true rfl) dX7_ahead_1 ?_
  refine x_ifeqB C (tgt := 16) dX7_ahead_4 (by decide) (fun h1 => ?_) (fun h1 => ?_)
  · refine x_aload_n C 0 dX7_ahead_16 rfl rfl ?_
    refine x_ldc C dX7_ahead_17 kc_X7_63 ?_
    refine x_callVi C (As := [.int ((-1000001))]) (rest := []) (c_finding l E σ τ 0 (by decide) (-1000001) (by decide)) kv_X7_64 (x_recv C (Nat.le_of_ble_eq_true rfl) xd_0 rfl) ⟨Nat.le_of_ble_eq_true rfl, Nat.le_of_ble_eq_true rfl⟩ rfl rfl (Nat.le_of_ble_eq_true rfl) dX7_ahead_19 ?_
    exact x_oret C (cpost_of (V := u2 (cv σ) 2 0 (σ 4 0 + 1)) (if_neg (by first | assumption | ((try simp only [rng, mayQ, tI_lt, tI_eq, cvr_0, mvr_0, cvr_c, mvr_c, tl_0, tl_1, tl_2, tl_3, tl_4, tl_5, tl_6, tl_7, tl_8, tl_9, tl_10, tl_11, tl_12, tl_13, tl_99, tl_400] at h1 ⊢) <;> omega))) (by rw [cv_u4]) (by rw [mv_u4]) rfl) dX7_ahead_22
  · refine x_iload_n C 2 dX7_ahead_7 rfl rfl ?_
    refine x_iconst C (v := 0) dX7_ahead_8 (by decide) ?_
    refine x_iconst C (v := 3) dX7_ahead_9 (by decide) ?_
    refine x_callSi C (As := [.int (what), .int (0), .int (3)]) (rest := []) (c_within l E σ τ what 0 3) ks_X7_59 ⟨Nat.le_of_ble_eq_true rfl, Nat.le_of_ble_eq_true rfl⟩ rfl rfl (Nat.le_of_ble_eq_true rfl) dX7_ahead_10 ?_
    refine x_ifneB C (tgt := 23) dX7_ahead_13 (by decide) (fun h2 => ?_) (fun h2 => ?_)
    · obtain ⟨q, hqa, hqb, rfl⟩ := rngN (a := 0) (b := 400) h1 (by decide) (by decide) (by decide)
      refine x_aload_n C 0 dX7_ahead_23 rfl rfl ?_
      refine x_get C (Nat.le_of_ble_eq_true rfl) xd_0 fl_X7_40 (q := (0, 59, 0)) (v := .ref (xad E (59))) rfl rfl dX7_ahead_24 ?_
      refine x_aload_n C 0 dX7_ahead_27 rfl rfl ?_
      refine x_get C (Nat.le_of_ble_eq_true rfl) xd_0 fl_X7_12 (q := (0, 1, 0)) (v := .ref (xad E (1))) rfl rfl dX7_ahead_28 ?_
      refine x_get C (Nat.le_of_ble_eq_true rfl) xd_1 fl_X7_68 (q := (0, 2, 0)) (v := .ref (xad E (2))) rfl rfl dX7_ahead_31 ?_
      refine x_callVv C (As := [.ref (xad E (2))]) (rest := []) (cW_become l E σ τ 2 0 (by decide) (by decide) (by decide)) kv_X7_190 (x_recv C (Nat.le_of_ble_eq_true rfl) xd_59 rfl) ⟨Nat.le_of_ble_eq_true rfl, Nat.le_of_ble_eq_true rfl⟩ rfl rfl (Nat.le_of_ble_eq_true rfl) dX7_ahead_34 ?_
      refine WM.alter (σ' := va_up σ 2 (σ 0)) (mix_run (by decide)) ?_
      refine WM.to (σ1 := va_up σ 2 (σ 0)) ?_ (congrArg (va_up _ _) rfl) rfl rfl rfl
      refine x_aload_n C 0 dX7_ahead_37 rfl rfl ?_
      refine x_get C (Nat.le_of_ble_eq_true rfl) xd_0 fl_X7_40 (q := (0, 59, 0)) (v := .ref (xad E (59))) rfl rfl dX7_ahead_38 ?_
      refine x_iload_n C 1 dX7_ahead_41 rfl rfl ?_
      refine x_callVv C (As := [.int (nI q)]) (rest := []) (cW_steps l E σ τ 2 (by decide) (σ 0) q T (by omega) hg hgT (by omega)) kv_X7_111 (x_recv C (Nat.le_of_ble_eq_true rfl) xd_59 rfl) ⟨Nat.le_of_ble_eq_true rfl, Nat.le_of_ble_eq_true rfl⟩ rfl rfl (Nat.le_of_ble_eq_true rfl) dX7_ahead_42 ?_
      refine x_iload_n C 2 dX7_ahead_45 rfl rfl ?_
      by_cases t3 : what = 0
      · refine WM.topi (y := 0) t3 ?_
        refine x_tableIn C (tgt := 72) dX7_ahead_46 (by decide) (by decide) rfl (by decide) ?_
        refine x_aload_n C 0 dX7_ahead_72 rfl rfl ?_
        refine x_get C (Nat.le_of_ble_eq_true rfl) xd_0 fl_X7_40 (q := (0, 59, 0)) (v := .ref (xad E (59))) rfl rfl dX7_ahead_73 ?_
        refine x_get C (Nat.le_of_ble_eq_true rfl) xd_59 fl_X7_104 (q := (1, 2, 4)) (v := .int ((stepsG (σ 0) q) 4)) rfl (congrArg Value.int (congrFun (va_up_self _ _ _) _)) dX7_ahead_76 ?_
        exact x_oret C (cpost_of (V := cv σ) (Eq.trans (if_pos (by first | assumption | ((try simp only [rng, mayQ, tI_lt, tI_eq, cvr_0, mvr_0, cvr_c, mvr_c, tl_0, tl_1, tl_2, tl_3, tl_4, tl_5, tl_6, tl_7, tl_8, tl_9, tl_10, tl_11, tl_12, tl_13, tl_99, tl_400] at h1 h2 t3 ⊢) <;> omega))) (Eq.trans (congrArg (fun z => (aheadS z what (cv σ 0), cv σ)) (nI_clamp (by omega))) (congrArg (fun z => (z, cv σ)) (show aheadS q what (σ 0) = (stepsG (σ 0) q) 4 from (by simp [aheadS, t3]))))) (by rw [cv_v2]) (by rw [mv_v2]) rfl) dX7_ahead_79
      · by_cases t4 : what = 1
        · refine WM.topi (y := 1) t4 ?_
          refine x_tableIn C (tgt := 80) dX7_ahead_46 (by decide) (by decide) rfl (by decide) ?_
          refine x_aload_n C 0 dX7_ahead_80 rfl rfl ?_
          refine x_get C (Nat.le_of_ble_eq_true rfl) xd_0 fl_X7_40 (q := (0, 59, 0)) (v := .ref (xad E (59))) rfl rfl dX7_ahead_81 ?_
          refine x_get C (Nat.le_of_ble_eq_true rfl) xd_59 fl_X7_108 (q := (1, 2, 5)) (v := .int ((stepsG (σ 0) q) 5)) rfl (congrArg Value.int (congrFun (va_up_self _ _ _) _)) dX7_ahead_84 ?_
          exact x_oret C (cpost_of (V := cv σ) (Eq.trans (if_pos (by first | assumption | ((try simp only [rng, mayQ, tI_lt, tI_eq, cvr_0, mvr_0, cvr_c, mvr_c, tl_0, tl_1, tl_2, tl_3, tl_4, tl_5, tl_6, tl_7, tl_8, tl_9, tl_10, tl_11, tl_12, tl_13, tl_99, tl_400] at h1 h2 t3 t4 ⊢) <;> omega))) (Eq.trans (congrArg (fun z => (aheadS z what (cv σ 0), cv σ)) (nI_clamp (by omega))) (congrArg (fun z => (z, cv σ)) (show aheadS q what (σ 0) = (stepsG (σ 0) q) 5 from (by simp [aheadS, t3, t4]))))) (by rw [cv_v2]) (by rw [mv_v2]) rfl) dX7_ahead_87
        · by_cases t5 : what = 2
          · refine WM.topi (y := 2) t5 ?_
            refine x_tableIn C (tgt := 88) dX7_ahead_46 (by decide) (by decide) rfl (by decide) ?_
            refine x_aload_n C 0 dX7_ahead_88 rfl rfl ?_
            refine x_get C (Nat.le_of_ble_eq_true rfl) xd_0 fl_X7_40 (q := (0, 59, 0)) (v := .ref (xad E (59))) rfl rfl dX7_ahead_89 ?_
            refine x_callVi C (As := []) (rest := []) (cW_waterOfAll l E σ τ 2 (by decide) (stepsG (σ 0) q)) kv_X7_117 (x_recv C (Nat.le_of_ble_eq_true rfl) xd_59 rfl) ⟨Nat.le_of_ble_eq_true rfl, Nat.le_of_ble_eq_true rfl⟩ rfl rfl (Nat.le_of_ble_eq_true rfl) dX7_ahead_92 ?_
            exact x_oret C (cpost_of (V := cv σ) (Eq.trans (if_pos (by first | assumption | ((try simp only [rng, mayQ, tI_lt, tI_eq, cvr_0, mvr_0, cvr_c, mvr_c, tl_0, tl_1, tl_2, tl_3, tl_4, tl_5, tl_6, tl_7, tl_8, tl_9, tl_10, tl_11, tl_12, tl_13, tl_99, tl_400] at h1 h2 t3 t4 t5 ⊢) <;> omega))) (Eq.trans (congrArg (fun z => (aheadS z what (cv σ 0), cv σ)) (nI_clamp (by omega))) (congrArg (fun z => (z, cv σ)) (show aheadS q what (σ 0) = waterN (stepsG (σ 0) q) 12 from (by simp [aheadS, t3, t4, t5]))))) (by rw [cv_v2]) (by rw [mv_v2]) rfl) dX7_ahead_95
          · refine x_tableOut C (tgt := 96) dX7_ahead_46 (by rw [tI_eq, show (0 : Int32).toInt = 0 from by decide] at t3; rw [tI_eq, show (1 : Int32).toInt = 1 from by decide] at t4; rw [tI_eq, show (2 : Int32).toInt = 2 from by decide] at t5; first | omega) (by decide) ?_
            refine x_aload_n C 0 dX7_ahead_96 rfl rfl ?_
            refine x_get C (Nat.le_of_ble_eq_true rfl) xd_0 fl_X7_40 (q := (0, 59, 0)) (v := .ref (xad E (59))) rfl rfl dX7_ahead_97 ?_
            refine x_get C (Nat.le_of_ble_eq_true rfl) xd_59 fl_X7_194 (q := (1, 2, 10)) (v := .int ((stepsG (σ 0) q) 10)) rfl (congrArg Value.int (congrFun (va_up_self _ _ _) _)) dX7_ahead_100 ?_
            refine x_aload_n C 0 dX7_ahead_103 rfl rfl ?_
            refine x_get C (Nat.le_of_ble_eq_true rfl) xd_0 fl_X7_12 (q := (0, 1, 0)) (v := .ref (xad E (1))) rfl rfl dX7_ahead_104 ?_
            refine x_get C (Nat.le_of_ble_eq_true rfl) xd_1 fl_X7_68 (q := (0, 2, 0)) (v := .ref (xad E (2))) rfl rfl dX7_ahead_107 ?_
            refine x_get C (Nat.le_of_ble_eq_true rfl) xd_2 fl_X7_194 (q := (1, 0, 10)) (v := .int (σ 0 10)) rfl (congrArg Value.int (congrFun (va_up_ne _ (j := 0) (k := 2) _ (by decide)) _)) dX7_ahead_110 ?_
            refine x_isub C dX7_ahead_113 ?_
            exact x_oret C (cpost_of (V := cv σ) (Eq.trans (if_pos (by first | assumption | ((try simp only [rng, mayQ, tI_lt, tI_eq, cvr_0, mvr_0, cvr_c, mvr_c, tl_0, tl_1, tl_2, tl_3, tl_4, tl_5, tl_6, tl_7, tl_8, tl_9, tl_10, tl_11, tl_12, tl_13, tl_99, tl_400] at h1 h2 t3 t4 t5 ⊢) <;> omega))) (Eq.trans (congrArg (fun z => (aheadS z what (cv σ 0), cv σ)) (nI_clamp (by omega))) (congrArg (fun z => (z, cv σ)) (show aheadS q what (σ 0) = ((stepsG (σ 0) q) 10) - (σ 0 10) from (by simp [aheadS, t3, t4, t5]))))) (by rw [cv_v2]) (by rw [mv_v2]) rfl) dX7_ahead_114
    · refine x_aload_n C 0 dX7_ahead_16 rfl rfl ?_
      refine x_ldc C dX7_ahead_17 kc_X7_63 ?_
      refine x_callVi C (As := [.int ((-1000001))]) (rest := []) (c_finding l E σ τ 0 (by decide) (-1000001) (by decide)) kv_X7_64 (x_recv C (Nat.le_of_ble_eq_true rfl) xd_0 rfl) ⟨Nat.le_of_ble_eq_true rfl, Nat.le_of_ble_eq_true rfl⟩ rfl rfl (Nat.le_of_ble_eq_true rfl) dX7_ahead_19 ?_
      exact x_oret C (cpost_of (V := u2 (cv σ) 2 0 (σ 4 0 + 1)) (if_neg (by first | assumption | ((try simp only [rng, mayQ, tI_lt, tI_eq, cvr_0, mvr_0, cvr_c, mvr_c, tl_0, tl_1, tl_2, tl_3, tl_4, tl_5, tl_6, tl_7, tl_8, tl_9, tl_10, tl_11, tl_12, tl_13, tl_99, tl_400] at h1 h2 ⊢) <;> omega))) (by rw [cv_u4]) (by rw [mv_u4]) rfl) dX7_ahead_22
set_option maxHeartbeats 4000000 in
set_option maxRecDepth 100000 in
theorem m_ahead (l : Launch) (E : xE) (σ : Nat → Nat → Int32) (τ : Nat → Int64) (T : Nat) (hT : T < 1073741824) (n what : Int32) (hI : Inv (mv σ) T) (hlv : ∀ j, j < 12 → σ 15 j = (xzl 1).getD j 0) : xOi l yX8_ahead cX8_ahead 3 .int 4 92 E [.ref (xad E (81)), .int (n), .int (what)] σ τ (mpost (sp_ahead n what (mv σ)) σ) := by
  refine xOi_of (own := RX8) (by decide +kernel) rfl (Nat.le_of_ble_eq_true rfl) ?_
  intro zp ze zs zm za zb zh zc C
  refine WM.to (lv1 := [(0, .ref (xad E (81))), (1, .int (n)), (2, .int (what))]) (st1 := []) (σ1 := σ) (τ1 := τ) ?_ rfl rfl rfl rfl
  have hg : gI (σ 10) := hI.g
  have hgT : gT (σ 10) T := hI.t
  have h0 : 0 ≤ (σ 10 10).toInt := hI.h0
  refine x_iload_n C 1 dX8_ahead_0 rfl rfl ?_
  refine x_i2l C dX8_ahead_1 ?_
  refine x_lconst C (v := 0) dX8_ahead_2 (by decide) ?_
  refine x_ldc2 C dX8_ahead_3 kc_X8_231 ?_
  refine x_callSi C (As := [.long (Int32.toInt64 n), .long (0), .long (400)]) (rest := []) (c_in l E σ τ (Int32.toInt64 n) 0 400) ks_X8_49 ⟨Nat.le_of_ble_eq_true rfl, Nat.le_of_ble_eq_true rfl⟩ rfl rfl (Nat.le_of_ble_eq_true rfl) dX8_ahead_6 ?_
  refine WM.topi (y := if rng n 0 400 then 1 else 0) (in_eq n 0 400 (by decide) (by decide)) ?_
  refine x_ifeqB C (tgt := 24) dX8_ahead_9 (by decide) (fun h1 => ?_) (fun h1 => ?_)
  · refine x_aload_n C 0 dX8_ahead_24 rfl rfl ?_
    refine x_ldc C dX8_ahead_25 kc_X8_46 ?_
    refine x_callVi C (As := [.int ((-1000001))]) (rest := []) (c_finds l E σ τ 0 (by decide) (-1000001) (by decide)) kv_X8_61 (x_recv C (Nat.le_of_ble_eq_true rfl) xd_81 rfl) ⟨Nat.le_of_ble_eq_true rfl, Nat.le_of_ble_eq_true rfl⟩ rfl rfl (Nat.le_of_ble_eq_true rfl) dX8_ahead_27 ?_
    exact x_oret C (mpost_of (V := u2 (mv σ) 2 0 (σ 14 0 + 1)) (if_neg (by first | assumption | ((try simp only [rng, mayQ, tI_lt, tI_eq, cvr_0, mvr_0, cvr_c, mvr_c, tl_0, tl_1, tl_2, tl_3, tl_4, tl_5, tl_6, tl_7, tl_8, tl_9, tl_10, tl_11, tl_12, tl_13, tl_99, tl_400] at h1 ⊢) <;> omega))) (by rw [mv_u14]) (by rw [cv_u14]) rfl) dX8_ahead_30
  · refine x_iload_n C 2 dX8_ahead_12 rfl rfl ?_
    refine x_i2l C dX8_ahead_13 ?_
    refine x_lconst C (v := 0) dX8_ahead_14 (by decide) ?_
    refine x_ldc2 C dX8_ahead_15 kc_X8_233 ?_
    refine x_callSi C (As := [.long (Int32.toInt64 what), .long (0), .long (3)]) (rest := []) (c_in l E σ τ (Int32.toInt64 what) 0 3) ks_X8_49 ⟨Nat.le_of_ble_eq_true rfl, Nat.le_of_ble_eq_true rfl⟩ rfl rfl (Nat.le_of_ble_eq_true rfl) dX8_ahead_18 ?_
    refine WM.topi (y := if rng what 0 3 then 1 else 0) (in_eq what 0 3 (by decide) (by decide)) ?_
    refine x_ifneB C (tgt := 31) dX8_ahead_21 (by decide) (fun h2 => ?_) (fun h2 => ?_)
    · obtain ⟨q, hqa, hqb, rfl⟩ := rngN (a := 0) (b := 400) h1 (by decide) (by decide) (by decide)
      refine x_aload_n C 0 dX8_ahead_31 rfl rfl ?_
      refine x_get C (Nat.le_of_ble_eq_true rfl) xd_81 fl_X8_9 (q := (0, 82, 0)) (v := .ref (xad E (82))) rfl rfl dX8_ahead_32 ?_
      refine x_aload_n C 0 dX8_ahead_35 rfl rfl ?_
      refine x_get C (Nat.le_of_ble_eq_true rfl) xd_81 fl_X8_13 (q := (0, 83, 0)) (v := .ref (xad E (83))) rfl rfl dX8_ahead_36 ?_
      refine x_callSv C (As := [.ref (xad E (82)), .ref (xad E (83))]) (rest := []) (cM_copies l E σ τ 10 11 (by decide) (by decide) (by decide)) ks_X8_235 ⟨Nat.le_of_ble_eq_true rfl, Nat.le_of_ble_eq_true rfl⟩ rfl rfl (Nat.le_of_ble_eq_true rfl) dX8_ahead_39 ?_
      refine WM.to (σ1 := va_up σ 11 (σ 10)) ?_ (congrArg (va_up _ _) rfl) rfl rfl rfl
      refine x_aload_n C 0 dX8_ahead_42 rfl rfl ?_
      refine x_aload_n C 0 dX8_ahead_43 rfl rfl ?_
      refine x_get C (Nat.le_of_ble_eq_true rfl) xd_81 fl_X8_13 (q := (0, 83, 0)) (v := .ref (xad E (83))) rfl rfl dX8_ahead_44 ?_
      refine x_iload_n C 1 dX8_ahead_47 rfl rfl ?_
      refine x_callVv C (As := [.ref (xad E (83)), .int (nI q)]) (rest := []) (cM_goesOn l E σ τ 11 (by decide) (σ 10) q T (by omega) hg hgT (by omega) hlv) kv_X8_113 (x_recv C (Nat.le_of_ble_eq_true rfl) xd_81 rfl) ⟨Nat.le_of_ble_eq_true rfl, Nat.le_of_ble_eq_true rfl⟩ rfl rfl (Nat.le_of_ble_eq_true rfl) dX8_ahead_48 ?_
      refine x_iload_n C 2 dX8_ahead_51 rfl rfl ?_
      refine x_if_ne C (tgt := 64) dX8_ahead_52 (by decide) (fun h3 => ?_) (fun h3 => ?_)
      · refine x_iload_n C 2 dX8_ahead_64 rfl rfl ?_
        refine x_iconst C (v := 1) dX8_ahead_65 (by decide) ?_
        refine x_icmp_ne C (tgt := 78) dX8_ahead_66 (by decide) (fun h4 => ?_) (fun h4 => ?_)
        · refine x_iload_n C 2 dX8_ahead_78 rfl rfl ?_
          refine x_iconst C (v := 2) dX8_ahead_79 (by decide) ?_
          refine x_icmp_ne C (tgt := 93) dX8_ahead_80 (by decide) (fun h5 => ?_) (fun h5 => ?_)
          · refine x_aload_n C 0 dX8_ahead_93 rfl rfl ?_
            refine x_get C (Nat.le_of_ble_eq_true rfl) xd_81 fl_X8_13 (q := (0, 83, 0)) (v := .ref (xad E (83))) rfl rfl dX8_ahead_94 ?_
            refine x_bipush C (v := 10) dX8_ahead_97 (by decide) ?_
            refine x_ald C (Nat.le_of_ble_eq_true rfl) xd_83 (v := (stepsG (σ 10) q) 10) (vp_in_nI (show 10 < 284 by omega) (by decide)) (by rw [(show (10 : Int32).toNatClampNeg = 10 from by decide), Nat.zero_add, Nat.one_mul]; exact (congrFun (va_up_self _ _ _) _)) dX8_ahead_99 ?_
            refine x_aload_n C 0 dX8_ahead_100 rfl rfl ?_
            refine x_get C (Nat.le_of_ble_eq_true rfl) xd_81 fl_X8_9 (q := (0, 82, 0)) (v := .ref (xad E (82))) rfl rfl dX8_ahead_101 ?_
            refine x_bipush C (v := 10) dX8_ahead_104 (by decide) ?_
            refine x_ald C (Nat.le_of_ble_eq_true rfl) xd_82 (v := σ 10 10) (vp_in_nI (show 10 < 284 by omega) (by decide)) (by rw [(show (10 : Int32).toNatClampNeg = 10 from by decide), Nat.zero_add, Nat.one_mul]; exact (congrFun (va_up_ne _ (j := 10) (k := 11) _ (by decide)) _)) dX8_ahead_106 ?_
            refine x_isub C dX8_ahead_107 ?_
            exact x_oret C (mpost_of (V := mv σ) (Eq.trans (if_pos (by first | assumption | ((try simp only [rng, mayQ, tI_lt, tI_eq, cvr_0, mvr_0, cvr_c, mvr_c, tl_0, tl_1, tl_2, tl_3, tl_4, tl_5, tl_6, tl_7, tl_8, tl_9, tl_10, tl_11, tl_12, tl_13, tl_99, tl_400] at h1 h2 h3 h4 h5 ⊢) <;> omega))) (Eq.trans (congrArg (fun z => (aheadS z what (mv σ 0), mv σ)) (nI_clamp (by omega))) (congrArg (fun z => (z, mv σ)) (show aheadS q what (σ 10) = ((stepsG (σ 10) q) 10) - (σ 10 10) from (by simp [aheadS, h3, h4, h5]))))) (by rw [mv_v11]) (by rw [cv_v11]) rfl) dX8_ahead_108
          · refine x_aload_n C 0 dX8_ahead_83 rfl rfl ?_
            refine x_get C (Nat.le_of_ble_eq_true rfl) xd_81 fl_X8_13 (q := (0, 83, 0)) (v := .ref (xad E (83))) rfl rfl dX8_ahead_84 ?_
            refine x_callSi C (As := [.ref (xad E (83))]) (rest := []) (cM_allWater l E σ τ 11 (by decide) (stepsG (σ 10) q)) ks_X8_116 ⟨Nat.le_of_ble_eq_true rfl, Nat.le_of_ble_eq_true rfl⟩ rfl rfl (Nat.le_of_ble_eq_true rfl) dX8_ahead_87 ?_
            refine x_goto2 C (tgt := 108) dX8_ahead_90 (by decide) ?_
            exact x_oret C (mpost_of (V := mv σ) (Eq.trans (if_pos (by first | assumption | ((try simp only [rng, mayQ, tI_lt, tI_eq, cvr_0, mvr_0, cvr_c, mvr_c, tl_0, tl_1, tl_2, tl_3, tl_4, tl_5, tl_6, tl_7, tl_8, tl_9, tl_10, tl_11, tl_12, tl_13, tl_99, tl_400] at h1 h2 h3 h4 h5 ⊢) <;> omega))) (Eq.trans (congrArg (fun z => (aheadS z what (mv σ 0), mv σ)) (nI_clamp (by omega))) (congrArg (fun z => (z, mv σ)) (show aheadS q what (σ 10) = waterN (stepsG (σ 10) q) 12 from (by simp [aheadS, h3, h4, h5]))))) (by rw [mv_v11]) (by rw [cv_v11]) rfl) dX8_ahead_108
        · refine x_aload_n C 0 dX8_ahead_69 rfl rfl ?_
          refine x_get C (Nat.le_of_ble_eq_true rfl) xd_81 fl_X8_13 (q := (0, 83, 0)) (v := .ref (xad E (83))) rfl rfl dX8_ahead_70 ?_
          refine x_iconst C (v := 5) dX8_ahead_73 (by decide) ?_
          refine x_ald C (Nat.le_of_ble_eq_true rfl) xd_83 (v := (stepsG (σ 10) q) 5) (vp_in_nI (show 5 < 284 by omega) (by decide)) (by rw [(show (5 : Int32).toNatClampNeg = 5 from by decide), Nat.zero_add, Nat.one_mul]; exact (congrFun (va_up_self _ _ _) _)) dX8_ahead_74 ?_
          refine x_goto2 C (tgt := 108) dX8_ahead_75 (by decide) ?_
          exact x_oret C (mpost_of (V := mv σ) (Eq.trans (if_pos (by first | assumption | ((try simp only [rng, mayQ, tI_lt, tI_eq, cvr_0, mvr_0, cvr_c, mvr_c, tl_0, tl_1, tl_2, tl_3, tl_4, tl_5, tl_6, tl_7, tl_8, tl_9, tl_10, tl_11, tl_12, tl_13, tl_99, tl_400] at h1 h2 h3 h4 ⊢) <;> omega))) (Eq.trans (congrArg (fun z => (aheadS z what (mv σ 0), mv σ)) (nI_clamp (by omega))) (congrArg (fun z => (z, mv σ)) (show aheadS q what (σ 10) = (stepsG (σ 10) q) 5 from (by simp [aheadS, h3, h4]))))) (by rw [mv_v11]) (by rw [cv_v11]) rfl) dX8_ahead_108
      · refine x_aload_n C 0 dX8_ahead_55 rfl rfl ?_
        refine x_get C (Nat.le_of_ble_eq_true rfl) xd_81 fl_X8_13 (q := (0, 83, 0)) (v := .ref (xad E (83))) rfl rfl dX8_ahead_56 ?_
        refine x_iconst C (v := 4) dX8_ahead_59 (by decide) ?_
        refine x_ald C (Nat.le_of_ble_eq_true rfl) xd_83 (v := (stepsG (σ 10) q) 4) (vp_in_nI (show 4 < 284 by omega) (by decide)) (by rw [(show (4 : Int32).toNatClampNeg = 4 from by decide), Nat.zero_add, Nat.one_mul]; exact (congrFun (va_up_self _ _ _) _)) dX8_ahead_60 ?_
        refine x_goto2 C (tgt := 108) dX8_ahead_61 (by decide) ?_
        exact x_oret C (mpost_of (V := mv σ) (Eq.trans (if_pos (by first | assumption | ((try simp only [rng, mayQ, tI_lt, tI_eq, cvr_0, mvr_0, cvr_c, mvr_c, tl_0, tl_1, tl_2, tl_3, tl_4, tl_5, tl_6, tl_7, tl_8, tl_9, tl_10, tl_11, tl_12, tl_13, tl_99, tl_400] at h1 h2 h3 ⊢) <;> omega))) (Eq.trans (congrArg (fun z => (aheadS z what (mv σ 0), mv σ)) (nI_clamp (by omega))) (congrArg (fun z => (z, mv σ)) (show aheadS q what (σ 10) = (stepsG (σ 10) q) 4 from (by simp [aheadS, h3]))))) (by rw [mv_v11]) (by rw [cv_v11]) rfl) dX8_ahead_108
    · refine x_aload_n C 0 dX8_ahead_24 rfl rfl ?_
      refine x_ldc C dX8_ahead_25 kc_X8_46 ?_
      refine x_callVi C (As := [.int ((-1000001))]) (rest := []) (c_finds l E σ τ 0 (by decide) (-1000001) (by decide)) kv_X8_61 (x_recv C (Nat.le_of_ble_eq_true rfl) xd_81 rfl) ⟨Nat.le_of_ble_eq_true rfl, Nat.le_of_ble_eq_true rfl⟩ rfl rfl (Nat.le_of_ble_eq_true rfl) dX8_ahead_27 ?_
      exact x_oret C (mpost_of (V := u2 (mv σ) 2 0 (σ 14 0 + 1)) (if_neg (by first | assumption | ((try simp only [rng, mayQ, tI_lt, tI_eq, cvr_0, mvr_0, cvr_c, mvr_c, tl_0, tl_1, tl_2, tl_3, tl_4, tl_5, tl_6, tl_7, tl_8, tl_9, tl_10, tl_11, tl_12, tl_13, tl_99, tl_400] at h1 h2 ⊢) <;> omega))) (by rw [mv_u14]) (by rw [cv_u14]) rfl) dX8_ahead_30
set_option maxHeartbeats 4000000 in
set_option maxRecDepth 100000 in
theorem k_apart (l : Launch) (E : xE) (σ : Nat → Nat → Int32) (τ : Nat → Int64) (T : Nat) (hT : T < 1073741824) (y n : Int32) (hI : Inv (cv σ) T) : xOi l yX7_apart cX7_apart 3 .int 5 112 E [.ref (xad E (0)), .int (y), .int (n)] σ τ (cpost (sp_apart y n (cv σ)) σ) := by
  refine xOi_of (own := RX7) (by decide +kernel) rfl (Nat.le_of_ble_eq_true rfl) ?_
  intro zp ze zs zm za zb zh zc C
  refine WM.to (lv1 := [(0, .ref (xad E (0))), (1, .int (y)), (2, .int (n))]) (st1 := []) (σ1 := σ) (τ1 := τ) ?_ rfl rfl rfl rfl
  have hg : gI (σ 0) := hI.g
  have hgT : gT (σ 0) T := hI.t
  have h0 : 0 ≤ (σ 0 10).toInt := hI.h0
  refine x_iload_n C 1 dX7_apart_0 rfl rfl ?_
  refine x_callSi C (As := [.int (y)]) (rest := []) (c_isTouch l E σ τ y) ks_X7_97 ⟨Nat.le_of_ble_eq_true rfl, Nat.le_of_ble_eq_true rfl⟩ rfl rfl (Nat.le_of_ble_eq_true rfl) dX7_apart_1 ?_
  refine x_ifeqB C (tgt := 14) dX7_apart_4 (by decide) (fun h1 => ?_) (fun h1 => ?_)
  · refine x_aload_n C 0 dX7_apart_14 rfl rfl ?_
    refine x_ldc C dX7_apart_15 kc_X7_63 ?_
    refine x_callVi C (As := [.int ((-1000001))]) (rest := []) (c_finding l E σ τ 0 (by decide) (-1000001) (by decide)) kv_X7_64 (x_recv C (Nat.le_of_ble_eq_true rfl) xd_0 rfl) ⟨Nat.le_of_ble_eq_true rfl, Nat.le_of_ble_eq_true rfl⟩ rfl rfl (Nat.le_of_ble_eq_true rfl) dX7_apart_17 ?_
    exact x_oret C (cpost_of (V := u2 (cv σ) 2 0 (σ 4 0 + 1)) (if_neg (by first | assumption | ((try simp only [rng, mayQ, tI_lt, tI_eq, cvr_0, mvr_0, cvr_c, mvr_c, tl_0, tl_1, tl_2, tl_3, tl_4, tl_5, tl_6, tl_7, tl_8, tl_9, tl_10, tl_11, tl_12, tl_13, tl_99, tl_200, tl_400, tn_200] at h1 ⊢) <;> omega))) (by rw [cv_u4]) (by rw [mv_u4]) rfl) dX7_apart_20
  · refine x_iload_n C 2 dX7_apart_7 rfl rfl ?_
    refine x_callSi C (As := [.int (n)]) (rest := []) (c_isAhead l E σ τ n) ks_X7_187 ⟨Nat.le_of_ble_eq_true rfl, Nat.le_of_ble_eq_true rfl⟩ rfl rfl (Nat.le_of_ble_eq_true rfl) dX7_apart_8 ?_
    refine x_ifneB C (tgt := 21) dX7_apart_11 (by decide) (fun h2 => ?_) (fun h2 => ?_)
    · obtain ⟨q, hqa, hqb, rfl⟩ := rngN (a := 0) (b := 400) h2 (by decide) (by decide) (by decide)
      refine x_aload_n C 0 dX7_apart_21 rfl rfl ?_
      refine x_iload_n C 1 dX7_apart_22 rfl rfl ?_
      refine x_callVv C (As := [.int (y)]) (rest := []) (c_twoBegin l E σ τ y) kv_X7_197 (x_recv C (Nat.le_of_ble_eq_true rfl) xd_0 rfl) ⟨Nat.le_of_ble_eq_true rfl, Nat.le_of_ble_eq_true rfl⟩ rfl rfl (Nat.le_of_ble_eq_true rfl) dX7_apart_23 ?_
      refine x_aload_n C 0 dX7_apart_26 rfl rfl ?_
      refine x_get C (Nat.le_of_ble_eq_true rfl) xd_0 fl_X7_40 (q := (0, 59, 0)) (v := .ref (xad E (59))) rfl rfl dX7_apart_27 ?_
      refine x_iload_n C 2 dX7_apart_30 rfl rfl ?_
      refine WM.to (σ1 := va_up (va_up σ 3 (touchG (σ 0) y)) 2 (σ 0)) ?_ (xswap (by decide)) rfl rfl rfl
      refine x_callVv C (As := [.int (nI q)]) (rest := []) (cW_steps l E (va_up σ 3 (touchG (σ 0) y)) τ 2 (by decide) (σ 0) q T (by omega) hg hgT (by omega)) kv_X7_111 (x_recv C (Nat.le_of_ble_eq_true rfl) xd_59 rfl) ⟨Nat.le_of_ble_eq_true rfl, Nat.le_of_ble_eq_true rfl⟩ rfl rfl (Nat.le_of_ble_eq_true rfl) dX7_apart_31 ?_
      refine x_aload_n C 0 dX7_apart_34 rfl rfl ?_
      refine x_get C (Nat.le_of_ble_eq_true rfl) xd_0 fl_X7_44 (q := (0, 65, 0)) (v := .ref (xad E (65))) rfl rfl dX7_apart_35 ?_
      refine x_iload_n C 2 dX7_apart_38 rfl rfl ?_
      refine WM.to (σ1 := va_up (va_up σ 2 (stepsG (σ 0) q)) 3 (touchG (σ 0) y)) ?_ (xswap (by decide)) rfl rfl rfl
      refine x_callVv C (As := [.int (nI q)]) (rest := []) (cW_steps l E (va_up σ 2 (stepsG (σ 0) q)) τ 3 (by decide) (touchG (σ 0) y) q T (by omega) (gI_touch hg _) (gT_touch hgT _) (by omega)) kv_X7_111 (x_recv C (Nat.le_of_ble_eq_true rfl) xd_65 rfl) ⟨Nat.le_of_ble_eq_true rfl, Nat.le_of_ble_eq_true rfl⟩ rfl rfl (Nat.le_of_ble_eq_true rfl) dX7_apart_39 ?_
      refine x_aload_n C 0 dX7_apart_42 rfl rfl ?_
      refine x_callVi C (As := []) (rest := []) (c_diff l E (va_up (va_up σ 2 (stepsG (σ 0) q)) 3 (stepsG (touchG (σ 0) y) q)) τ ((stepsG (σ 0) q) 4) ((stepsG (touchG (σ 0) y) q) 4) (Eq.trans (congrFun (va_up_ne _ (j := 2) (k := 3) _ (by decide)) _) (congrFun (va_up_self _ _ _) _)) (congrFun (va_up_self _ _ _) _)) kv_X7_200 (x_recv C (Nat.le_of_ble_eq_true rfl) xd_0 rfl) ⟨Nat.le_of_ble_eq_true rfl, Nat.le_of_ble_eq_true rfl⟩ rfl rfl (Nat.le_of_ble_eq_true rfl) dX7_apart_43 ?_
      exact x_oret C (cpost_of (V := cv σ) (Eq.trans (if_pos (by first | assumption | ((try simp only [rng, mayQ, tI_lt, tI_eq, cvr_0, mvr_0, cvr_c, mvr_c, tl_0, tl_1, tl_2, tl_3, tl_4, tl_5, tl_6, tl_7, tl_8, tl_9, tl_10, tl_11, tl_12, tl_13, tl_99, tl_200, tl_400, tn_200] at h1 h2 ⊢) <;> omega))) (congrArg (fun z => (apartS (cv σ 0) y z, cv σ)) (nI_clamp (by omega)))) (by rw [cv_v3, cv_v2]) (by rw [mv_v3, mv_v2]) rfl) dX7_apart_46
    · refine x_aload_n C 0 dX7_apart_14 rfl rfl ?_
      refine x_ldc C dX7_apart_15 kc_X7_63 ?_
      refine x_callVi C (As := [.int ((-1000001))]) (rest := []) (c_finding l E σ τ 0 (by decide) (-1000001) (by decide)) kv_X7_64 (x_recv C (Nat.le_of_ble_eq_true rfl) xd_0 rfl) ⟨Nat.le_of_ble_eq_true rfl, Nat.le_of_ble_eq_true rfl⟩ rfl rfl (Nat.le_of_ble_eq_true rfl) dX7_apart_17 ?_
      exact x_oret C (cpost_of (V := u2 (cv σ) 2 0 (σ 4 0 + 1)) (if_neg (by first | assumption | ((try simp only [rng, mayQ, tI_lt, tI_eq, cvr_0, mvr_0, cvr_c, mvr_c, tl_0, tl_1, tl_2, tl_3, tl_4, tl_5, tl_6, tl_7, tl_8, tl_9, tl_10, tl_11, tl_12, tl_13, tl_99, tl_200, tl_400, tn_200] at h1 h2 ⊢) <;> omega))) (by rw [cv_u4]) (by rw [mv_u4]) rfl) dX7_apart_20
set_option maxHeartbeats 4000000 in
set_option maxRecDepth 100000 in
theorem m_apart (l : Launch) (E : xE) (σ : Nat → Nat → Int32) (τ : Nat → Int64) (T : Nat) (hT : T < 1073741824) (y n : Int32) (hI : Inv (mv σ) T) (hlv : ∀ j, j < 12 → σ 15 j = (xzl 1).getD j 0) : xOi l yX8_apart cX8_apart 3 .int 4 92 E [.ref (xad E (81)), .int (y), .int (n)] σ τ (mpost (sp_apart y n (mv σ)) σ) := by
  refine xOi_of (own := RX8) (by decide +kernel) rfl (Nat.le_of_ble_eq_true rfl) ?_
  intro zp ze zs zm za zb zh zc C
  refine WM.to (lv1 := [(0, .ref (xad E (81))), (1, .int (y)), (2, .int (n))]) (st1 := []) (σ1 := σ) (τ1 := τ) ?_ rfl rfl rfl rfl
  have hg : gI (σ 10) := hI.g
  have hgT : gT (σ 10) T := hI.t
  have h0 : 0 ≤ (σ 10 10).toInt := hI.h0
  refine x_iload_n C 1 dX8_apart_0 rfl rfl ?_
  refine x_i2l C dX8_apart_1 ?_
  refine x_ldc2 C dX8_apart_2 kc_X8_90 ?_
  refine x_ldc2 C dX8_apart_5 kc_X8_92 ?_
  refine x_callSi C (As := [.long (Int32.toInt64 y), .long ((-200)), .long (200)]) (rest := []) (c_in l E σ τ (Int32.toInt64 y) (-200) 200) ks_X8_49 ⟨Nat.le_of_ble_eq_true rfl, Nat.le_of_ble_eq_true rfl⟩ rfl rfl (Nat.le_of_ble_eq_true rfl) dX8_apart_8 ?_
  refine WM.topi (y := if rng y (-200) 200 then 1 else 0) (in_eq y (-200) 200 (by decide) (by decide)) ?_
  refine x_ifeqB C (tgt := 26) dX8_apart_11 (by decide) (fun h1 => ?_) (fun h1 => ?_)
  · refine x_aload_n C 0 dX8_apart_26 rfl rfl ?_
    refine x_ldc C dX8_apart_27 kc_X8_46 ?_
    refine x_callVi C (As := [.int ((-1000001))]) (rest := []) (c_finds l E σ τ 0 (by decide) (-1000001) (by decide)) kv_X8_61 (x_recv C (Nat.le_of_ble_eq_true rfl) xd_81 rfl) ⟨Nat.le_of_ble_eq_true rfl, Nat.le_of_ble_eq_true rfl⟩ rfl rfl (Nat.le_of_ble_eq_true rfl) dX8_apart_29 ?_
    exact x_oret C (mpost_of (V := u2 (mv σ) 2 0 (σ 14 0 + 1)) (if_neg (by first | assumption | ((try simp only [rng, mayQ, tI_lt, tI_eq, cvr_0, mvr_0, cvr_c, mvr_c, tl_0, tl_1, tl_2, tl_3, tl_4, tl_5, tl_6, tl_7, tl_8, tl_9, tl_10, tl_11, tl_12, tl_13, tl_99, tl_200, tl_400, tn_200] at h1 ⊢) <;> omega))) (by rw [mv_u14]) (by rw [cv_u14]) rfl) dX8_apart_32
  · refine x_iload_n C 2 dX8_apart_14 rfl rfl ?_
    refine x_i2l C dX8_apart_15 ?_
    refine x_lconst C (v := 0) dX8_apart_16 (by decide) ?_
    refine x_ldc2 C dX8_apart_17 kc_X8_231 ?_
    refine x_callSi C (As := [.long (Int32.toInt64 n), .long (0), .long (400)]) (rest := []) (c_in l E σ τ (Int32.toInt64 n) 0 400) ks_X8_49 ⟨Nat.le_of_ble_eq_true rfl, Nat.le_of_ble_eq_true rfl⟩ rfl rfl (Nat.le_of_ble_eq_true rfl) dX8_apart_20 ?_
    refine WM.topi (y := if rng n 0 400 then 1 else 0) (in_eq n 0 400 (by decide) (by decide)) ?_
    refine x_ifneB C (tgt := 33) dX8_apart_23 (by decide) (fun h2 => ?_) (fun h2 => ?_)
    · have hy := rngI (a := -200) (b := 200) h1 (by decide) (by decide)
      obtain ⟨q, hqa, hqb, rfl⟩ := rngN (a := 0) (b := 400) h2 (by decide) (by decide) (by decide)
      refine x_aload_n C 0 dX8_apart_33 rfl rfl ?_
      refine x_iload_n C 1 dX8_apart_34 rfl rfl ?_
      refine x_callVv C (As := [.int (y)]) (rest := []) (c_mtwo l E σ τ y hg hy) kv_X8_239 (x_recv C (Nat.le_of_ble_eq_true rfl) xd_81 rfl) ⟨Nat.le_of_ble_eq_true rfl, Nat.le_of_ble_eq_true rfl⟩ rfl rfl (Nat.le_of_ble_eq_true rfl) dX8_apart_35 ?_
      refine x_aload_n C 0 dX8_apart_38 rfl rfl ?_
      refine x_aload_n C 0 dX8_apart_39 rfl rfl ?_
      refine x_get C (Nat.le_of_ble_eq_true rfl) xd_81 fl_X8_13 (q := (0, 83, 0)) (v := .ref (xad E (83))) rfl rfl dX8_apart_40 ?_
      refine x_iload_n C 2 dX8_apart_43 rfl rfl ?_
      refine WM.to (σ1 := va_up (va_up σ 12 (touchG (σ 10) y)) 11 (σ 10)) ?_ (xswap (by decide)) rfl rfl rfl
      refine x_callVv C (As := [.ref (xad E (83)), .int (nI q)]) (rest := []) (cM_goesOn l E (va_up σ 12 (touchG (σ 10) y)) τ 11 (by decide) (σ 10) q T (by omega) hg hgT (by omega) hlv) kv_X8_113 (x_recv C (Nat.le_of_ble_eq_true rfl) xd_81 rfl) ⟨Nat.le_of_ble_eq_true rfl, Nat.le_of_ble_eq_true rfl⟩ rfl rfl (Nat.le_of_ble_eq_true rfl) dX8_apart_44 ?_
      refine x_aload_n C 0 dX8_apart_47 rfl rfl ?_
      refine x_aload_n C 0 dX8_apart_48 rfl rfl ?_
      refine x_get C (Nat.le_of_ble_eq_true rfl) xd_81 fl_X8_16 (q := (0, 84, 0)) (v := .ref (xad E (84))) rfl rfl dX8_apart_49 ?_
      refine x_iload_n C 2 dX8_apart_52 rfl rfl ?_
      refine WM.to (σ1 := va_up (va_up σ 11 (stepsG (σ 10) q)) 12 (touchG (σ 10) y)) ?_ (xswap (by decide)) rfl rfl rfl
      refine x_callVv C (As := [.ref (xad E (84)), .int (nI q)]) (rest := []) (cM_goesOn l E (va_up σ 11 (stepsG (σ 10) q)) τ 12 (by decide) (touchG (σ 10) y) q T (by omega) (gI_touch hg _) (gT_touch hgT _) (by omega) hlv) kv_X8_113 (x_recv C (Nat.le_of_ble_eq_true rfl) xd_81 rfl) ⟨Nat.le_of_ble_eq_true rfl, Nat.le_of_ble_eq_true rfl⟩ rfl rfl (Nat.le_of_ble_eq_true rfl) dX8_apart_53 ?_
      refine x_aload_n C 0 dX8_apart_56 rfl rfl ?_
      refine x_get C (Nat.le_of_ble_eq_true rfl) xd_81 fl_X8_13 (q := (0, 83, 0)) (v := .ref (xad E (83))) rfl rfl dX8_apart_57 ?_
      refine x_aload_n C 0 dX8_apart_60 rfl rfl ?_
      refine x_get C (Nat.le_of_ble_eq_true rfl) xd_81 fl_X8_16 (q := (0, 84, 0)) (v := .ref (xad E (84))) rfl rfl dX8_apart_61 ?_
      refine x_callSi C (As := [.ref (xad E (83)), .ref (xad E (84))]) (rest := []) (c_mdiff l E (va_up (va_up σ 11 (stepsG (σ 10) q)) 12 (stepsG (touchG (σ 10) y) q)) τ ((stepsG (σ 10) q) 4) ((stepsG (touchG (σ 10) y) q) 4) (Eq.trans (congrFun (va_up_ne _ (j := 11) (k := 12) _ (by decide)) _) (congrFun (va_up_self _ _ _) _)) (congrFun (va_up_self _ _ _) _)) ks_X8_242 ⟨Nat.le_of_ble_eq_true rfl, Nat.le_of_ble_eq_true rfl⟩ rfl rfl (Nat.le_of_ble_eq_true rfl) dX8_apart_64 ?_
      exact x_oret C (mpost_of (V := mv σ) (Eq.trans (if_pos (by first | assumption | ((try simp only [rng, mayQ, tI_lt, tI_eq, cvr_0, mvr_0, cvr_c, mvr_c, tl_0, tl_1, tl_2, tl_3, tl_4, tl_5, tl_6, tl_7, tl_8, tl_9, tl_10, tl_11, tl_12, tl_13, tl_99, tl_200, tl_400, tn_200] at h1 h2 ⊢) <;> omega))) (congrArg (fun z => (apartS (mv σ 0) y z, mv σ)) (nI_clamp (by omega)))) (by rw [mv_v12, mv_v11]) (by rw [cv_v12, cv_v11]) rfl) dX8_apart_67
    · refine x_aload_n C 0 dX8_apart_26 rfl rfl ?_
      refine x_ldc C dX8_apart_27 kc_X8_46 ?_
      refine x_callVi C (As := [.int ((-1000001))]) (rest := []) (c_finds l E σ τ 0 (by decide) (-1000001) (by decide)) kv_X8_61 (x_recv C (Nat.le_of_ble_eq_true rfl) xd_81 rfl) ⟨Nat.le_of_ble_eq_true rfl, Nat.le_of_ble_eq_true rfl⟩ rfl rfl (Nat.le_of_ble_eq_true rfl) dX8_apart_29 ?_
      exact x_oret C (mpost_of (V := u2 (mv σ) 2 0 (σ 14 0 + 1)) (if_neg (by first | assumption | ((try simp only [rng, mayQ, tI_lt, tI_eq, cvr_0, mvr_0, cvr_c, mvr_c, tl_0, tl_1, tl_2, tl_3, tl_4, tl_5, tl_6, tl_7, tl_8, tl_9, tl_10, tl_11, tl_12, tl_13, tl_99, tl_200, tl_400, tn_200] at h1 h2 ⊢) <;> omega))) (by rw [mv_u14]) (by rw [cv_u14]) rfl) dX8_apart_32
set_option maxHeartbeats 4000000 in
set_option maxRecDepth 100000 in
theorem k_parts (l : Launch) (E : xE) (σ : Nat → Nat → Int32) (τ : Nat → Int64) (T : Nat) (hT : T < 1073741824) (y most : Int32) (hI : Inv (cv σ) T) : xOi l yX7_parts cX7_parts 4 .int 4 102 E [.ref (xad E (0)), .int (y), .int (most)] σ τ (cpost (sp_parts y most (cv σ)) σ) := by
  refine xOi_of (own := RX7) (by decide +kernel) rfl (Nat.le_of_ble_eq_true rfl) ?_
  intro zp ze zs zm za zb zh zc C
  refine WM.to (lv1 := [(0, .ref (xad E (0))), (1, .int (y)), (2, .int (most))]) (st1 := []) (σ1 := σ) (τ1 := τ) ?_ rfl rfl rfl rfl
  have hg : gI (σ 0) := hI.g
  have hgT : gT (σ 0) T := hI.t
  have h0 : 0 ≤ (σ 0 10).toInt := hI.h0
  refine x_iload_n C 1 dX7_parts_0 rfl rfl ?_
  refine x_callSi C (As := [.int (y)]) (rest := []) (c_isTouch l E σ τ y) ks_X7_97 ⟨Nat.le_of_ble_eq_true rfl, Nat.le_of_ble_eq_true rfl⟩ rfl rfl (Nat.le_of_ble_eq_true rfl) dX7_parts_1 ?_
  refine x_ifeqB C (tgt := 18) dX7_parts_4 (by decide) (fun h1 => ?_) (fun h1 => ?_)
  · refine x_aload_n C 0 dX7_parts_18 rfl rfl ?_
    refine x_ldc C dX7_parts_19 kc_X7_63 ?_
    refine x_callVi C (As := [.int ((-1000001))]) (rest := []) (c_finding l E σ τ 0 (by decide) (-1000001) (by decide)) kv_X7_64 (x_recv C (Nat.le_of_ble_eq_true rfl) xd_0 rfl) ⟨Nat.le_of_ble_eq_true rfl, Nat.le_of_ble_eq_true rfl⟩ rfl rfl (Nat.le_of_ble_eq_true rfl) dX7_parts_21 ?_
    exact x_oret C (cpost_of (V := u2 (cv σ) 2 0 (σ 4 0 + 1)) (if_neg (by first | assumption | ((try simp only [rng, mayQ, tI_lt, tI_eq, cvr_0, mvr_0, cvr_c, mvr_c, tl_0, tl_1, tl_2, tl_3, tl_4, tl_5, tl_6, tl_7, tl_8, tl_9, tl_10, tl_11, tl_12, tl_13, tl_99, tl_200, tl_400, tl_1200, tn_200] at h1 ⊢) <;> omega))) (by rw [cv_u4]) (by rw [mv_u4]) rfl) dX7_parts_24
  · refine x_iload_n C 2 dX7_parts_7 rfl rfl ?_
    refine x_iconst C (v := 1) dX7_parts_8 (by decide) ?_
    refine x_sipush C (v := 1200) dX7_parts_9 (by decide) ?_
    refine x_callSi C (As := [.int (most), .int (1), .int (1200)]) (rest := []) (c_within l E σ τ most 1 1200) ks_X7_59 ⟨Nat.le_of_ble_eq_true rfl, Nat.le_of_ble_eq_true rfl⟩ rfl rfl (Nat.le_of_ble_eq_true rfl) dX7_parts_12 ?_
    refine x_ifneB C (tgt := 25) dX7_parts_15 (by decide) (fun h2 => ?_) (fun h2 => ?_)
    · refine x_aload_n C 0 dX7_parts_25 rfl rfl ?_
      refine x_iload_n C 1 dX7_parts_26 rfl rfl ?_
      refine x_callVv C (As := [.int (y)]) (rest := []) (c_twoBegin l E σ τ y) kv_X7_197 (x_recv C (Nat.le_of_ble_eq_true rfl) xd_0 rfl) ⟨Nat.le_of_ble_eq_true rfl, Nat.le_of_ble_eq_true rfl⟩ rfl rfl (Nat.le_of_ble_eq_true rfl) dX7_parts_27 ?_
      refine x_iconst C (v := 0) dX7_parts_30 (by decide) ?_
      refine x_istore_n C (lv1 := [(3, .int (0)), (0, .ref (xad E (0))), (1, .int (y)), (2, .int (most))]) dX7_parts_31 rfl (by decide) rfl ?_
      have loop : ∀ (j k : Nat), j + k = 401 → (∀ i, i < k → ¬ (¬ apartS (σ 0) y i < most)) → WM zp l ze { frames := 4, cells := 0, slots := 0, locals := 102 } zs zm za zb zh zc 0 0 (MQ zb (va_Qi (fun r (u : xV × (Nat → Int64)) => (cpost (sp_parts y most (cv σ)) σ) r u.1) (fun u t => xP E u.1 u.2 t.heap) (xA E)) za zs 0 0 (xA E)) E (xA E) 4 (va_up (va_up σ 2 (stepsG (σ 0) k)) 3 (stepsG (touchG (σ 0) y) k)) (τ) 32 [(0, .ref (xad E (0))), (1, .int (y)), (2, .int (most)), (3, .int (nI k))] [] := by
        intro j
        induction j with
        | zero =>
          intro k hk hnf
          refine x_iload_n C 3 dX7_parts_32 rfl rfl ?_
          refine x_sipush C (v := 400) dX7_parts_33 (by decide) ?_
          refine x_icmp_gt C (tgt := 69) dX7_parts_36 (by decide) (fun h3 => ?_) (fun h3 => absurd (nI_lt (a := 400) (b := k) (by omega) (by omega)) h3)
          refine x_aload_n C 0 dX7_parts_69 rfl rfl ?_
          refine x_ldc C dX7_parts_70 kc_X7_145 ?_
          refine x_callVi C (As := [.int ((-1000004))]) (rest := []) (c_finding l E (va_up (va_up σ 2 (stepsG (σ 0) k)) 3 (stepsG (touchG (σ 0) y) k)) τ 3 (by decide) (-1000004) (by decide)) kv_X7_64 (x_recv C (Nat.le_of_ble_eq_true rfl) xd_0 rfl) ⟨Nat.le_of_ble_eq_true rfl, Nat.le_of_ble_eq_true rfl⟩ rfl rfl (Nat.le_of_ble_eq_true rfl) dX7_parts_72 ?_
          exact x_oret C (cpost_of (V := u2 (cv σ) 2 3 ((va_up (va_up σ 2 (stepsG (σ 0) k)) 3 (stepsG (touchG (σ 0) y) k)) 4 3 + 1)) (Eq.trans (if_pos (by first | assumption | ((try simp only [rng, mayQ, tI_lt, tI_eq, cvr_0, mvr_0, cvr_c, mvr_c, tl_0, tl_1, tl_2, tl_3, tl_4, tl_5, tl_6, tl_7, tl_8, tl_9, tl_10, tl_11, tl_12, tl_13, tl_99, tl_200, tl_400, tl_1200, tn_200] at h1 h2 ⊢) <;> omega))) (find_no (P := fun i => ¬ apartS (σ 0) y i < most) hnf (by omega))) (by rw [cv_u4, cv_v3, cv_v2]) (by rw [mv_u4, mv_v3, mv_v2]) rfl) dX7_parts_75
        | succ j ih =>
          intro k hk hnf
          refine x_iload_n C 3 dX7_parts_32 rfl rfl ?_
          refine x_sipush C (v := 400) dX7_parts_33 (by decide) ?_
          refine x_icmp_gt C (tgt := 69) dX7_parts_36 (by decide) (fun h4 => absurd h4 (nI_nlt (a := 400) (b := k) (by omega) (by omega))) (fun h4 => ?_)
          refine x_aload_n C 0 dX7_parts_39 rfl rfl ?_
          refine x_callVi C (As := []) (rest := []) (c_diff l E (va_up (va_up σ 2 (stepsG (σ 0) k)) 3 (stepsG (touchG (σ 0) y) k)) τ ((stepsG (σ 0) k) 4) ((stepsG (touchG (σ 0) y) k) 4) (Eq.trans (congrFun (va_up_ne _ (j := 2) (k := 3) _ (by decide)) _) (congrFun (va_up_self _ _ _) _)) (congrFun (va_up_self _ _ _) _)) kv_X7_200 (x_recv C (Nat.le_of_ble_eq_true rfl) xd_0 rfl) ⟨Nat.le_of_ble_eq_true rfl, Nat.le_of_ble_eq_true rfl⟩ rfl rfl (Nat.le_of_ble_eq_true rfl) dX7_parts_40 ?_
          refine x_iload_n C 2 dX7_parts_43 rfl rfl ?_
          refine x_icmp_lt C (tgt := 49) dX7_parts_44 (by decide) (fun h5 => ?_) (fun h5 => ?_)
          · refine x_aload_n C 0 dX7_parts_49 rfl rfl ?_
            refine x_get C (Nat.le_of_ble_eq_true rfl) xd_0 fl_X7_40 (q := (0, 59, 0)) (v := .ref (xad E (59))) rfl rfl dX7_parts_50 ?_
            refine WM.to (σ1 := va_up (va_up σ 3 (stepsG (touchG (σ 0) y) k)) 2 (stepsG (σ 0) k)) ?_ (xswap (by decide)) rfl rfl rfl
            refine x_callVv C (As := []) (rest := []) (cW_step l E (va_up σ 3 (stepsG (touchG (σ 0) y) k)) τ 2 (by decide) (stepsG (σ 0) k) (gI_steps hg k) (gT_steps hgT k (by omega)).1) kv_X7_203 (x_recv C (Nat.le_of_ble_eq_true rfl) xd_59 rfl) ⟨Nat.le_of_ble_eq_true rfl, Nat.le_of_ble_eq_true rfl⟩ rfl rfl (Nat.le_of_ble_eq_true rfl) dX7_parts_53 ?_
            refine x_aload_n C 0 dX7_parts_56 rfl rfl ?_
            refine x_get C (Nat.le_of_ble_eq_true rfl) xd_0 fl_X7_44 (q := (0, 65, 0)) (v := .ref (xad E (65))) rfl rfl dX7_parts_57 ?_
            refine WM.to (σ1 := va_up (va_up σ 2 (stepG (stepsG (σ 0) k))) 3 (stepsG (touchG (σ 0) y) k)) ?_ (xswap (by decide)) rfl rfl rfl
            refine x_callVv C (As := []) (rest := []) (cW_step l E (va_up σ 2 (stepG (stepsG (σ 0) k))) τ 3 (by decide) (stepsG (touchG (σ 0) y) k) (gI_steps (gI_touch hg _) k) (gT_steps (gT_touch hgT _) k (by omega)).1) kv_X7_203 (x_recv C (Nat.le_of_ble_eq_true rfl) xd_65 rfl) ⟨Nat.le_of_ble_eq_true rfl, Nat.le_of_ble_eq_true rfl⟩ rfl rfl (Nat.le_of_ble_eq_true rfl) dX7_parts_60 ?_
            refine x_iinc C (v := nI (k + 1)) (lv1 := [(3, .int (nI (k + 1))), (0, .ref (xad E (0))), (1, .int (y)), (2, .int (most))]) 3 dX7_parts_63 rfl (nI_add k 1) (by decide) rfl ?_
            refine x_goto2 C (tgt := 32) dX7_parts_66 (by decide) ?_
            refine WM.keep [1, 2, 3, 0] (lv' := [(0, .ref (xad E (0))), (1, .int (y)), (2, .int (most)), (3, .int (nI (k + 1)))]) rfl ?_
            exact WM.to (ih (k + 1) (by omega) (hyp_s (P := fun i => ¬ apartS (σ 0) y i < most) hnf (Decidable.not_not.mpr h5))) rfl rfl rfl rfl
          · refine x_iload_n C 3 dX7_parts_47 rfl rfl ?_
            exact x_oret C (cpost_of (V := cv σ) (Eq.trans (if_pos (by first | assumption | ((try simp only [rng, mayQ, tI_lt, tI_eq, cvr_0, mvr_0, cvr_c, mvr_c, tl_0, tl_1, tl_2, tl_3, tl_4, tl_5, tl_6, tl_7, tl_8, tl_9, tl_10, tl_11, tl_12, tl_13, tl_99, tl_200, tl_400, tl_1200, tn_200] at h1 h2 ⊢) <;> omega))) (find_at (P := fun i => ¬ apartS (σ 0) y i < most) hnf h5 (by omega))) (by rw [cv_v3, cv_v2]) (by rw [mv_v3, mv_v2]) rfl) dX7_parts_48
      refine WM.keep [1, 2, 3, 0] rfl ?_
      exact WM.to (loop (401) 0 (by omega) (fun i hi => absurd hi (Nat.not_lt_zero i))) rfl rfl rfl rfl
    · refine x_aload_n C 0 dX7_parts_18 rfl rfl ?_
      refine x_ldc C dX7_parts_19 kc_X7_63 ?_
      refine x_callVi C (As := [.int ((-1000001))]) (rest := []) (c_finding l E σ τ 0 (by decide) (-1000001) (by decide)) kv_X7_64 (x_recv C (Nat.le_of_ble_eq_true rfl) xd_0 rfl) ⟨Nat.le_of_ble_eq_true rfl, Nat.le_of_ble_eq_true rfl⟩ rfl rfl (Nat.le_of_ble_eq_true rfl) dX7_parts_21 ?_
      exact x_oret C (cpost_of (V := u2 (cv σ) 2 0 (σ 4 0 + 1)) (if_neg (by first | assumption | ((try simp only [rng, mayQ, tI_lt, tI_eq, cvr_0, mvr_0, cvr_c, mvr_c, tl_0, tl_1, tl_2, tl_3, tl_4, tl_5, tl_6, tl_7, tl_8, tl_9, tl_10, tl_11, tl_12, tl_13, tl_99, tl_200, tl_400, tl_1200, tn_200] at h1 h2 ⊢) <;> omega))) (by rw [cv_u4]) (by rw [mv_u4]) rfl) dX7_parts_24
set_option maxHeartbeats 4000000 in
set_option maxRecDepth 100000 in
theorem m_parts (l : Launch) (E : xE) (σ : Nat → Nat → Int32) (τ : Nat → Int64) (T : Nat) (hT : T < 1073741824) (y most : Int32) (hI : Inv (mv σ) T) (hlv : ∀ j, j < 12 → σ 15 j = (xzl 1).getD j 0) : xOi l yX8_parts cX8_parts 4 .int 3 69 E [.ref (xad E (81)), .int (y), .int (most)] σ τ (mpost (sp_parts y most (mv σ)) σ) := by
  refine xOi_of (own := RX8) (by decide +kernel) rfl (Nat.le_of_ble_eq_true rfl) ?_
  intro zp ze zs zm za zb zh zc C
  refine WM.to (lv1 := [(0, .ref (xad E (81))), (1, .int (y)), (2, .int (most))]) (st1 := []) (σ1 := σ) (τ1 := τ) ?_ rfl rfl rfl rfl
  have hg : gI (σ 10) := hI.g
  have hgT : gT (σ 10) T := hI.t
  have h0 : 0 ≤ (σ 10 10).toInt := hI.h0
  refine x_iload_n C 1 dX8_parts_0 rfl rfl ?_
  refine x_i2l C dX8_parts_1 ?_
  refine x_ldc2 C dX8_parts_2 kc_X8_90 ?_
  refine x_ldc2 C dX8_parts_5 kc_X8_92 ?_
  refine x_callSi C (As := [.long (Int32.toInt64 y), .long ((-200)), .long (200)]) (rest := []) (c_in l E σ τ (Int32.toInt64 y) (-200) 200) ks_X8_49 ⟨Nat.le_of_ble_eq_true rfl, Nat.le_of_ble_eq_true rfl⟩ rfl rfl (Nat.le_of_ble_eq_true rfl) dX8_parts_8 ?_
  refine WM.topi (y := if rng y (-200) 200 then 1 else 0) (in_eq y (-200) 200 (by decide) (by decide)) ?_
  refine x_ifeqB C (tgt := 26) dX8_parts_11 (by decide) (fun h1 => ?_) (fun h1 => ?_)
  · refine x_aload_n C 0 dX8_parts_26 rfl rfl ?_
    refine x_ldc C dX8_parts_27 kc_X8_46 ?_
    refine x_callVi C (As := [.int ((-1000001))]) (rest := []) (c_finds l E σ τ 0 (by decide) (-1000001) (by decide)) kv_X8_61 (x_recv C (Nat.le_of_ble_eq_true rfl) xd_81 rfl) ⟨Nat.le_of_ble_eq_true rfl, Nat.le_of_ble_eq_true rfl⟩ rfl rfl (Nat.le_of_ble_eq_true rfl) dX8_parts_29 ?_
    exact x_oret C (mpost_of (V := u2 (mv σ) 2 0 (σ 14 0 + 1)) (if_neg (by first | assumption | ((try simp only [rng, mayQ, tI_lt, tI_eq, cvr_0, mvr_0, cvr_c, mvr_c, tl_0, tl_1, tl_2, tl_3, tl_4, tl_5, tl_6, tl_7, tl_8, tl_9, tl_10, tl_11, tl_12, tl_13, tl_99, tl_200, tl_400, tl_1200, tn_200] at h1 ⊢) <;> omega))) (by rw [mv_u14]) (by rw [cv_u14]) rfl) dX8_parts_32
  · refine x_iload_n C 2 dX8_parts_14 rfl rfl ?_
    refine x_i2l C dX8_parts_15 ?_
    refine x_lconst C (v := 1) dX8_parts_16 (by decide) ?_
    refine x_ldc2 C dX8_parts_17 kc_X8_246 ?_
    refine x_callSi C (As := [.long (Int32.toInt64 most), .long (1), .long (1200)]) (rest := []) (c_in l E σ τ (Int32.toInt64 most) 1 1200) ks_X8_49 ⟨Nat.le_of_ble_eq_true rfl, Nat.le_of_ble_eq_true rfl⟩ rfl rfl (Nat.le_of_ble_eq_true rfl) dX8_parts_20 ?_
    refine WM.topi (y := if rng most 1 1200 then 1 else 0) (in_eq most 1 1200 (by decide) (by decide)) ?_
    refine x_ifneB C (tgt := 33) dX8_parts_23 (by decide) (fun h2 => ?_) (fun h2 => ?_)
    · have hy := rngI (a := -200) (b := 200) h1 (by decide) (by decide)
      refine x_aload_n C 0 dX8_parts_33 rfl rfl ?_
      refine x_iload_n C 1 dX8_parts_34 rfl rfl ?_
      refine x_callVv C (As := [.int (y)]) (rest := []) (c_mtwo l E σ τ y hg hy) kv_X8_239 (x_recv C (Nat.le_of_ble_eq_true rfl) xd_81 rfl) ⟨Nat.le_of_ble_eq_true rfl, Nat.le_of_ble_eq_true rfl⟩ rfl rfl (Nat.le_of_ble_eq_true rfl) dX8_parts_35 ?_
      refine x_iconst C (v := 0) dX8_parts_38 (by decide) ?_
      refine x_istore_n C (lv1 := [(3, .int (0)), (0, .ref (xad E (81))), (1, .int (y)), (2, .int (most))]) dX8_parts_39 rfl (by decide) rfl ?_
      have loop : ∀ (j k : Nat), j + k = 401 → (∀ i, i < k → ¬ (¬ apartS (σ 10) y i < most)) → WM zp l ze { frames := 3, cells := 0, slots := 0, locals := 69 } zs zm za zb zh zc 0 0 (MQ zb (va_Qi (fun r (u : xV × (Nat → Int64)) => (mpost (sp_parts y most (mv σ)) σ) r u.1) (fun u t => xP E u.1 u.2 t.heap) (xA E)) za zs 0 0 (xA E)) E (xA E) 4 (va_up (va_up σ 11 (stepsG (σ 10) k)) 12 (stepsG (touchG (σ 10) y) k)) (τ) 40 [(0, .ref (xad E (81))), (1, .int (y)), (2, .int (most)), (3, .int (nI k))] [] := by
        intro j
        induction j with
        | zero =>
          intro k hk hnf
          refine x_iload_n C 3 dX8_parts_40 rfl rfl ?_
          refine x_sipush C (v := 400) dX8_parts_41 (by decide) ?_
          refine x_icmp_gt C (tgt := 86) dX8_parts_44 (by decide) (fun h3 => ?_) (fun h3 => absurd (nI_lt (a := 400) (b := k) (by omega) (by omega)) h3)
          refine x_aload_n C 0 dX8_parts_86 rfl rfl ?_
          refine x_ldc C dX8_parts_87 kc_X8_125 ?_
          refine x_callVi C (As := [.int ((-1000004))]) (rest := []) (c_finds l E (va_up (va_up σ 11 (stepsG (σ 10) k)) 12 (stepsG (touchG (σ 10) y) k)) τ 3 (by decide) (-1000004) (by decide)) kv_X8_61 (x_recv C (Nat.le_of_ble_eq_true rfl) xd_81 rfl) ⟨Nat.le_of_ble_eq_true rfl, Nat.le_of_ble_eq_true rfl⟩ rfl rfl (Nat.le_of_ble_eq_true rfl) dX8_parts_89 ?_
          exact x_oret C (mpost_of (V := u2 (mv σ) 2 3 ((va_up (va_up σ 11 (stepsG (σ 10) k)) 12 (stepsG (touchG (σ 10) y) k)) 14 3 + 1)) (Eq.trans (if_pos (by first | assumption | ((try simp only [rng, mayQ, tI_lt, tI_eq, cvr_0, mvr_0, cvr_c, mvr_c, tl_0, tl_1, tl_2, tl_3, tl_4, tl_5, tl_6, tl_7, tl_8, tl_9, tl_10, tl_11, tl_12, tl_13, tl_99, tl_200, tl_400, tl_1200, tn_200] at h1 h2 ⊢) <;> omega))) (find_no (P := fun i => ¬ apartS (σ 10) y i < most) hnf (by omega))) (by rw [mv_u14, mv_v12, mv_v11]) (by rw [cv_u14, cv_v12, cv_v11]) rfl) dX8_parts_92
        | succ j ih =>
          intro k hk hnf
          refine x_iload_n C 3 dX8_parts_40 rfl rfl ?_
          refine x_sipush C (v := 400) dX8_parts_41 (by decide) ?_
          refine x_icmp_gt C (tgt := 86) dX8_parts_44 (by decide) (fun h4 => absurd h4 (nI_nlt (a := 400) (b := k) (by omega) (by omega))) (fun h4 => ?_)
          refine x_aload_n C 0 dX8_parts_47 rfl rfl ?_
          refine x_get C (Nat.le_of_ble_eq_true rfl) xd_81 fl_X8_13 (q := (0, 83, 0)) (v := .ref (xad E (83))) rfl rfl dX8_parts_48 ?_
          refine x_aload_n C 0 dX8_parts_51 rfl rfl ?_
          refine x_get C (Nat.le_of_ble_eq_true rfl) xd_81 fl_X8_16 (q := (0, 84, 0)) (v := .ref (xad E (84))) rfl rfl dX8_parts_52 ?_
          refine x_callSi C (As := [.ref (xad E (83)), .ref (xad E (84))]) (rest := []) (c_mdiff l E (va_up (va_up σ 11 (stepsG (σ 10) k)) 12 (stepsG (touchG (σ 10) y) k)) τ ((stepsG (σ 10) k) 4) ((stepsG (touchG (σ 10) y) k) 4) (Eq.trans (congrFun (va_up_ne _ (j := 11) (k := 12) _ (by decide)) _) (congrFun (va_up_self _ _ _) _)) (congrFun (va_up_self _ _ _) _)) ks_X8_242 ⟨Nat.le_of_ble_eq_true rfl, Nat.le_of_ble_eq_true rfl⟩ rfl rfl (Nat.le_of_ble_eq_true rfl) dX8_parts_55 ?_
          refine x_iload_n C 2 dX8_parts_58 rfl rfl ?_
          refine x_icmp_lt C (tgt := 64) dX8_parts_59 (by decide) (fun h5 => ?_) (fun h5 => ?_)
          · refine x_aload_n C 0 dX8_parts_64 rfl rfl ?_
            refine x_aload_n C 0 dX8_parts_65 rfl rfl ?_
            refine x_get C (Nat.le_of_ble_eq_true rfl) xd_81 fl_X8_13 (q := (0, 83, 0)) (v := .ref (xad E (83))) rfl rfl dX8_parts_66 ?_
            refine WM.to (σ1 := va_up (va_up σ 12 (stepsG (touchG (σ 10) y) k)) 11 (stepsG (σ 10) k)) ?_ (xswap (by decide)) rfl rfl rfl
            refine x_callVv C (As := [.ref (xad E (83))]) (rest := []) (cM_goesBy l E (va_up σ 12 (stepsG (touchG (σ 10) y) k)) τ 11 (by decide) (stepsG (σ 10) k) (gI_steps hg k) (gT_steps hgT k (by omega)).1 hlv) kv_X8_108 (x_recv C (Nat.le_of_ble_eq_true rfl) xd_81 rfl) ⟨Nat.le_of_ble_eq_true rfl, Nat.le_of_ble_eq_true rfl⟩ rfl rfl (Nat.le_of_ble_eq_true rfl) dX8_parts_69 ?_
            refine x_aload_n C 0 dX8_parts_72 rfl rfl ?_
            refine x_aload_n C 0 dX8_parts_73 rfl rfl ?_
            refine x_get C (Nat.le_of_ble_eq_true rfl) xd_81 fl_X8_16 (q := (0, 84, 0)) (v := .ref (xad E (84))) rfl rfl dX8_parts_74 ?_
            refine WM.to (σ1 := va_up (va_up σ 11 (stepG (stepsG (σ 10) k))) 12 (stepsG (touchG (σ 10) y) k)) ?_ (xswap (by decide)) rfl rfl rfl
            refine x_callVv C (As := [.ref (xad E (84))]) (rest := []) (cM_goesBy l E (va_up σ 11 (stepG (stepsG (σ 10) k))) τ 12 (by decide) (stepsG (touchG (σ 10) y) k) (gI_steps (gI_touch hg _) k) (gT_steps (gT_touch hgT _) k (by omega)).1 hlv) kv_X8_108 (x_recv C (Nat.le_of_ble_eq_true rfl) xd_81 rfl) ⟨Nat.le_of_ble_eq_true rfl, Nat.le_of_ble_eq_true rfl⟩ rfl rfl (Nat.le_of_ble_eq_true rfl) dX8_parts_77 ?_
            refine x_iinc C (v := nI (k + 1)) (lv1 := [(3, .int (nI (k + 1))), (0, .ref (xad E (81))), (1, .int (y)), (2, .int (most))]) 3 dX8_parts_80 rfl (nI_add k 1) (by decide) rfl ?_
            refine x_goto2 C (tgt := 40) dX8_parts_83 (by decide) ?_
            refine WM.keep [1, 2, 3, 0] (lv' := [(0, .ref (xad E (81))), (1, .int (y)), (2, .int (most)), (3, .int (nI (k + 1)))]) rfl ?_
            exact WM.to (ih (k + 1) (by omega) (hyp_s (P := fun i => ¬ apartS (σ 10) y i < most) hnf (Decidable.not_not.mpr h5))) rfl rfl rfl rfl
          · refine x_iload_n C 3 dX8_parts_62 rfl rfl ?_
            exact x_oret C (mpost_of (V := mv σ) (Eq.trans (if_pos (by first | assumption | ((try simp only [rng, mayQ, tI_lt, tI_eq, cvr_0, mvr_0, cvr_c, mvr_c, tl_0, tl_1, tl_2, tl_3, tl_4, tl_5, tl_6, tl_7, tl_8, tl_9, tl_10, tl_11, tl_12, tl_13, tl_99, tl_200, tl_400, tl_1200, tn_200] at h1 h2 ⊢) <;> omega))) (find_at (P := fun i => ¬ apartS (σ 10) y i < most) hnf h5 (by omega))) (by rw [mv_v12, mv_v11]) (by rw [cv_v12, cv_v11]) rfl) dX8_parts_63
      refine WM.keep [1, 2, 3, 0] rfl ?_
      exact WM.to (loop (401) 0 (by omega) (fun i hi => absurd hi (Nat.not_lt_zero i))) rfl rfl rfl rfl
    · refine x_aload_n C 0 dX8_parts_26 rfl rfl ?_
      refine x_ldc C dX8_parts_27 kc_X8_46 ?_
      refine x_callVi C (As := [.int ((-1000001))]) (rest := []) (c_finds l E σ τ 0 (by decide) (-1000001) (by decide)) kv_X8_61 (x_recv C (Nat.le_of_ble_eq_true rfl) xd_81 rfl) ⟨Nat.le_of_ble_eq_true rfl, Nat.le_of_ble_eq_true rfl⟩ rfl rfl (Nat.le_of_ble_eq_true rfl) dX8_parts_29 ?_
      exact x_oret C (mpost_of (V := u2 (mv σ) 2 0 (σ 14 0 + 1)) (if_neg (by first | assumption | ((try simp only [rng, mayQ, tI_lt, tI_eq, cvr_0, mvr_0, cvr_c, mvr_c, tl_0, tl_1, tl_2, tl_3, tl_4, tl_5, tl_6, tl_7, tl_8, tl_9, tl_10, tl_11, tl_12, tl_13, tl_99, tl_200, tl_400, tl_1200, tn_200] at h1 h2 ⊢) <;> omega))) (by rw [mv_u14]) (by rw [cv_u14]) rfl) dX8_parts_32
set_option maxHeartbeats 4000000 in
set_option maxRecDepth 100000 in
theorem k_going (l : Launch) (E : xE) (σ : Nat → Nat → Int32) (τ : Nat → Int64) (T : Nat) (hT : T < 1073741824) (n : Int32) (hI : Inv (cv σ) T) : xOi l yX7_going cX7_going 2 .int 6 138 E [.ref (xad E (0)), .int (n)] σ τ (cpost (sp_going n (cv σ)) σ) := by
  refine xOi_of (own := RX7) (by decide +kernel) rfl (Nat.le_of_ble_eq_true rfl) ?_
  intro zp ze zs zm za zb zh zc C
  refine WM.to (lv1 := [(0, .ref (xad E (0))), (1, .int (n))]) (st1 := []) (σ1 := σ) (τ1 := τ) ?_ rfl rfl rfl rfl
  have hg : gI (σ 0) := hI.g
  have hgT : gT (σ 0) T := hI.t
  have h0 : 0 ≤ (σ 0 10).toInt := hI.h0
  refine x_iload_n C 1 dX7_going_0 rfl rfl ?_
  refine x_callSi C (As := [.int (n)]) (rest := []) (c_isLongRun l E σ τ n) ks_X7_206 ⟨Nat.le_of_ble_eq_true rfl, Nat.le_of_ble_eq_true rfl⟩ rfl rfl (Nat.le_of_ble_eq_true rfl) dX7_going_1 ?_
  refine x_ifneB C (tgt := 14) dX7_going_4 (by decide) (fun h1 => ?_) (fun h1 => ?_)
  · obtain ⟨q, hqa, hqb, rfl⟩ := rngN (a := 10) (b := 400) h1 (by decide) (by decide) (by decide)
    refine x_aload_n C 0 dX7_going_14 rfl rfl ?_
    refine x_get C (Nat.le_of_ble_eq_true rfl) xd_0 fl_X7_40 (q := (0, 59, 0)) (v := .ref (xad E (59))) rfl rfl dX7_going_15 ?_
    refine x_aload_n C 0 dX7_going_18 rfl rfl ?_
    refine x_get C (Nat.le_of_ble_eq_true rfl) xd_0 fl_X7_12 (q := (0, 1, 0)) (v := .ref (xad E (1))) rfl rfl dX7_going_19 ?_
    refine x_get C (Nat.le_of_ble_eq_true rfl) xd_1 fl_X7_68 (q := (0, 2, 0)) (v := .ref (xad E (2))) rfl rfl dX7_going_22 ?_
    refine x_callVv C (As := [.ref (xad E (2))]) (rest := []) (cW_become l E σ τ 2 0 (by decide) (by decide) (by decide)) kv_X7_190 (x_recv C (Nat.le_of_ble_eq_true rfl) xd_59 rfl) ⟨Nat.le_of_ble_eq_true rfl, Nat.le_of_ble_eq_true rfl⟩ rfl rfl (Nat.le_of_ble_eq_true rfl) dX7_going_25 ?_
    refine WM.alter (σ' := va_up σ 2 (σ 0)) (mix_run (by decide)) ?_
    refine WM.to (σ1 := va_up σ 2 (σ 0)) ?_ (congrArg (va_up _ _) rfl) rfl rfl rfl
    refine x_aload_n C 0 dX7_going_28 rfl rfl ?_
    refine x_get C (Nat.le_of_ble_eq_true rfl) xd_0 fl_X7_40 (q := (0, 59, 0)) (v := .ref (xad E (59))) rfl rfl dX7_going_29 ?_
    refine x_iload_n C 1 dX7_going_32 rfl rfl ?_
    refine x_callVi C (As := [.int (nI q)]) (rest := []) (cW_goes l E σ τ 2 (by decide) (σ 0) q T (by omega) hg hgT (by omega)) kv_X7_209 (x_recv C (Nat.le_of_ble_eq_true rfl) xd_59 rfl) ⟨Nat.le_of_ble_eq_true rfl, Nat.le_of_ble_eq_true rfl⟩ rfl rfl (Nat.le_of_ble_eq_true rfl) dX7_going_33 ?_
    exact x_oret C (cpost_of (V := cv σ) (Eq.trans (if_pos (by first | assumption | ((try simp only [rng, mayQ, tI_lt, tI_eq, cvr_0, mvr_0, cvr_c, mvr_c, tl_0, tl_1, tl_2, tl_3, tl_4, tl_5, tl_6, tl_7, tl_8, tl_9, tl_10, tl_11, tl_12, tl_13, tl_99, tl_400] at h1 ⊢) <;> omega))) (congrArg (fun z => (goesG (cv σ 0) z, cv σ)) (nI_clamp (by omega)))) (by rw [cv_v2]) (by rw [mv_v2]) rfl) dX7_going_36
  · refine x_aload_n C 0 dX7_going_7 rfl rfl ?_
    refine x_ldc C dX7_going_8 kc_X7_63 ?_
    refine x_callVi C (As := [.int ((-1000001))]) (rest := []) (c_finding l E σ τ 0 (by decide) (-1000001) (by decide)) kv_X7_64 (x_recv C (Nat.le_of_ble_eq_true rfl) xd_0 rfl) ⟨Nat.le_of_ble_eq_true rfl, Nat.le_of_ble_eq_true rfl⟩ rfl rfl (Nat.le_of_ble_eq_true rfl) dX7_going_10 ?_
    exact x_oret C (cpost_of (V := u2 (cv σ) 2 0 (σ 4 0 + 1)) (if_neg (by first | assumption | ((try simp only [rng, mayQ, tI_lt, tI_eq, cvr_0, mvr_0, cvr_c, mvr_c, tl_0, tl_1, tl_2, tl_3, tl_4, tl_5, tl_6, tl_7, tl_8, tl_9, tl_10, tl_11, tl_12, tl_13, tl_99, tl_400] at h1 ⊢) <;> omega))) (by rw [cv_u4]) (by rw [mv_u4]) rfl) dX7_going_13
set_option maxHeartbeats 4000000 in
set_option maxRecDepth 100000 in
theorem m_going (l : Launch) (E : xE) (σ : Nat → Nat → Int32) (τ : Nat → Int64) (T : Nat) (hT : T < 1073741824) (n : Int32) (hI : Inv (mv σ) T) (hlv : ∀ j, j < 12 → σ 15 j = (xzl 1).getD j 0) : xOi l yX8_going cX8_going 2 .int 4 94 E [.ref (xad E (81)), .int (n)] σ τ (mpost (sp_going n (mv σ)) σ) := by
  refine xOi_of (own := RX8) (by decide +kernel) rfl (Nat.le_of_ble_eq_true rfl) ?_
  intro zp ze zs zm za zb zh zc C
  refine WM.to (lv1 := [(0, .ref (xad E (81))), (1, .int (n))]) (st1 := []) (σ1 := σ) (τ1 := τ) ?_ rfl rfl rfl rfl
  have hg : gI (σ 10) := hI.g
  have hgT : gT (σ 10) T := hI.t
  have h0 : 0 ≤ (σ 10 10).toInt := hI.h0
  refine x_iload_n C 1 dX8_going_0 rfl rfl ?_
  refine x_i2l C dX8_going_1 ?_
  refine x_ldc2 C dX8_going_2 kc_X8_248 ?_
  refine x_ldc2 C dX8_going_5 kc_X8_231 ?_
  refine x_callSi C (As := [.long (Int32.toInt64 n), .long (10), .long (400)]) (rest := []) (c_in l E σ τ (Int32.toInt64 n) 10 400) ks_X8_49 ⟨Nat.le_of_ble_eq_true rfl, Nat.le_of_ble_eq_true rfl⟩ rfl rfl (Nat.le_of_ble_eq_true rfl) dX8_going_8 ?_
  refine WM.topi (y := if rng n 10 400 then 1 else 0) (in_eq n 10 400 (by decide) (by decide)) ?_
  refine x_ifneB C (tgt := 21) dX8_going_11 (by decide) (fun h1 => ?_) (fun h1 => ?_)
  · obtain ⟨q, hqa, hqb, rfl⟩ := rngN (a := 10) (b := 400) h1 (by decide) (by decide) (by decide)
    refine x_aload_n C 0 dX8_going_21 rfl rfl ?_
    refine x_get C (Nat.le_of_ble_eq_true rfl) xd_81 fl_X8_9 (q := (0, 82, 0)) (v := .ref (xad E (82))) rfl rfl dX8_going_22 ?_
    refine x_aload_n C 0 dX8_going_25 rfl rfl ?_
    refine x_get C (Nat.le_of_ble_eq_true rfl) xd_81 fl_X8_13 (q := (0, 83, 0)) (v := .ref (xad E (83))) rfl rfl dX8_going_26 ?_
    refine x_callSv C (As := [.ref (xad E (82)), .ref (xad E (83))]) (rest := []) (cM_copies l E σ τ 10 11 (by decide) (by decide) (by decide)) ks_X8_235 ⟨Nat.le_of_ble_eq_true rfl, Nat.le_of_ble_eq_true rfl⟩ rfl rfl (Nat.le_of_ble_eq_true rfl) dX8_going_29 ?_
    refine WM.to (σ1 := va_up σ 11 (σ 10)) ?_ (congrArg (va_up _ _) rfl) rfl rfl rfl
    refine x_aload_n C 0 dX8_going_32 rfl rfl ?_
    refine x_iload_n C 1 dX8_going_33 rfl rfl ?_
    refine x_callVi C (As := [.int (nI q)]) (rest := []) (cM_going l E σ τ (σ 10) q T (by omega) hg hgT (by omega) hlv) kv_X8_250 (x_recv C (Nat.le_of_ble_eq_true rfl) xd_81 rfl) ⟨Nat.le_of_ble_eq_true rfl, Nat.le_of_ble_eq_true rfl⟩ rfl rfl (Nat.le_of_ble_eq_true rfl) dX8_going_34 ?_
    exact x_oret C (mpost_of (V := mv σ) (Eq.trans (if_pos (by first | assumption | ((try simp only [rng, mayQ, tI_lt, tI_eq, cvr_0, mvr_0, cvr_c, mvr_c, tl_0, tl_1, tl_2, tl_3, tl_4, tl_5, tl_6, tl_7, tl_8, tl_9, tl_10, tl_11, tl_12, tl_13, tl_99, tl_400] at h1 ⊢) <;> omega))) (congrArg (fun z => (goesG (mv σ 0) z, mv σ)) (nI_clamp (by omega)))) (by rw [mv_v11]) (by rw [cv_v11]) rfl) dX8_going_37
  · refine x_aload_n C 0 dX8_going_14 rfl rfl ?_
    refine x_ldc C dX8_going_15 kc_X8_46 ?_
    refine x_callVi C (As := [.int ((-1000001))]) (rest := []) (c_finds l E σ τ 0 (by decide) (-1000001) (by decide)) kv_X8_61 (x_recv C (Nat.le_of_ble_eq_true rfl) xd_81 rfl) ⟨Nat.le_of_ble_eq_true rfl, Nat.le_of_ble_eq_true rfl⟩ rfl rfl (Nat.le_of_ble_eq_true rfl) dX8_going_17 ?_
    exact x_oret C (mpost_of (V := u2 (mv σ) 2 0 (σ 14 0 + 1)) (if_neg (by first | assumption | ((try simp only [rng, mayQ, tI_lt, tI_eq, cvr_0, mvr_0, cvr_c, mvr_c, tl_0, tl_1, tl_2, tl_3, tl_4, tl_5, tl_6, tl_7, tl_8, tl_9, tl_10, tl_11, tl_12, tl_13, tl_99, tl_400] at h1 ⊢) <;> omega))) (by rw [mv_u14]) (by rw [cv_u14]) rfl) dX8_going_20
set_option maxHeartbeats 4000000 in
set_option maxRecDepth 100000 in
theorem k_tapFor (l : Launch) (E : xE) (σ : Nat → Nat → Int32) (τ : Nat → Int64) (T : Nat) (hT : T < 1073741824) (y n : Int32) (hI : Inv (cv σ) T) : xOi l yX7_tapFor cX7_tapFor 4 .int 6 138 E [.ref (xad E (0)), .int (y), .int (n)] σ τ (cpost (sp_tapFor y n (cv σ)) σ) := by
  refine xOi_of (own := RX7) (by decide +kernel) rfl (Nat.le_of_ble_eq_true rfl) ?_
  intro zp ze zs zm za zb zh zc C
  refine WM.to (lv1 := [(0, .ref (xad E (0))), (1, .int (y)), (2, .int (n))]) (st1 := []) (σ1 := σ) (τ1 := τ) ?_ rfl rfl rfl rfl
  have hg : gI (σ 0) := hI.g
  have hgT : gT (σ 0) T := hI.t
  have h0 : 0 ≤ (σ 0 10).toInt := hI.h0
  refine x_iload_n C 1 dX7_tapFor_0 rfl rfl ?_
  refine x_iconst C (v := 0) dX7_tapFor_1 (by decide) ?_
  refine x_iconst C (v := 3) dX7_tapFor_2 (by decide) ?_
  refine x_callSi C (As := [.int (y), .int (0), .int (3)]) (rest := []) (c_within l E σ τ y 0 3) ks_X7_59 ⟨Nat.le_of_ble_eq_true rfl, Nat.le_of_ble_eq_true rfl⟩ rfl rfl (Nat.le_of_ble_eq_true rfl) dX7_tapFor_3 ?_
  refine x_ifeqB C (tgt := 16) dX7_tapFor_6 (by decide) (fun h1 => ?_) (fun h1 => ?_)
  · refine x_aload_n C 0 dX7_tapFor_16 rfl rfl ?_
    refine x_ldc C dX7_tapFor_17 kc_X7_63 ?_
    refine x_callVi C (As := [.int ((-1000001))]) (rest := []) (c_finding l E σ τ 0 (by decide) (-1000001) (by decide)) kv_X7_64 (x_recv C (Nat.le_of_ble_eq_true rfl) xd_0 rfl) ⟨Nat.le_of_ble_eq_true rfl, Nat.le_of_ble_eq_true rfl⟩ rfl rfl (Nat.le_of_ble_eq_true rfl) dX7_tapFor_19 ?_
    exact x_oret C (cpost_of (V := u2 (cv σ) 2 0 (σ 4 0 + 1)) (if_neg (by first | assumption | ((try simp only [rng, mayQ, tI_lt, tI_eq, cvr_0, mvr_0, cvr_c, mvr_c, tl_0, tl_1, tl_2, tl_3, tl_4, tl_5, tl_6, tl_7, tl_8, tl_9, tl_10, tl_11, tl_12, tl_13, tl_99, tl_400] at h1 ⊢) <;> omega))) (by rw [cv_u4]) (by rw [mv_u4]) rfl) dX7_tapFor_22
  · refine x_iload_n C 2 dX7_tapFor_9 rfl rfl ?_
    refine x_callSi C (As := [.int (n)]) (rest := []) (c_isLongRun l E σ τ n) ks_X7_206 ⟨Nat.le_of_ble_eq_true rfl, Nat.le_of_ble_eq_true rfl⟩ rfl rfl (Nat.le_of_ble_eq_true rfl) dX7_tapFor_10 ?_
    refine x_ifneB C (tgt := 23) dX7_tapFor_13 (by decide) (fun h2 => ?_) (fun h2 => ?_)
    · obtain ⟨q, hqa, hqb, rfl⟩ := rngN (a := 10) (b := 400) h2 (by decide) (by decide) (by decide)
      refine x_iconst C (v := 0) dX7_tapFor_23 (by decide) ?_
      refine x_istore_n C (lv1 := [(3, .int (0)), (0, .ref (xad E (0))), (1, .int (y)), (2, .int (nI q))]) dX7_tapFor_24 rfl (by decide) rfl ?_
      have loop : ∀ (j k : Nat) (hB : Nat → Int32), j + k = 100 → (∀ i, i < k → ¬ (goesG (upd (σ 0) 0 (nI i)) q = y)) → WM zp l ze { frames := 6, cells := 0, slots := 0, locals := 138 } zs zm za zb zh zc 0 0 (MQ zb (va_Qi (fun r (u : xV × (Nat → Int64)) => (cpost (sp_tapFor y (nI q) (cv σ)) σ) r u.1) (fun u t => xP E u.1 u.2 t.heap) (xA E)) za zs 0 0 (xA E)) E (xA E) 4 (va_up σ 2 hB) (τ) 25 [(0, .ref (xad E (0))), (1, .int (y)), (2, .int (nI q)), (3, .int (nI k))] [] := by
        intro j
        induction j with
        | zero =>
          intro k hB hk hnf
          refine x_iload_n C 3 dX7_tapFor_25 rfl rfl ?_
          refine x_bipush C (v := 99) dX7_tapFor_26 (by decide) ?_
          refine x_icmp_gt C (tgt := 75) dX7_tapFor_28 (by decide) (fun h3 => ?_) (fun h3 => absurd (nI_lt (a := 99) (b := k) (by omega) (by omega)) h3)
          refine x_aload_n C 0 dX7_tapFor_75 rfl rfl ?_
          refine x_ldc C dX7_tapFor_76 kc_X7_145 ?_
          refine x_callVi C (As := [.int ((-1000004))]) (rest := []) (c_finding l E (va_up σ 2 hB) τ 3 (by decide) (-1000004) (by decide)) kv_X7_64 (x_recv C (Nat.le_of_ble_eq_true rfl) xd_0 rfl) ⟨Nat.le_of_ble_eq_true rfl, Nat.le_of_ble_eq_true rfl⟩ rfl rfl (Nat.le_of_ble_eq_true rfl) dX7_tapFor_78 ?_
          exact x_oret C (cpost_of (V := u2 (cv σ) 2 3 ((va_up σ 2 hB) 4 3 + 1)) (Eq.trans (if_pos (by first | assumption | ((try simp only [rng, mayQ, tI_lt, tI_eq, cvr_0, mvr_0, cvr_c, mvr_c, tl_0, tl_1, tl_2, tl_3, tl_4, tl_5, tl_6, tl_7, tl_8, tl_9, tl_10, tl_11, tl_12, tl_13, tl_99, tl_400] at h1 h2 ⊢) <;> omega))) (Eq.trans (congrArg (fun z => tapS z y (cv σ)) (nI_clamp (by omega))) (find_no (P := fun i => goesG (upd (σ 0) 0 (nI i)) q = y) hnf (by omega)))) (by rw [cv_u4, cv_v2]) (by rw [mv_u4, mv_v2]) rfl) dX7_tapFor_81
        | succ j ih =>
          intro k hB hk hnf
          refine x_iload_n C 3 dX7_tapFor_25 rfl rfl ?_
          refine x_bipush C (v := 99) dX7_tapFor_26 (by decide) ?_
          refine x_icmp_gt C (tgt := 75) dX7_tapFor_28 (by decide) (fun h4 => absurd h4 (nI_nlt (a := 99) (b := k) (by omega) (by omega))) (fun h4 => ?_)
          refine x_aload_n C 0 dX7_tapFor_31 rfl rfl ?_
          refine x_get C (Nat.le_of_ble_eq_true rfl) xd_0 fl_X7_40 (q := (0, 59, 0)) (v := .ref (xad E (59))) rfl rfl dX7_tapFor_32 ?_
          refine x_aload_n C 0 dX7_tapFor_35 rfl rfl ?_
          refine x_get C (Nat.le_of_ble_eq_true rfl) xd_0 fl_X7_12 (q := (0, 1, 0)) (v := .ref (xad E (1))) rfl rfl dX7_tapFor_36 ?_
          refine x_get C (Nat.le_of_ble_eq_true rfl) xd_1 fl_X7_68 (q := (0, 2, 0)) (v := .ref (xad E (2))) rfl rfl dX7_tapFor_39 ?_
          refine x_callVv C (As := [.ref (xad E (2))]) (rest := []) (cW_become l E (va_up σ 2 hB) τ 2 0 (by decide) (by decide) (by decide)) kv_X7_190 (x_recv C (Nat.le_of_ble_eq_true rfl) xd_59 rfl) ⟨Nat.le_of_ble_eq_true rfl, Nat.le_of_ble_eq_true rfl⟩ rfl rfl (Nat.le_of_ble_eq_true rfl) dX7_tapFor_42 ?_
          refine WM.alter (σ' := va_up (va_up σ 2 hB) 2 ((va_up σ 2 hB) 0)) (mix_run (by decide)) ?_
          refine WM.to (σ1 := va_up σ 2 (σ 0)) ?_ (Eq.trans (xupup _ _ _ _) (congrArg (va_up _ _) (va_up_ne _ (j := 0) (k := 2) _ (by decide)))) rfl rfl rfl
          refine x_aload_n C 0 dX7_tapFor_45 rfl rfl ?_
          refine x_get C (Nat.le_of_ble_eq_true rfl) xd_0 fl_X7_40 (q := (0, 59, 0)) (v := .ref (xad E (59))) rfl rfl dX7_tapFor_46 ?_
          refine x_get C (Nat.le_of_ble_eq_true rfl) xd_59 fl_X7_71 (q := (0, 60, 0)) (v := .ref (xad E (60))) rfl rfl dX7_tapFor_49 ?_
          refine x_iconst C (v := 0) dX7_tapFor_52 (by decide) ?_
          refine x_iload_n C 3 dX7_tapFor_53 rfl rfl ?_
          refine x_ast C (σ' := va_up σ 2 (upd (σ 0) 0 (nI k))) (Nat.le_of_ble_eq_true rfl) xd_60 (by decide) (vp_in_nI (show 0 < 4 by omega) (by decide)) (by rw [(show (0 : Int32).toNatClampNeg = 0 from by decide), Nat.zero_add, Nat.one_mul]; exact (u2_bank _ _ _ _ _)) dX7_tapFor_54 ?_
          refine x_aload_n C 0 dX7_tapFor_55 rfl rfl ?_
          refine x_get C (Nat.le_of_ble_eq_true rfl) xd_0 fl_X7_40 (q := (0, 59, 0)) (v := .ref (xad E (59))) rfl rfl dX7_tapFor_56 ?_
          refine x_iload_n C 2 dX7_tapFor_59 rfl rfl ?_
          refine x_callVi C (As := [.int (nI q)]) (rest := []) (cW_goes l E σ τ 2 (by decide) (upd (σ 0) 0 (nI k)) q T (by omega) (gI_tap hg (by omega)) (gT_tap hgT _) (by omega)) kv_X7_209 (x_recv C (Nat.le_of_ble_eq_true rfl) xd_59 rfl) ⟨Nat.le_of_ble_eq_true rfl, Nat.le_of_ble_eq_true rfl⟩ rfl rfl (Nat.le_of_ble_eq_true rfl) dX7_tapFor_60 ?_
          refine x_iload_n C 1 dX7_tapFor_63 rfl rfl ?_
          refine x_icmp_ne C (tgt := 69) dX7_tapFor_64 (by decide) (fun h5 => ?_) (fun h5 => ?_)
          · refine x_iinc C (v := nI (k + 1)) (lv1 := [(3, .int (nI (k + 1))), (0, .ref (xad E (0))), (1, .int (y)), (2, .int (nI q))]) 3 dX7_tapFor_69 rfl (nI_add k 1) (by decide) rfl ?_
            refine x_goto2 C (tgt := 25) dX7_tapFor_72 (by decide) ?_
            refine WM.keep [1, 2, 3, 0] (lv' := [(0, .ref (xad E (0))), (1, .int (y)), (2, .int (nI q)), (3, .int (nI (k + 1)))]) rfl ?_
            exact WM.to (ih (k + 1) (stepsG (upd (σ 0) 0 (nI k)) q) (by omega) (hyp_s (P := fun i => goesG (upd (σ 0) 0 (nI i)) q = y) hnf h5)) rfl rfl rfl rfl
          · refine x_iload_n C 3 dX7_tapFor_67 rfl rfl ?_
            exact x_oret C (cpost_of (V := cv σ) (Eq.trans (if_pos (by first | assumption | ((try simp only [rng, mayQ, tI_lt, tI_eq, cvr_0, mvr_0, cvr_c, mvr_c, tl_0, tl_1, tl_2, tl_3, tl_4, tl_5, tl_6, tl_7, tl_8, tl_9, tl_10, tl_11, tl_12, tl_13, tl_99, tl_400] at h1 h2 ⊢) <;> omega))) (Eq.trans (congrArg (fun z => tapS z y (cv σ)) (nI_clamp (by omega))) (find_at (P := fun i => goesG (upd (σ 0) 0 (nI i)) q = y) hnf h5 (by omega)))) (by rw [cv_v2]) (by rw [mv_v2]) rfl) dX7_tapFor_68
      refine WM.keep [1, 2, 3, 0] rfl ?_
      refine WM.to (σ1 := va_up σ 2 (σ 2)) ?_ (xself _ _).symm rfl rfl rfl
      exact WM.to (loop (100) 0 (σ 2) (by omega) (fun i hi => absurd hi (Nat.not_lt_zero i))) rfl rfl rfl rfl
    · refine x_aload_n C 0 dX7_tapFor_16 rfl rfl ?_
      refine x_ldc C dX7_tapFor_17 kc_X7_63 ?_
      refine x_callVi C (As := [.int ((-1000001))]) (rest := []) (c_finding l E σ τ 0 (by decide) (-1000001) (by decide)) kv_X7_64 (x_recv C (Nat.le_of_ble_eq_true rfl) xd_0 rfl) ⟨Nat.le_of_ble_eq_true rfl, Nat.le_of_ble_eq_true rfl⟩ rfl rfl (Nat.le_of_ble_eq_true rfl) dX7_tapFor_19 ?_
      exact x_oret C (cpost_of (V := u2 (cv σ) 2 0 (σ 4 0 + 1)) (if_neg (by first | assumption | ((try simp only [rng, mayQ, tI_lt, tI_eq, cvr_0, mvr_0, cvr_c, mvr_c, tl_0, tl_1, tl_2, tl_3, tl_4, tl_5, tl_6, tl_7, tl_8, tl_9, tl_10, tl_11, tl_12, tl_13, tl_99, tl_400] at h1 h2 ⊢) <;> omega))) (by rw [cv_u4]) (by rw [mv_u4]) rfl) dX7_tapFor_22
set_option maxHeartbeats 4000000 in
set_option maxRecDepth 100000 in
theorem m_tapFor (l : Launch) (E : xE) (σ : Nat → Nat → Int32) (τ : Nat → Int64) (T : Nat) (hT : T < 1073741824) (y n : Int32) (hI : Inv (mv σ) T) (hlv : ∀ j, j < 12 → σ 15 j = (xzl 1).getD j 0) : xOi l yX8_tapFor cX8_tapFor 4 .int 4 94 E [.ref (xad E (81)), .int (y), .int (n)] σ τ (mpost (sp_tapFor y n (mv σ)) σ) := by
  refine xOi_of (own := RX8) (by decide +kernel) rfl (Nat.le_of_ble_eq_true rfl) ?_
  intro zp ze zs zm za zb zh zc C
  refine WM.to (lv1 := [(0, .ref (xad E (81))), (1, .int (y)), (2, .int (n))]) (st1 := []) (σ1 := σ) (τ1 := τ) ?_ rfl rfl rfl rfl
  have hg : gI (σ 10) := hI.g
  have hgT : gT (σ 10) T := hI.t
  have h0 : 0 ≤ (σ 10 10).toInt := hI.h0
  refine x_iload_n C 1 dX8_tapFor_0 rfl rfl ?_
  refine x_i2l C dX8_tapFor_1 ?_
  refine x_lconst C (v := 0) dX8_tapFor_2 (by decide) ?_
  refine x_ldc2 C dX8_tapFor_3 kc_X8_233 ?_
  refine x_callSi C (As := [.long (Int32.toInt64 y), .long (0), .long (3)]) (rest := []) (c_in l E σ τ (Int32.toInt64 y) 0 3) ks_X8_49 ⟨Nat.le_of_ble_eq_true rfl, Nat.le_of_ble_eq_true rfl⟩ rfl rfl (Nat.le_of_ble_eq_true rfl) dX8_tapFor_6 ?_
  refine WM.topi (y := if rng y 0 3 then 1 else 0) (in_eq y 0 3 (by decide) (by decide)) ?_
  refine x_ifeqB C (tgt := 26) dX8_tapFor_9 (by decide) (fun h1 => ?_) (fun h1 => ?_)
  · refine x_aload_n C 0 dX8_tapFor_26 rfl rfl ?_
    refine x_ldc C dX8_tapFor_27 kc_X8_46 ?_
    refine x_callVi C (As := [.int ((-1000001))]) (rest := []) (c_finds l E σ τ 0 (by decide) (-1000001) (by decide)) kv_X8_61 (x_recv C (Nat.le_of_ble_eq_true rfl) xd_81 rfl) ⟨Nat.le_of_ble_eq_true rfl, Nat.le_of_ble_eq_true rfl⟩ rfl rfl (Nat.le_of_ble_eq_true rfl) dX8_tapFor_29 ?_
    exact x_oret C (mpost_of (V := u2 (mv σ) 2 0 (σ 14 0 + 1)) (if_neg (by first | assumption | ((try simp only [rng, mayQ, tI_lt, tI_eq, cvr_0, mvr_0, cvr_c, mvr_c, tl_0, tl_1, tl_2, tl_3, tl_4, tl_5, tl_6, tl_7, tl_8, tl_9, tl_10, tl_11, tl_12, tl_13, tl_99, tl_100, tl_400] at h1 ⊢) <;> omega))) (by rw [mv_u14]) (by rw [cv_u14]) rfl) dX8_tapFor_32
  · refine x_iload_n C 2 dX8_tapFor_12 rfl rfl ?_
    refine x_i2l C dX8_tapFor_13 ?_
    refine x_ldc2 C dX8_tapFor_14 kc_X8_248 ?_
    refine x_ldc2 C dX8_tapFor_17 kc_X8_231 ?_
    refine x_callSi C (As := [.long (Int32.toInt64 n), .long (10), .long (400)]) (rest := []) (c_in l E σ τ (Int32.toInt64 n) 10 400) ks_X8_49 ⟨Nat.le_of_ble_eq_true rfl, Nat.le_of_ble_eq_true rfl⟩ rfl rfl (Nat.le_of_ble_eq_true rfl) dX8_tapFor_20 ?_
    refine WM.topi (y := if rng n 10 400 then 1 else 0) (in_eq n 10 400 (by decide) (by decide)) ?_
    refine x_ifneB C (tgt := 33) dX8_tapFor_23 (by decide) (fun h2 => ?_) (fun h2 => ?_)
    · obtain ⟨q, hqa, hqb, rfl⟩ := rngN (a := 10) (b := 400) h2 (by decide) (by decide) (by decide)
      refine x_iconst C (v := 0) dX8_tapFor_33 (by decide) ?_
      refine x_istore_n C (lv1 := [(3, .int (0)), (0, .ref (xad E (81))), (1, .int (y)), (2, .int (nI q))]) dX8_tapFor_34 rfl (by decide) rfl ?_
      have loop : ∀ (j k : Nat) (hB : Nat → Int32), j + k = 100 → (∀ i, i < k → ¬ (goesG (upd (σ 10) 0 (nI i)) q = y)) → WM zp l ze { frames := 4, cells := 0, slots := 0, locals := 94 } zs zm za zb zh zc 0 0 (MQ zb (va_Qi (fun r (u : xV × (Nat → Int64)) => (mpost (sp_tapFor y (nI q) (mv σ)) σ) r u.1) (fun u t => xP E u.1 u.2 t.heap) (xA E)) za zs 0 0 (xA E)) E (xA E) 4 (va_up σ 11 hB) (τ) 35 [(0, .ref (xad E (81))), (1, .int (y)), (2, .int (nI q)), (3, .int (nI k))] [] := by
        intro j
        induction j with
        | zero =>
          intro k hB hk hnf
          refine x_iload_n C 3 dX8_tapFor_35 rfl rfl ?_
          refine x_bipush C (v := 100) dX8_tapFor_36 (by decide) ?_
          refine x_icmp_ge C (tgt := 76) dX8_tapFor_38 (by decide) (fun h3 => ?_) (fun h3 => absurd h3 (nI_nlt (a := k) (b := 100) (by omega) (by omega)))
          refine x_aload_n C 0 dX8_tapFor_76 rfl rfl ?_
          refine x_ldc C dX8_tapFor_77 kc_X8_125 ?_
          refine x_callVi C (As := [.int ((-1000004))]) (rest := []) (c_finds l E (va_up σ 11 hB) τ 3 (by decide) (-1000004) (by decide)) kv_X8_61 (x_recv C (Nat.le_of_ble_eq_true rfl) xd_81 rfl) ⟨Nat.le_of_ble_eq_true rfl, Nat.le_of_ble_eq_true rfl⟩ rfl rfl (Nat.le_of_ble_eq_true rfl) dX8_tapFor_79 ?_
          exact x_oret C (mpost_of (V := u2 (mv σ) 2 3 ((va_up σ 11 hB) 14 3 + 1)) (Eq.trans (if_pos (by first | assumption | ((try simp only [rng, mayQ, tI_lt, tI_eq, cvr_0, mvr_0, cvr_c, mvr_c, tl_0, tl_1, tl_2, tl_3, tl_4, tl_5, tl_6, tl_7, tl_8, tl_9, tl_10, tl_11, tl_12, tl_13, tl_99, tl_100, tl_400] at h1 h2 ⊢) <;> omega))) (Eq.trans (congrArg (fun z => tapS z y (mv σ)) (nI_clamp (by omega))) (find_no (P := fun i => goesG (upd (σ 10) 0 (nI i)) q = y) hnf (by omega)))) (by rw [mv_u14, mv_v11]) (by rw [cv_u14, cv_v11]) rfl) dX8_tapFor_82
        | succ j ih =>
          intro k hB hk hnf
          refine x_iload_n C 3 dX8_tapFor_35 rfl rfl ?_
          refine x_bipush C (v := 100) dX8_tapFor_36 (by decide) ?_
          refine x_icmp_ge C (tgt := 76) dX8_tapFor_38 (by decide) (fun h4 => absurd (nI_lt (a := k) (b := 100) (by omega) (by omega)) h4) (fun h4 => ?_)
          refine x_aload_n C 0 dX8_tapFor_41 rfl rfl ?_
          refine x_get C (Nat.le_of_ble_eq_true rfl) xd_81 fl_X8_9 (q := (0, 82, 0)) (v := .ref (xad E (82))) rfl rfl dX8_tapFor_42 ?_
          refine x_aload_n C 0 dX8_tapFor_45 rfl rfl ?_
          refine x_get C (Nat.le_of_ble_eq_true rfl) xd_81 fl_X8_13 (q := (0, 83, 0)) (v := .ref (xad E (83))) rfl rfl dX8_tapFor_46 ?_
          refine x_callSv C (As := [.ref (xad E (82)), .ref (xad E (83))]) (rest := []) (cM_copies l E (va_up σ 11 hB) τ 10 11 (by decide) (by decide) (by decide)) ks_X8_235 ⟨Nat.le_of_ble_eq_true rfl, Nat.le_of_ble_eq_true rfl⟩ rfl rfl (Nat.le_of_ble_eq_true rfl) dX8_tapFor_49 ?_
          refine WM.to (σ1 := va_up σ 11 (σ 10)) ?_ (Eq.trans (xupup _ _ _ _) (congrArg (va_up _ _) (va_up_ne _ (j := 10) (k := 11) _ (by decide)))) rfl rfl rfl
          refine x_aload_n C 0 dX8_tapFor_52 rfl rfl ?_
          refine x_get C (Nat.le_of_ble_eq_true rfl) xd_81 fl_X8_13 (q := (0, 83, 0)) (v := .ref (xad E (83))) rfl rfl dX8_tapFor_53 ?_
          refine x_iconst C (v := 0) dX8_tapFor_56 (by decide) ?_
          refine x_iload_n C 3 dX8_tapFor_57 rfl rfl ?_
          refine x_ast C (σ' := va_up σ 11 (upd (σ 10) 0 (nI k))) (Nat.le_of_ble_eq_true rfl) xd_83 (by decide) (vp_in_nI (show 0 < 284 by omega) (by decide)) (by rw [(show (0 : Int32).toNatClampNeg = 0 from by decide), Nat.zero_add, Nat.one_mul]; exact (u2_bank _ _ _ _ _)) dX8_tapFor_58 ?_
          refine x_aload_n C 0 dX8_tapFor_59 rfl rfl ?_
          refine x_iload_n C 2 dX8_tapFor_60 rfl rfl ?_
          refine x_callVi C (As := [.int (nI q)]) (rest := []) (cM_going l E σ τ (upd (σ 10) 0 (nI k)) q T (by omega) (gI_tap hg (by omega)) (gT_tap hgT _) (by omega) hlv) kv_X8_250 (x_recv C (Nat.le_of_ble_eq_true rfl) xd_81 rfl) ⟨Nat.le_of_ble_eq_true rfl, Nat.le_of_ble_eq_true rfl⟩ rfl rfl (Nat.le_of_ble_eq_true rfl) dX8_tapFor_61 ?_
          refine x_iload_n C 1 dX8_tapFor_64 rfl rfl ?_
          refine x_icmp_ne C (tgt := 70) dX8_tapFor_65 (by decide) (fun h5 => ?_) (fun h5 => ?_)
          · refine x_iinc C (v := nI (k + 1)) (lv1 := [(3, .int (nI (k + 1))), (0, .ref (xad E (81))), (1, .int (y)), (2, .int (nI q))]) 3 dX8_tapFor_70 rfl (nI_add k 1) (by decide) rfl ?_
            refine x_goto2 C (tgt := 35) dX8_tapFor_73 (by decide) ?_
            refine WM.keep [1, 2, 3, 0] (lv' := [(0, .ref (xad E (81))), (1, .int (y)), (2, .int (nI q)), (3, .int (nI (k + 1)))]) rfl ?_
            exact WM.to (ih (k + 1) (stepsG (upd (σ 10) 0 (nI k)) q) (by omega) (hyp_s (P := fun i => goesG (upd (σ 10) 0 (nI i)) q = y) hnf h5)) rfl rfl rfl rfl
          · refine x_iload_n C 3 dX8_tapFor_68 rfl rfl ?_
            exact x_oret C (mpost_of (V := mv σ) (Eq.trans (if_pos (by first | assumption | ((try simp only [rng, mayQ, tI_lt, tI_eq, cvr_0, mvr_0, cvr_c, mvr_c, tl_0, tl_1, tl_2, tl_3, tl_4, tl_5, tl_6, tl_7, tl_8, tl_9, tl_10, tl_11, tl_12, tl_13, tl_99, tl_100, tl_400] at h1 h2 ⊢) <;> omega))) (Eq.trans (congrArg (fun z => tapS z y (mv σ)) (nI_clamp (by omega))) (find_at (P := fun i => goesG (upd (σ 10) 0 (nI i)) q = y) hnf h5 (by omega)))) (by rw [mv_v11]) (by rw [cv_v11]) rfl) dX8_tapFor_69
      refine WM.keep [1, 2, 3, 0] rfl ?_
      refine WM.to (σ1 := va_up σ 11 (σ 11)) ?_ (xself _ _).symm rfl rfl rfl
      exact WM.to (loop (100) 0 (σ 11) (by omega) (fun i hi => absurd hi (Nat.not_lt_zero i))) rfl rfl rfl rfl
    · refine x_aload_n C 0 dX8_tapFor_26 rfl rfl ?_
      refine x_ldc C dX8_tapFor_27 kc_X8_46 ?_
      refine x_callVi C (As := [.int ((-1000001))]) (rest := []) (c_finds l E σ τ 0 (by decide) (-1000001) (by decide)) kv_X8_61 (x_recv C (Nat.le_of_ble_eq_true rfl) xd_81 rfl) ⟨Nat.le_of_ble_eq_true rfl, Nat.le_of_ble_eq_true rfl⟩ rfl rfl (Nat.le_of_ble_eq_true rfl) dX8_tapFor_29 ?_
      exact x_oret C (mpost_of (V := u2 (mv σ) 2 0 (σ 14 0 + 1)) (if_neg (by first | assumption | ((try simp only [rng, mayQ, tI_lt, tI_eq, cvr_0, mvr_0, cvr_c, mvr_c, tl_0, tl_1, tl_2, tl_3, tl_4, tl_5, tl_6, tl_7, tl_8, tl_9, tl_10, tl_11, tl_12, tl_13, tl_99, tl_100, tl_400] at h1 h2 ⊢) <;> omega))) (by rw [mv_u14]) (by rw [cv_u14]) rfl) dX8_tapFor_32
set_option maxHeartbeats 4000000 in
set_option maxRecDepth 100000 in
theorem k_bounds (l : Launch) (E : xE) (σ : Nat → Nat → Int32) (τ : Nat → Int64) (T : Nat) (hT : T < 1073741824) (n what : Int32) (hI : Inv (cv σ) T) : xOi l yX7_bounds cX7_bounds 6 .int 4 90 E [.ref (xad E (0)), .int (n), .int (what)] σ τ (cpost (sp_bounds n what (cv σ)) σ) := by
  refine xOi_of (own := RX7) (by decide +kernel) rfl (Nat.le_of_ble_eq_true rfl) ?_
  intro zp ze zs zm za zb zh zc C
  refine WM.to (lv1 := [(0, .ref (xad E (0))), (1, .int (n)), (2, .int (what))]) (st1 := []) (σ1 := σ) (τ1 := τ) ?_ rfl rfl rfl rfl
  have hg : gI (σ 0) := hI.g
  have hgT : gT (σ 0) T := hI.t
  have h0 : 0 ≤ (σ 0 10).toInt := hI.h0
  refine x_iload_n C 1 dX7_bounds_0 rfl rfl ?_
  refine x_callSi C (As := [.int (n)]) (rest := []) (c_isAhead l E σ τ n) ks_X7_187 ⟨Nat.le_of_ble_eq_true rfl, Nat.le_of_ble_eq_true rfl⟩ rfl rfl (Nat.le_of_ble_eq_true rfl) dX7_bounds_1 ?_
  refine x_ifeqB C (tgt := 16) dX7_bounds_4 (by decide) (fun h1 => ?_) (fun h1 => ?_)
  · refine x_aload_n C 0 dX7_bounds_16 rfl rfl ?_
    refine x_ldc C dX7_bounds_17 kc_X7_63 ?_
    refine x_callVi C (As := [.int ((-1000001))]) (rest := []) (c_finding l E σ τ 0 (by decide) (-1000001) (by decide)) kv_X7_64 (x_recv C (Nat.le_of_ble_eq_true rfl) xd_0 rfl) ⟨Nat.le_of_ble_eq_true rfl, Nat.le_of_ble_eq_true rfl⟩ rfl rfl (Nat.le_of_ble_eq_true rfl) dX7_bounds_19 ?_
    exact x_oret C (cpost_of (V := u2 (cv σ) 2 0 (σ 4 0 + 1)) (if_neg (by first | assumption | ((try simp only [rng, mayQ, tI_lt, tI_eq, cvr_0, mvr_0, cvr_c, mvr_c, tl_0, tl_1, tl_2, tl_3, tl_4, tl_5, tl_6, tl_7, tl_8, tl_9, tl_10, tl_11, tl_12, tl_13, tl_99, tl_400] at h1 ⊢) <;> omega))) (by rw [cv_u4]) (by rw [mv_u4]) rfl) dX7_bounds_22
  · refine x_iload_n C 2 dX7_bounds_7 rfl rfl ?_
    refine x_iconst C (v := 0) dX7_bounds_8 (by decide) ?_
    refine x_iconst C (v := 1) dX7_bounds_9 (by decide) ?_
    refine x_callSi C (As := [.int (what), .int (0), .int (1)]) (rest := []) (c_within l E σ τ what 0 1) ks_X7_59 ⟨Nat.le_of_ble_eq_true rfl, Nat.le_of_ble_eq_true rfl⟩ rfl rfl (Nat.le_of_ble_eq_true rfl) dX7_bounds_10 ?_
    refine x_ifneB C (tgt := 23) dX7_bounds_13 (by decide) (fun h2 => ?_) (fun h2 => ?_)
    · obtain ⟨q, hqa, hqb, rfl⟩ := rngN (a := 0) (b := 400) h1 (by decide) (by decide) (by decide)
      refine x_aload_n C 0 dX7_bounds_23 rfl rfl ?_
      refine x_get C (Nat.le_of_ble_eq_true rfl) xd_0 fl_X7_40 (q := (0, 59, 0)) (v := .ref (xad E (59))) rfl rfl dX7_bounds_24 ?_
      refine x_aload_n C 0 dX7_bounds_27 rfl rfl ?_
      refine x_get C (Nat.le_of_ble_eq_true rfl) xd_0 fl_X7_12 (q := (0, 1, 0)) (v := .ref (xad E (1))) rfl rfl dX7_bounds_28 ?_
      refine x_get C (Nat.le_of_ble_eq_true rfl) xd_1 fl_X7_68 (q := (0, 2, 0)) (v := .ref (xad E (2))) rfl rfl dX7_bounds_31 ?_
      refine x_callVv C (As := [.ref (xad E (2))]) (rest := []) (cW_become l E σ τ 2 0 (by decide) (by decide) (by decide)) kv_X7_190 (x_recv C (Nat.le_of_ble_eq_true rfl) xd_59 rfl) ⟨Nat.le_of_ble_eq_true rfl, Nat.le_of_ble_eq_true rfl⟩ rfl rfl (Nat.le_of_ble_eq_true rfl) dX7_bounds_34 ?_
      refine WM.alter (σ' := va_up σ 2 (σ 0)) (mix_run (by decide)) ?_
      refine WM.to (σ1 := va_up σ 2 (σ 0)) ?_ (congrArg (va_up _ _) rfl) rfl rfl rfl
      refine x_aload_n C 0 dX7_bounds_37 rfl rfl ?_
      refine x_get C (Nat.le_of_ble_eq_true rfl) xd_0 fl_X7_40 (q := (0, 59, 0)) (v := .ref (xad E (59))) rfl rfl dX7_bounds_38 ?_
      refine x_get C (Nat.le_of_ble_eq_true rfl) xd_59 fl_X7_104 (q := (1, 2, 4)) (v := .int ((σ 0) 4)) rfl (congrArg Value.int (congrFun (va_up_self _ _ _) _)) dX7_bounds_41 ?_
      refine x_istore_n C (lv1 := [(3, .int ((σ 0) 4)), (0, .ref (xad E (0))), (1, .int (nI q)), (2, .int (what))]) dX7_bounds_44 rfl (by decide) rfl ?_
      refine x_aload_n C 1 dX7_bounds_45 rfl rfl ?_
      refine x_get C (Nat.le_of_ble_eq_true rfl) xd_0 fl_X7_40 (q := (0, 59, 0)) (v := .ref (xad E (59))) rfl rfl dX7_bounds_46 ?_
      refine x_get C (Nat.le_of_ble_eq_true rfl) xd_59 fl_X7_104 (q := (1, 2, 4)) (v := .int ((σ 0) 4)) rfl (congrArg Value.int (congrFun (va_up_self _ _ _) _)) dX7_bounds_49 ?_
      refine x_istore C (lv1 := [(4, .int ((σ 0) 4)), (3, .int ((σ 0) 4)), (0, .ref (xad E (0))), (1, .int (nI q)), (2, .int (what))]) dX7_bounds_52 (by decide) rfl ?_
      refine x_iconst C (v := 1) dX7_bounds_54 (by decide) ?_
      refine x_istore C (lv1 := [(5, .int (1)), (4, .int ((σ 0) 4)), (3, .int ((σ 0) 4)), (0, .ref (xad E (0))), (1, .int (nI q)), (2, .int (what))]) dX7_bounds_55 (by decide) rfl ?_
      have loop : ∀ (j k : Nat), j + k = q → WM zp l ze { frames := 4, cells := 0, slots := 0, locals := 90 } zs zm za zb zh zc 0 0 (MQ zb (va_Qi (fun r (u : xV × (Nat → Int64)) => (cpost (sp_bounds (nI q) what (cv σ)) σ) r u.1) (fun u t => xP E u.1 u.2 t.heap) (xA E)) za zs 0 0 (xA E)) E (xA E) 6 (va_up σ 2 (stepsG (σ 0) k)) (τ) 57 [(0, .ref (xad E (0))), (1, .int (nI q)), (2, .int (what)), (3, .int (minP (σ 0) k)), (4, .int (maxP (σ 0) k)), (5, .int (nI (k + 1)))] [] := by
        intro j
        induction j with
        | zero =>
          intro k hk
          refine x_iload C 5 dX7_bounds_57 rfl ?_
          refine x_iload_n C 1 dX7_bounds_59 rfl rfl ?_
          refine x_icmp_gt C (tgt := 102) dX7_bounds_60 (by decide) (fun h3 => ?_) (fun h3 => absurd (nI_lt (a := q) (b := k + 1) (by omega) (by omega)) h3)
          refine x_iload_n C 2 dX7_bounds_102 rfl rfl ?_
          refine x_if_ne C (tgt := 110) dX7_bounds_103 (by decide) (fun h4 => ?_) (fun h4 => ?_)
          · refine x_iload C 4 dX7_bounds_110 rfl ?_
            exact x_oret C (cpost_of (V := cv σ) (Eq.trans (if_pos (by first | assumption | ((try simp only [rng, mayQ, tI_lt, tI_eq, cvr_0, mvr_0, cvr_c, mvr_c, tl_0, tl_1, tl_2, tl_3, tl_4, tl_5, tl_6, tl_7, tl_8, tl_9, tl_10, tl_11, tl_12, tl_13, tl_99, tl_400] at h1 h2 h4 ⊢) <;> omega))) (Eq.trans (congrArg (fun z => (bndP (cv σ 0) what z, cv σ)) (nI_clamp (by omega))) (by obtain rfl : k = q := (by omega); exact congrArg (fun z => (z, cv σ)) (if_neg h4)))) (by rw [cv_v2]) (by rw [mv_v2]) rfl) dX7_bounds_112
          · refine x_iload_n C 3 dX7_bounds_106 rfl rfl ?_
            refine x_goto2 C (tgt := 112) dX7_bounds_107 (by decide) ?_
            exact x_oret C (cpost_of (V := cv σ) (Eq.trans (if_pos (by first | assumption | ((try simp only [rng, mayQ, tI_lt, tI_eq, cvr_0, mvr_0, cvr_c, mvr_c, tl_0, tl_1, tl_2, tl_3, tl_4, tl_5, tl_6, tl_7, tl_8, tl_9, tl_10, tl_11, tl_12, tl_13, tl_99, tl_400] at h1 h2 h4 ⊢) <;> omega))) (Eq.trans (congrArg (fun z => (bndP (cv σ 0) what z, cv σ)) (nI_clamp (by omega))) (by obtain rfl : k = q := (by omega); exact congrArg (fun z => (z, cv σ)) (if_pos h4)))) (by rw [cv_v2]) (by rw [mv_v2]) rfl) dX7_bounds_112
        | succ j ih =>
          intro k hk
          refine x_iload C 5 dX7_bounds_57 rfl ?_
          refine x_iload_n C 1 dX7_bounds_59 rfl rfl ?_
          refine x_icmp_gt C (tgt := 102) dX7_bounds_60 (by decide) (fun h5 => absurd h5 (nI_nlt (a := q) (b := k + 1) (by omega) (by omega))) (fun h5 => ?_)
          refine x_aload_n C 0 dX7_bounds_63 rfl rfl ?_
          refine x_get C (Nat.le_of_ble_eq_true rfl) xd_0 fl_X7_40 (q := (0, 59, 0)) (v := .ref (xad E (59))) rfl rfl dX7_bounds_64 ?_
          refine x_callVv C (As := []) (rest := []) (cW_step l E σ τ 2 (by decide) (stepsG (σ 0) k) (gI_steps hg k) (gT_steps hgT k (by omega)).1) kv_X7_203 (x_recv C (Nat.le_of_ble_eq_true rfl) xd_59 rfl) ⟨Nat.le_of_ble_eq_true rfl, Nat.le_of_ble_eq_true rfl⟩ rfl rfl (Nat.le_of_ble_eq_true rfl) dX7_bounds_67 ?_
          refine x_iload_n C 3 dX7_bounds_70 rfl rfl ?_
          refine x_aload_n C 0 dX7_bounds_71 rfl rfl ?_
          refine x_get C (Nat.le_of_ble_eq_true rfl) xd_0 fl_X7_40 (q := (0, 59, 0)) (v := .ref (xad E (59))) rfl rfl dX7_bounds_72 ?_
          refine x_get C (Nat.le_of_ble_eq_true rfl) xd_59 fl_X7_104 (q := (1, 2, 4)) (v := .int ((stepG (stepsG (σ 0) k)) 4)) rfl (congrArg Value.int (congrFun (va_up_self _ _ _) _)) dX7_bounds_75 ?_
          refine x_mmin C km_X7_151 kM_min ⟨Nat.le_of_ble_eq_true rfl, Nat.le_of_ble_eq_true rfl⟩ dX7_bounds_78 ?_
          refine x_istore_n C (lv1 := [(3, .int (if ((stepG (stepsG (σ 0) k)) 4) < (minP (σ 0) k) then ((stepG (stepsG (σ 0) k)) 4) else (minP (σ 0) k))), (0, .ref (xad E (0))), (1, .int (nI q)), (2, .int (what)), (4, .int (maxP (σ 0) k)), (5, .int (nI (k + 1)))]) dX7_bounds_81 rfl (by decide) rfl ?_
          refine x_iload C 4 dX7_bounds_82 rfl ?_
          refine x_aload_n C 1 dX7_bounds_84 rfl rfl ?_
          refine x_get C (Nat.le_of_ble_eq_true rfl) xd_0 fl_X7_40 (q := (0, 59, 0)) (v := .ref (xad E (59))) rfl rfl dX7_bounds_85 ?_
          refine x_get C (Nat.le_of_ble_eq_true rfl) xd_59 fl_X7_104 (q := (1, 2, 4)) (v := .int ((stepG (stepsG (σ 0) k)) 4)) rfl (congrArg Value.int (congrFun (va_up_self _ _ _) _)) dX7_bounds_88 ?_
          refine x_mmax C km_X7_212 kM_max ⟨Nat.le_of_ble_eq_true rfl, Nat.le_of_ble_eq_true rfl⟩ dX7_bounds_91 ?_
          refine x_istore C (lv1 := [(4, .int (if (maxP (σ 0) k) < ((stepG (stepsG (σ 0) k)) 4) then ((stepG (stepsG (σ 0) k)) 4) else (maxP (σ 0) k))), (3, .int (if ((stepG (stepsG (σ 0) k)) 4) < (minP (σ 0) k) then ((stepG (stepsG (σ 0) k)) 4) else (minP (σ 0) k))), (0, .ref (xad E (0))), (1, .int (nI q)), (2, .int (what)), (5, .int (nI (k + 1)))]) dX7_bounds_94 (by decide) rfl ?_
          refine x_iinc C (v := nI (k + 1 + 1)) (lv1 := [(5, .int (nI (k + 1 + 1))), (4, .int (if (maxP (σ 0) k) < ((stepG (stepsG (σ 0) k)) 4) then ((stepG (stepsG (σ 0) k)) 4) else (maxP (σ 0) k))), (3, .int (if ((stepG (stepsG (σ 0) k)) 4) < (minP (σ 0) k) then ((stepG (stepsG (σ 0) k)) 4) else (minP (σ 0) k))), (0, .ref (xad E (0))), (1, .int (nI q)), (2, .int (what))]) 5 dX7_bounds_96 rfl (nI_add (k + 1) 1) (by decide) rfl ?_
          refine x_goto2 C (tgt := 57) dX7_bounds_99 (by decide) ?_
          refine WM.keep [3, 4, 5, 2, 1, 0] (lv' := [(0, .ref (xad E (0))), (1, .int (nI q)), (2, .int (what)), (3, .int (if ((stepG (stepsG (σ 0) k)) 4) < (minP (σ 0) k) then ((stepG (stepsG (σ 0) k)) 4) else (minP (σ 0) k))), (4, .int (if (maxP (σ 0) k) < ((stepG (stepsG (σ 0) k)) 4) then ((stepG (stepsG (σ 0) k)) 4) else (maxP (σ 0) k))), (5, .int (nI (k + 1 + 1)))]) rfl ?_
          exact WM.to (ih (k + 1) (by omega)) rfl rfl rfl rfl
      refine WM.keep [3, 4, 5, 2, 1, 0] rfl ?_
      exact WM.to (loop (q) 0 (by omega)) rfl rfl rfl rfl
    · refine x_aload_n C 0 dX7_bounds_16 rfl rfl ?_
      refine x_ldc C dX7_bounds_17 kc_X7_63 ?_
      refine x_callVi C (As := [.int ((-1000001))]) (rest := []) (c_finding l E σ τ 0 (by decide) (-1000001) (by decide)) kv_X7_64 (x_recv C (Nat.le_of_ble_eq_true rfl) xd_0 rfl) ⟨Nat.le_of_ble_eq_true rfl, Nat.le_of_ble_eq_true rfl⟩ rfl rfl (Nat.le_of_ble_eq_true rfl) dX7_bounds_19 ?_
      exact x_oret C (cpost_of (V := u2 (cv σ) 2 0 (σ 4 0 + 1)) (if_neg (by first | assumption | ((try simp only [rng, mayQ, tI_lt, tI_eq, cvr_0, mvr_0, cvr_c, mvr_c, tl_0, tl_1, tl_2, tl_3, tl_4, tl_5, tl_6, tl_7, tl_8, tl_9, tl_10, tl_11, tl_12, tl_13, tl_99, tl_400] at h1 h2 ⊢) <;> omega))) (by rw [cv_u4]) (by rw [mv_u4]) rfl) dX7_bounds_22
set_option maxHeartbeats 4000000 in
set_option maxRecDepth 100000 in
theorem m_bounds (l : Launch) (E : xE) (σ : Nat → Nat → Int32) (τ : Nat → Int64) (T : Nat) (hT : T < 1073741824) (n what : Int32) (hI : Inv (mv σ) T) (hlv : ∀ j, j < 12 → σ 15 j = (xzl 1).getD j 0) : xOi l yX8_bounds cX8_bounds 5 .int 3 69 E [.ref (xad E (81)), .int (n), .int (what)] σ τ (mpost (sp_bounds n what (mv σ)) σ) := by
  refine xOi_of (own := RX8) (by decide +kernel) rfl (Nat.le_of_ble_eq_true rfl) ?_
  intro zp ze zs zm za zb zh zc C
  refine WM.to (lv1 := [(0, .ref (xad E (81))), (1, .int (n)), (2, .int (what))]) (st1 := []) (σ1 := σ) (τ1 := τ) ?_ rfl rfl rfl rfl
  have hg : gI (σ 10) := hI.g
  have hgT : gT (σ 10) T := hI.t
  have h0 : 0 ≤ (σ 10 10).toInt := hI.h0
  refine x_iload_n C 1 dX8_bounds_0 rfl rfl ?_
  refine x_i2l C dX8_bounds_1 ?_
  refine x_lconst C (v := 0) dX8_bounds_2 (by decide) ?_
  refine x_ldc2 C dX8_bounds_3 kc_X8_231 ?_
  refine x_callSi C (As := [.long (Int32.toInt64 n), .long (0), .long (400)]) (rest := []) (c_in l E σ τ (Int32.toInt64 n) 0 400) ks_X8_49 ⟨Nat.le_of_ble_eq_true rfl, Nat.le_of_ble_eq_true rfl⟩ rfl rfl (Nat.le_of_ble_eq_true rfl) dX8_bounds_6 ?_
  refine WM.topi (y := if rng n 0 400 then 1 else 0) (in_eq n 0 400 (by decide) (by decide)) ?_
  refine x_ifeqB C (tgt := 22) dX8_bounds_9 (by decide) (fun h1 => ?_) (fun h1 => ?_)
  · refine x_aload_n C 0 dX8_bounds_22 rfl rfl ?_
    refine x_ldc C dX8_bounds_23 kc_X8_46 ?_
    refine x_callVi C (As := [.int ((-1000001))]) (rest := []) (c_finds l E σ τ 0 (by decide) (-1000001) (by decide)) kv_X8_61 (x_recv C (Nat.le_of_ble_eq_true rfl) xd_81 rfl) ⟨Nat.le_of_ble_eq_true rfl, Nat.le_of_ble_eq_true rfl⟩ rfl rfl (Nat.le_of_ble_eq_true rfl) dX8_bounds_25 ?_
    exact x_oret C (mpost_of (V := u2 (mv σ) 2 0 (σ 14 0 + 1)) (if_neg (by first | assumption | ((try simp only [rng, mayQ, tI_lt, tI_eq, cvr_0, mvr_0, cvr_c, mvr_c, tl_0, tl_1, tl_2, tl_3, tl_4, tl_5, tl_6, tl_7, tl_8, tl_9, tl_10, tl_11, tl_12, tl_13, tl_99, tl_400] at h1 ⊢) <;> omega))) (by rw [mv_u14]) (by rw [cv_u14]) rfl) dX8_bounds_28
  · refine x_iload_n C 2 dX8_bounds_12 rfl rfl ?_
    refine x_i2l C dX8_bounds_13 ?_
    refine x_lconst C (v := 0) dX8_bounds_14 (by decide) ?_
    refine x_lconst C (v := 1) dX8_bounds_15 (by decide) ?_
    refine x_callSi C (As := [.long (Int32.toInt64 what), .long (0), .long (1)]) (rest := []) (c_in l E σ τ (Int32.toInt64 what) 0 1) ks_X8_49 ⟨Nat.le_of_ble_eq_true rfl, Nat.le_of_ble_eq_true rfl⟩ rfl rfl (Nat.le_of_ble_eq_true rfl) dX8_bounds_16 ?_
    refine WM.topi (y := if rng what 0 1 then 1 else 0) (in_eq what 0 1 (by decide) (by decide)) ?_
    refine x_ifneB C (tgt := 29) dX8_bounds_19 (by decide) (fun h2 => ?_) (fun h2 => ?_)
    · obtain ⟨q, hqa, hqb, rfl⟩ := rngN (a := 0) (b := 400) h1 (by decide) (by decide) (by decide)
      refine x_aload_n C 0 dX8_bounds_29 rfl rfl ?_
      refine x_get C (Nat.le_of_ble_eq_true rfl) xd_81 fl_X8_9 (q := (0, 82, 0)) (v := .ref (xad E (82))) rfl rfl dX8_bounds_30 ?_
      refine x_aload_n C 0 dX8_bounds_33 rfl rfl ?_
      refine x_get C (Nat.le_of_ble_eq_true rfl) xd_81 fl_X8_13 (q := (0, 83, 0)) (v := .ref (xad E (83))) rfl rfl dX8_bounds_34 ?_
      refine x_callSv C (As := [.ref (xad E (82)), .ref (xad E (83))]) (rest := []) (cM_copies l E σ τ 10 11 (by decide) (by decide) (by decide)) ks_X8_235 ⟨Nat.le_of_ble_eq_true rfl, Nat.le_of_ble_eq_true rfl⟩ rfl rfl (Nat.le_of_ble_eq_true rfl) dX8_bounds_37 ?_
      refine WM.to (σ1 := va_up σ 11 (σ 10)) ?_ (congrArg (va_up _ _) rfl) rfl rfl rfl
      refine x_aload_n C 0 dX8_bounds_40 rfl rfl ?_
      refine x_get C (Nat.le_of_ble_eq_true rfl) xd_81 fl_X8_13 (q := (0, 83, 0)) (v := .ref (xad E (83))) rfl rfl dX8_bounds_41 ?_
      refine x_iconst C (v := 4) dX8_bounds_44 (by decide) ?_
      refine x_ald C (Nat.le_of_ble_eq_true rfl) xd_83 (v := (σ 10) 4) (vp_in_nI (show 4 < 284 by omega) (by decide)) (by rw [(show (4 : Int32).toNatClampNeg = 4 from by decide), Nat.zero_add, Nat.one_mul]; exact (congrFun (va_up_self _ _ _) _)) dX8_bounds_45 ?_
      refine x_istore_n C (lv1 := [(3, .int ((σ 10) 4)), (0, .ref (xad E (81))), (1, .int (nI q)), (2, .int (what))]) dX8_bounds_46 rfl (by decide) rfl ?_
      refine x_iconst C (v := 0) dX8_bounds_47 (by decide) ?_
      refine x_istore C (lv1 := [(4, .int (0)), (3, .int ((σ 10) 4)), (0, .ref (xad E (81))), (1, .int (nI q)), (2, .int (what))]) dX8_bounds_48 (by decide) rfl ?_
      have loop : ∀ (j k : Nat), j + k = q → WM zp l ze { frames := 3, cells := 0, slots := 0, locals := 69 } zs zm za zb zh zc 0 0 (MQ zb (va_Qi (fun r (u : xV × (Nat → Int64)) => (mpost (sp_bounds (nI q) what (mv σ)) σ) r u.1) (fun u t => xP E u.1 u.2 t.heap) (xA E)) za zs 0 0 (xA E)) E (xA E) 5 (va_up σ 11 (stepsG (σ 10) k)) (τ) 50 [(0, .ref (xad E (81))), (1, .int (nI q)), (2, .int (what)), (3, .int (bndP (σ 10) what k)), (4, .int (nI k))] [] := by
        intro j
        induction j with
        | zero =>
          intro k hk
          refine x_iload C 4 dX8_bounds_50 rfl ?_
          refine x_iload_n C 1 dX8_bounds_52 rfl rfl ?_
          refine x_icmp_ge C (tgt := 108) dX8_bounds_53 (by decide) (fun h3 => ?_) (fun h3 => absurd h3 (nI_nlt (a := k) (b := q) (by omega) (by omega)))
          refine x_iload_n C 3 dX8_bounds_108 rfl rfl ?_
          exact x_oret C (mpost_of (V := mv σ) (Eq.trans (if_pos (by first | assumption | ((try simp only [rng, mayQ, tI_lt, tI_eq, cvr_0, mvr_0, cvr_c, mvr_c, tl_0, tl_1, tl_2, tl_3, tl_4, tl_5, tl_6, tl_7, tl_8, tl_9, tl_10, tl_11, tl_12, tl_13, tl_99, tl_400] at h1 h2 ⊢) <;> omega))) (Eq.trans (congrArg (fun z => (bndP (mv σ 0) what z, mv σ)) (nI_clamp (by omega))) (by obtain rfl : k = q := (by omega); rfl))) (by rw [mv_v11]) (by rw [cv_v11]) rfl) dX8_bounds_109
        | succ j ih =>
          intro k hk
          refine x_iload C 4 dX8_bounds_50 rfl ?_
          refine x_iload_n C 1 dX8_bounds_52 rfl rfl ?_
          refine x_icmp_ge C (tgt := 108) dX8_bounds_53 (by decide) (fun h4 => absurd (nI_lt (a := k) (b := q) (by omega) (by omega)) h4) (fun h4 => ?_)
          refine x_aload_n C 0 dX8_bounds_56 rfl rfl ?_
          refine x_aload_n C 0 dX8_bounds_57 rfl rfl ?_
          refine x_get C (Nat.le_of_ble_eq_true rfl) xd_81 fl_X8_13 (q := (0, 83, 0)) (v := .ref (xad E (83))) rfl rfl dX8_bounds_58 ?_
          refine x_callVv C (As := [.ref (xad E (83))]) (rest := []) (cM_goesBy l E σ τ 11 (by decide) (stepsG (σ 10) k) (gI_steps hg k) (gT_steps hgT k (by omega)).1 hlv) kv_X8_108 (x_recv C (Nat.le_of_ble_eq_true rfl) xd_81 rfl) ⟨Nat.le_of_ble_eq_true rfl, Nat.le_of_ble_eq_true rfl⟩ rfl rfl (Nat.le_of_ble_eq_true rfl) dX8_bounds_61 ?_
          refine x_iload_n C 2 dX8_bounds_64 rfl rfl ?_
          refine x_if_ne C (tgt := 81) dX8_bounds_65 (by decide) (fun h5 => ?_) (fun h5 => ?_)
          · refine x_aload_n C 0 dX8_bounds_81 rfl rfl ?_
            refine x_get C (Nat.le_of_ble_eq_true rfl) xd_81 fl_X8_13 (q := (0, 83, 0)) (v := .ref (xad E (83))) rfl rfl dX8_bounds_82 ?_
            refine x_iconst C (v := 4) dX8_bounds_85 (by decide) ?_
            refine x_ald C (Nat.le_of_ble_eq_true rfl) xd_83 (v := (stepG (stepsG (σ 10) k)) 4) (vp_in_nI (show 4 < 284 by omega) (by decide)) (by rw [(show (4 : Int32).toNatClampNeg = 4 from by decide), Nat.zero_add, Nat.one_mul]; exact (congrFun (va_up_self _ _ _) _)) dX8_bounds_86 ?_
            refine x_iload_n C 3 dX8_bounds_87 rfl rfl ?_
            refine x_icmp_le C (tgt := 100) dX8_bounds_88 (by decide) (fun h6 => ?_) (fun h6 => ?_)
            · refine x_iload_n C 3 dX8_bounds_100 rfl rfl ?_
              refine WM.topi (y := bndP (σ 10) what (k + 1)) (bnd_d h5 h6) ?_
              refine x_istore_n C (lv1 := [(3, .int (bndP (σ 10) what (k + 1))), (0, .ref (xad E (81))), (1, .int (nI q)), (2, .int (what)), (4, .int (nI k))]) dX8_bounds_101 rfl (by decide) rfl ?_
              refine x_iinc C (v := nI (k + 1)) (lv1 := [(4, .int (nI (k + 1))), (3, .int (bndP (σ 10) what (k + 1))), (0, .ref (xad E (81))), (1, .int (nI q)), (2, .int (what))]) 4 dX8_bounds_102 rfl (nI_add k 1) (by decide) rfl ?_
              refine x_goto2 C (tgt := 50) dX8_bounds_105 (by decide) ?_
              refine WM.keep [2, 3, 4, 1, 0] (lv' := [(0, .ref (xad E (81))), (1, .int (nI q)), (2, .int (what)), (3, .int (bndP (σ 10) what (k + 1))), (4, .int (nI (k + 1)))]) rfl ?_
              exact WM.to (ih (k + 1) (by omega)) rfl rfl rfl rfl
            · refine x_aload_n C 0 dX8_bounds_91 rfl rfl ?_
              refine x_get C (Nat.le_of_ble_eq_true rfl) xd_81 fl_X8_13 (q := (0, 83, 0)) (v := .ref (xad E (83))) rfl rfl dX8_bounds_92 ?_
              refine x_iconst C (v := 4) dX8_bounds_95 (by decide) ?_
              refine x_ald C (Nat.le_of_ble_eq_true rfl) xd_83 (v := (stepG (stepsG (σ 10) k)) 4) (vp_in_nI (show 4 < 284 by omega) (by decide)) (by rw [(show (4 : Int32).toNatClampNeg = 4 from by decide), Nat.zero_add, Nat.one_mul]; exact (congrFun (va_up_self _ _ _) _)) dX8_bounds_96 ?_
              refine x_goto2 C (tgt := 101) dX8_bounds_97 (by decide) ?_
              refine WM.topi (y := bndP (σ 10) what (k + 1)) (bnd_c h5 h6) ?_
              refine x_istore_n C (lv1 := [(3, .int (bndP (σ 10) what (k + 1))), (0, .ref (xad E (81))), (1, .int (nI q)), (2, .int (what)), (4, .int (nI k))]) dX8_bounds_101 rfl (by decide) rfl ?_
              refine x_iinc C (v := nI (k + 1)) (lv1 := [(4, .int (nI (k + 1))), (3, .int (bndP (σ 10) what (k + 1))), (0, .ref (xad E (81))), (1, .int (nI q)), (2, .int (what))]) 4 dX8_bounds_102 rfl (nI_add k 1) (by decide) rfl ?_
              refine x_goto2 C (tgt := 50) dX8_bounds_105 (by decide) ?_
              refine WM.keep [2, 3, 4, 1, 0] (lv' := [(0, .ref (xad E (81))), (1, .int (nI q)), (2, .int (what)), (3, .int (bndP (σ 10) what (k + 1))), (4, .int (nI (k + 1)))]) rfl ?_
              exact WM.to (ih (k + 1) (by omega)) rfl rfl rfl rfl
          · refine x_aload_n C 0 dX8_bounds_68 rfl rfl ?_
            refine x_get C (Nat.le_of_ble_eq_true rfl) xd_81 fl_X8_13 (q := (0, 83, 0)) (v := .ref (xad E (83))) rfl rfl dX8_bounds_69 ?_
            refine x_iconst C (v := 4) dX8_bounds_72 (by decide) ?_
            refine x_ald C (Nat.le_of_ble_eq_true rfl) xd_83 (v := (stepG (stepsG (σ 10) k)) 4) (vp_in_nI (show 4 < 284 by omega) (by decide)) (by rw [(show (4 : Int32).toNatClampNeg = 4 from by decide), Nat.zero_add, Nat.one_mul]; exact (congrFun (va_up_self _ _ _) _)) dX8_bounds_73 ?_
            refine x_iload_n C 3 dX8_bounds_74 rfl rfl ?_
            refine x_icmp_ge C (tgt := 100) dX8_bounds_75 (by decide) (fun h7 => ?_) (fun h7 => ?_)
            · refine x_iload_n C 3 dX8_bounds_100 rfl rfl ?_
              refine WM.topi (y := bndP (σ 10) what (k + 1)) (bnd_b h5 h7) ?_
              refine x_istore_n C (lv1 := [(3, .int (bndP (σ 10) what (k + 1))), (0, .ref (xad E (81))), (1, .int (nI q)), (2, .int (what)), (4, .int (nI k))]) dX8_bounds_101 rfl (by decide) rfl ?_
              refine x_iinc C (v := nI (k + 1)) (lv1 := [(4, .int (nI (k + 1))), (3, .int (bndP (σ 10) what (k + 1))), (0, .ref (xad E (81))), (1, .int (nI q)), (2, .int (what))]) 4 dX8_bounds_102 rfl (nI_add k 1) (by decide) rfl ?_
              refine x_goto2 C (tgt := 50) dX8_bounds_105 (by decide) ?_
              refine WM.keep [2, 3, 4, 1, 0] (lv' := [(0, .ref (xad E (81))), (1, .int (nI q)), (2, .int (what)), (3, .int (bndP (σ 10) what (k + 1))), (4, .int (nI (k + 1)))]) rfl ?_
              exact WM.to (ih (k + 1) (by omega)) rfl rfl rfl rfl
            · refine x_goto2 C (tgt := 91) dX8_bounds_78 (by decide) ?_
              refine x_aload_n C 0 dX8_bounds_91 rfl rfl ?_
              refine x_get C (Nat.le_of_ble_eq_true rfl) xd_81 fl_X8_13 (q := (0, 83, 0)) (v := .ref (xad E (83))) rfl rfl dX8_bounds_92 ?_
              refine x_iconst C (v := 4) dX8_bounds_95 (by decide) ?_
              refine x_ald C (Nat.le_of_ble_eq_true rfl) xd_83 (v := (stepG (stepsG (σ 10) k)) 4) (vp_in_nI (show 4 < 284 by omega) (by decide)) (by rw [(show (4 : Int32).toNatClampNeg = 4 from by decide), Nat.zero_add, Nat.one_mul]; exact (congrFun (va_up_self _ _ _) _)) dX8_bounds_96 ?_
              refine x_goto2 C (tgt := 101) dX8_bounds_97 (by decide) ?_
              refine WM.topi (y := bndP (σ 10) what (k + 1)) (bnd_a h5 h7) ?_
              refine x_istore_n C (lv1 := [(3, .int (bndP (σ 10) what (k + 1))), (0, .ref (xad E (81))), (1, .int (nI q)), (2, .int (what)), (4, .int (nI k))]) dX8_bounds_101 rfl (by decide) rfl ?_
              refine x_iinc C (v := nI (k + 1)) (lv1 := [(4, .int (nI (k + 1))), (3, .int (bndP (σ 10) what (k + 1))), (0, .ref (xad E (81))), (1, .int (nI q)), (2, .int (what))]) 4 dX8_bounds_102 rfl (nI_add k 1) (by decide) rfl ?_
              refine x_goto2 C (tgt := 50) dX8_bounds_105 (by decide) ?_
              refine WM.keep [2, 3, 4, 1, 0] (lv' := [(0, .ref (xad E (81))), (1, .int (nI q)), (2, .int (what)), (3, .int (bndP (σ 10) what (k + 1))), (4, .int (nI (k + 1)))]) rfl ?_
              exact WM.to (ih (k + 1) (by omega)) rfl rfl rfl rfl
      refine WM.keep [2, 3, 4, 1, 0] rfl ?_
      exact WM.to (loop (q) 0 (by omega)) rfl rfl (by rw [show bndP (σ 10) what 0 = σ 10 4 from by unfold bndP; split <;> rfl]; rfl) rfl
    · refine x_aload_n C 0 dX8_bounds_22 rfl rfl ?_
      refine x_ldc C dX8_bounds_23 kc_X8_46 ?_
      refine x_callVi C (As := [.int ((-1000001))]) (rest := []) (c_finds l E σ τ 0 (by decide) (-1000001) (by decide)) kv_X8_61 (x_recv C (Nat.le_of_ble_eq_true rfl) xd_81 rfl) ⟨Nat.le_of_ble_eq_true rfl, Nat.le_of_ble_eq_true rfl⟩ rfl rfl (Nat.le_of_ble_eq_true rfl) dX8_bounds_25 ?_
      exact x_oret C (mpost_of (V := u2 (mv σ) 2 0 (σ 14 0 + 1)) (if_neg (by first | assumption | ((try simp only [rng, mayQ, tI_lt, tI_eq, cvr_0, mvr_0, cvr_c, mvr_c, tl_0, tl_1, tl_2, tl_3, tl_4, tl_5, tl_6, tl_7, tl_8, tl_9, tl_10, tl_11, tl_12, tl_13, tl_99, tl_400] at h1 h2 ⊢) <;> omega))) (by rw [mv_u14]) (by rw [cv_u14]) rfl) dX8_bounds_28
set_option maxHeartbeats 4000000 in
set_option maxRecDepth 100000 in
theorem k_often (l : Launch) (E : xE) (σ : Nat → Nat → Int32) (τ : Nat → Int64) (T : Nat) (hT : T < 1073741824) (n : Int32) (hI : Inv (cv σ) T) : xOi l yX7_often cX7_often 4 .int 4 90 E [.ref (xad E (0)), .int (n)] σ τ (cpost (sp_often n (cv σ)) σ) := by
  refine xOi_of (own := RX7) (by decide +kernel) rfl (Nat.le_of_ble_eq_true rfl) ?_
  intro zp ze zs zm za zb zh zc C
  refine WM.to (lv1 := [(0, .ref (xad E (0))), (1, .int (n))]) (st1 := []) (σ1 := σ) (τ1 := τ) ?_ rfl rfl rfl rfl
  have hg : gI (σ 0) := hI.g
  have hgT : gT (σ 0) T := hI.t
  have h0 : 0 ≤ (σ 0 10).toInt := hI.h0
  refine x_iload_n C 1 dX7_often_0 rfl rfl ?_
  refine x_iconst C (v := 1) dX7_often_1 (by decide) ?_
  refine x_sipush C (v := 400) dX7_often_2 (by decide) ?_
  refine x_callSi C (As := [.int (n), .int (1), .int (400)]) (rest := []) (c_within l E σ τ n 1 400) ks_X7_59 ⟨Nat.le_of_ble_eq_true rfl, Nat.le_of_ble_eq_true rfl⟩ rfl rfl (Nat.le_of_ble_eq_true rfl) dX7_often_5 ?_
  refine x_ifneB C (tgt := 18) dX7_often_8 (by decide) (fun h1 => ?_) (fun h1 => ?_)
  · obtain ⟨q, hqa, hqb, rfl⟩ := rngN (a := 1) (b := 400) h1 (by decide) (by decide) (by decide)
    refine x_aload_n C 0 dX7_often_18 rfl rfl ?_
    refine x_get C (Nat.le_of_ble_eq_true rfl) xd_0 fl_X7_40 (q := (0, 59, 0)) (v := .ref (xad E (59))) rfl rfl dX7_often_19 ?_
    refine x_aload_n C 0 dX7_often_22 rfl rfl ?_
    refine x_get C (Nat.le_of_ble_eq_true rfl) xd_0 fl_X7_12 (q := (0, 1, 0)) (v := .ref (xad E (1))) rfl rfl dX7_often_23 ?_
    refine x_get C (Nat.le_of_ble_eq_true rfl) xd_1 fl_X7_68 (q := (0, 2, 0)) (v := .ref (xad E (2))) rfl rfl dX7_often_26 ?_
    refine x_callVv C (As := [.ref (xad E (2))]) (rest := []) (cW_become l E σ τ 2 0 (by decide) (by decide) (by decide)) kv_X7_190 (x_recv C (Nat.le_of_ble_eq_true rfl) xd_59 rfl) ⟨Nat.le_of_ble_eq_true rfl, Nat.le_of_ble_eq_true rfl⟩ rfl rfl (Nat.le_of_ble_eq_true rfl) dX7_often_29 ?_
    refine WM.alter (σ' := va_up σ 2 (σ 0)) (mix_run (by decide)) ?_
    refine WM.to (σ1 := va_up σ 2 (σ 0)) ?_ (congrArg (va_up _ _) rfl) rfl rfl rfl
    refine x_iconst C (v := 0) dX7_often_32 (by decide) ?_
    refine x_istore_n C (lv1 := [(2, .int (0)), (0, .ref (xad E (0))), (1, .int (nI q))]) dX7_often_33 rfl (by decide) rfl ?_
    refine x_iconst C (v := 1) dX7_often_34 (by decide) ?_
    refine x_istore_n C (lv1 := [(3, .int (1)), (2, .int (0)), (0, .ref (xad E (0))), (1, .int (nI q))]) dX7_often_35 rfl (by decide) rfl ?_
    have loop : ∀ (j k : Nat), j + k = q → WM zp l ze { frames := 4, cells := 0, slots := 0, locals := 90 } zs zm za zb zh zc 0 0 (MQ zb (va_Qi (fun r (u : xV × (Nat → Int64)) => (cpost (sp_often (nI q) (cv σ)) σ) r u.1) (fun u t => xP E u.1 u.2 t.heap) (xA E)) za zs 0 0 (xA E)) E (xA E) 4 (va_up σ 2 (stepsG (σ 0) k)) (τ) 36 [(0, .ref (xad E (0))), (1, .int (nI q)), (2, .int (oftP (σ 0) k)), (3, .int (nI (k + 1)))] [] := by
      intro j
      induction j with
      | zero =>
        intro k hk
        refine x_iload_n C 3 dX7_often_36 rfl rfl ?_
        refine x_iload_n C 1 dX7_often_37 rfl rfl ?_
        refine x_icmp_gt C (tgt := 67) dX7_often_38 (by decide) (fun h2 => ?_) (fun h2 => absurd (nI_lt (a := q) (b := k + 1) (by omega) (by omega)) h2)
        refine x_iload_n C 2 dX7_often_67 rfl rfl ?_
        exact x_oret C (cpost_of (V := cv σ) (Eq.trans (if_pos (by first | assumption | ((try simp only [rng, mayQ, tI_lt, tI_eq, cvr_0, mvr_0, cvr_c, mvr_c, tl_0, tl_1, tl_2, tl_3, tl_4, tl_5, tl_6, tl_7, tl_8, tl_9, tl_10, tl_11, tl_12, tl_13, tl_99, tl_400] at h1 ⊢) <;> omega))) (Eq.trans (congrArg (fun z => (oftP (cv σ 0) z, cv σ)) (nI_clamp (by omega))) (by obtain rfl : k = q := (by omega); rfl))) (by rw [cv_v2]) (by rw [mv_v2]) rfl) dX7_often_68
      | succ j ih =>
        intro k hk
        refine x_iload_n C 3 dX7_often_36 rfl rfl ?_
        refine x_iload_n C 1 dX7_often_37 rfl rfl ?_
        refine x_icmp_gt C (tgt := 67) dX7_often_38 (by decide) (fun h3 => absurd h3 (nI_nlt (a := q) (b := k + 1) (by omega) (by omega))) (fun h3 => ?_)
        refine x_aload_n C 0 dX7_often_41 rfl rfl ?_
        refine x_get C (Nat.le_of_ble_eq_true rfl) xd_0 fl_X7_40 (q := (0, 59, 0)) (v := .ref (xad E (59))) rfl rfl dX7_often_42 ?_
        refine x_callVv C (As := []) (rest := []) (cW_step l E σ τ 2 (by decide) (stepsG (σ 0) k) (gI_steps hg k) (gT_steps hgT k (by omega)).1) kv_X7_203 (x_recv C (Nat.le_of_ble_eq_true rfl) xd_59 rfl) ⟨Nat.le_of_ble_eq_true rfl, Nat.le_of_ble_eq_true rfl⟩ rfl rfl (Nat.le_of_ble_eq_true rfl) dX7_often_45 ?_
        refine x_aload_n C 0 dX7_often_48 rfl rfl ?_
        refine x_get C (Nat.le_of_ble_eq_true rfl) xd_0 fl_X7_40 (q := (0, 59, 0)) (v := .ref (xad E (59))) rfl rfl dX7_often_49 ?_
        refine x_get C (Nat.le_of_ble_eq_true rfl) xd_59 fl_X7_104 (q := (1, 2, 4)) (v := .int ((stepG (stepsG (σ 0) k)) 4)) rfl (congrArg Value.int (congrFun (va_up_self _ _ _) _)) dX7_often_52 ?_
        refine x_if_le C (tgt := 61) dX7_often_55 (by decide) (fun h4 => ?_) (fun h4 => ?_)
        · refine x_iinc C (v := nI (k + 1 + 1)) (lv1 := [(3, .int (nI (k + 1 + 1))), (0, .ref (xad E (0))), (1, .int (nI q)), (2, .int (oftP (σ 0) k))]) 3 dX7_often_61 rfl (nI_add (k + 1) 1) (by decide) rfl ?_
          refine x_goto2 C (tgt := 36) dX7_often_64 (by decide) ?_
          refine WM.keep [1, 2, 3, 0] (lv' := [(0, .ref (xad E (0))), (1, .int (nI q)), (2, .int (oftP (σ 0) k)), (3, .int (nI (k + 1 + 1)))]) rfl ?_
          exact WM.to (ih (k + 1) (by omega)) rfl rfl (by rw [show oftP (σ 0) (k + 1) = oftP (σ 0) k from if_neg h4]) rfl
        · refine x_iinc C (v := (oftP (σ 0) k) + 1) (lv1 := [(2, .int ((oftP (σ 0) k) + 1)), (0, .ref (xad E (0))), (1, .int (nI q)), (3, .int (nI (k + 1)))]) 2 dX7_often_58 rfl rfl (by decide) rfl ?_
          refine x_iinc C (v := nI (k + 1 + 1)) (lv1 := [(3, .int (nI (k + 1 + 1))), (2, .int ((oftP (σ 0) k) + 1)), (0, .ref (xad E (0))), (1, .int (nI q))]) 3 dX7_often_61 rfl (nI_add (k + 1) 1) (by decide) rfl ?_
          refine x_goto2 C (tgt := 36) dX7_often_64 (by decide) ?_
          refine WM.keep [2, 3, 1, 0] (lv' := [(0, .ref (xad E (0))), (1, .int (nI q)), (2, .int ((oftP (σ 0) k) + 1)), (3, .int (nI (k + 1 + 1)))]) rfl ?_
          exact WM.to (ih (k + 1) (by omega)) rfl rfl (by rw [show oftP (σ 0) (k + 1) = oftP (σ 0) k + 1 from if_pos h4]) rfl
    refine WM.keep [2, 3, 1, 0] rfl ?_
    exact WM.to (loop (q) 0 (by omega)) rfl rfl rfl rfl
  · refine x_aload_n C 0 dX7_often_11 rfl rfl ?_
    refine x_ldc C dX7_often_12 kc_X7_63 ?_
    refine x_callVi C (As := [.int ((-1000001))]) (rest := []) (c_finding l E σ τ 0 (by decide) (-1000001) (by decide)) kv_X7_64 (x_recv C (Nat.le_of_ble_eq_true rfl) xd_0 rfl) ⟨Nat.le_of_ble_eq_true rfl, Nat.le_of_ble_eq_true rfl⟩ rfl rfl (Nat.le_of_ble_eq_true rfl) dX7_often_14 ?_
    exact x_oret C (cpost_of (V := u2 (cv σ) 2 0 (σ 4 0 + 1)) (if_neg (by first | assumption | ((try simp only [rng, mayQ, tI_lt, tI_eq, cvr_0, mvr_0, cvr_c, mvr_c, tl_0, tl_1, tl_2, tl_3, tl_4, tl_5, tl_6, tl_7, tl_8, tl_9, tl_10, tl_11, tl_12, tl_13, tl_99, tl_400] at h1 ⊢) <;> omega))) (by rw [cv_u4]) (by rw [mv_u4]) rfl) dX7_often_17
set_option maxHeartbeats 4000000 in
set_option maxRecDepth 100000 in
theorem m_often (l : Launch) (E : xE) (σ : Nat → Nat → Int32) (τ : Nat → Int64) (T : Nat) (hT : T < 1073741824) (n : Int32) (hI : Inv (mv σ) T) (hlv : ∀ j, j < 12 → σ 15 j = (xzl 1).getD j 0) : xOi l yX8_often cX8_often 4 .int 3 69 E [.ref (xad E (81)), .int (n)] σ τ (mpost (sp_often n (mv σ)) σ) := by
  refine xOi_of (own := RX8) (by decide +kernel) rfl (Nat.le_of_ble_eq_true rfl) ?_
  intro zp ze zs zm za zb zh zc C
  refine WM.to (lv1 := [(0, .ref (xad E (81))), (1, .int (n))]) (st1 := []) (σ1 := σ) (τ1 := τ) ?_ rfl rfl rfl rfl
  have hg : gI (σ 10) := hI.g
  have hgT : gT (σ 10) T := hI.t
  have h0 : 0 ≤ (σ 10 10).toInt := hI.h0
  refine x_iload_n C 1 dX8_often_0 rfl rfl ?_
  refine x_i2l C dX8_often_1 ?_
  refine x_lconst C (v := 1) dX8_often_2 (by decide) ?_
  refine x_ldc2 C dX8_often_3 kc_X8_231 ?_
  refine x_callSi C (As := [.long (Int32.toInt64 n), .long (1), .long (400)]) (rest := []) (c_in l E σ τ (Int32.toInt64 n) 1 400) ks_X8_49 ⟨Nat.le_of_ble_eq_true rfl, Nat.le_of_ble_eq_true rfl⟩ rfl rfl (Nat.le_of_ble_eq_true rfl) dX8_often_6 ?_
  refine WM.topi (y := if rng n 1 400 then 1 else 0) (in_eq n 1 400 (by decide) (by decide)) ?_
  refine x_ifneB C (tgt := 19) dX8_often_9 (by decide) (fun h1 => ?_) (fun h1 => ?_)
  · obtain ⟨q, hqa, hqb, rfl⟩ := rngN (a := 1) (b := 400) h1 (by decide) (by decide) (by decide)
    refine x_aload_n C 0 dX8_often_19 rfl rfl ?_
    refine x_get C (Nat.le_of_ble_eq_true rfl) xd_81 fl_X8_9 (q := (0, 82, 0)) (v := .ref (xad E (82))) rfl rfl dX8_often_20 ?_
    refine x_aload_n C 0 dX8_often_23 rfl rfl ?_
    refine x_get C (Nat.le_of_ble_eq_true rfl) xd_81 fl_X8_13 (q := (0, 83, 0)) (v := .ref (xad E (83))) rfl rfl dX8_often_24 ?_
    refine x_callSv C (As := [.ref (xad E (82)), .ref (xad E (83))]) (rest := []) (cM_copies l E σ τ 10 11 (by decide) (by decide) (by decide)) ks_X8_235 ⟨Nat.le_of_ble_eq_true rfl, Nat.le_of_ble_eq_true rfl⟩ rfl rfl (Nat.le_of_ble_eq_true rfl) dX8_often_27 ?_
    refine WM.to (σ1 := va_up σ 11 (σ 10)) ?_ (congrArg (va_up _ _) rfl) rfl rfl rfl
    refine x_iconst C (v := 0) dX8_often_30 (by decide) ?_
    refine x_istore_n C (lv1 := [(2, .int (0)), (0, .ref (xad E (81))), (1, .int (nI q))]) dX8_often_31 rfl (by decide) rfl ?_
    refine x_iconst C (v := 0) dX8_often_32 (by decide) ?_
    refine x_istore_n C (lv1 := [(3, .int (0)), (2, .int (0)), (0, .ref (xad E (81))), (1, .int (nI q))]) dX8_often_33 rfl (by decide) rfl ?_
    have loop : ∀ (j k : Nat), j + k = q → WM zp l ze { frames := 3, cells := 0, slots := 0, locals := 69 } zs zm za zb zh zc 0 0 (MQ zb (va_Qi (fun r (u : xV × (Nat → Int64)) => (mpost (sp_often (nI q) (mv σ)) σ) r u.1) (fun u t => xP E u.1 u.2 t.heap) (xA E)) za zs 0 0 (xA E)) E (xA E) 4 (va_up σ 11 (stepsG (σ 10) k)) (τ) 34 [(0, .ref (xad E (81))), (1, .int (nI q)), (2, .int (oftP (σ 10) k)), (3, .int (nI k))] [] := by
      intro j
      induction j with
      | zero =>
        intro k hk
        refine x_iload_n C 3 dX8_often_34 rfl rfl ?_
        refine x_iload_n C 1 dX8_often_35 rfl rfl ?_
        refine x_icmp_ge C (tgt := 70) dX8_often_36 (by decide) (fun h2 => ?_) (fun h2 => absurd h2 (nI_nlt (a := k) (b := q) (by omega) (by omega)))
        refine x_iload_n C 2 dX8_often_70 rfl rfl ?_
        exact x_oret C (mpost_of (V := mv σ) (Eq.trans (if_pos (by first | assumption | ((try simp only [rng, mayQ, tI_lt, tI_eq, cvr_0, mvr_0, cvr_c, mvr_c, tl_0, tl_1, tl_2, tl_3, tl_4, tl_5, tl_6, tl_7, tl_8, tl_9, tl_10, tl_11, tl_12, tl_13, tl_99, tl_400] at h1 ⊢) <;> omega))) (Eq.trans (congrArg (fun z => (oftP (mv σ 0) z, mv σ)) (nI_clamp (by omega))) (by obtain rfl : k = q := (by omega); rfl))) (by rw [mv_v11]) (by rw [cv_v11]) rfl) dX8_often_71
      | succ j ih =>
        intro k hk
        refine x_iload_n C 3 dX8_often_34 rfl rfl ?_
        refine x_iload_n C 1 dX8_often_35 rfl rfl ?_
        refine x_icmp_ge C (tgt := 70) dX8_often_36 (by decide) (fun h3 => absurd (nI_lt (a := k) (b := q) (by omega) (by omega)) h3) (fun h3 => ?_)
        refine x_aload_n C 0 dX8_often_39 rfl rfl ?_
        refine x_aload_n C 0 dX8_often_40 rfl rfl ?_
        refine x_get C (Nat.le_of_ble_eq_true rfl) xd_81 fl_X8_13 (q := (0, 83, 0)) (v := .ref (xad E (83))) rfl rfl dX8_often_41 ?_
        refine x_callVv C (As := [.ref (xad E (83))]) (rest := []) (cM_goesBy l E σ τ 11 (by decide) (stepsG (σ 10) k) (gI_steps hg k) (gT_steps hgT k (by omega)).1 hlv) kv_X8_108 (x_recv C (Nat.le_of_ble_eq_true rfl) xd_81 rfl) ⟨Nat.le_of_ble_eq_true rfl, Nat.le_of_ble_eq_true rfl⟩ rfl rfl (Nat.le_of_ble_eq_true rfl) dX8_often_44 ?_
        refine x_iload_n C 2 dX8_often_47 rfl rfl ?_
        refine x_aload_n C 0 dX8_often_48 rfl rfl ?_
        refine x_get C (Nat.le_of_ble_eq_true rfl) xd_81 fl_X8_13 (q := (0, 83, 0)) (v := .ref (xad E (83))) rfl rfl dX8_often_49 ?_
        refine x_iconst C (v := 4) dX8_often_52 (by decide) ?_
        refine x_ald C (Nat.le_of_ble_eq_true rfl) xd_83 (v := (stepG (stepsG (σ 10) k)) 4) (vp_in_nI (show 4 < 284 by omega) (by decide)) (by rw [(show (4 : Int32).toNatClampNeg = 4 from by decide), Nat.zero_add, Nat.one_mul]; exact (congrFun (va_up_self _ _ _) _)) dX8_often_53 ?_
        refine x_if_le C (tgt := 61) dX8_often_54 (by decide) (fun h4 => ?_) (fun h4 => ?_)
        · refine x_iconst C (v := 0) dX8_often_61 (by decide) ?_
          refine x_iadd C dX8_often_62 ?_
          refine x_istore_n C (lv1 := [(2, .int ((oftP (σ 10) k) + 0)), (0, .ref (xad E (81))), (1, .int (nI q)), (3, .int (nI k))]) dX8_often_63 rfl (by decide) rfl ?_
          refine x_iinc C (v := nI (k + 1)) (lv1 := [(3, .int (nI (k + 1))), (2, .int ((oftP (σ 10) k) + 0)), (0, .ref (xad E (81))), (1, .int (nI q))]) 3 dX8_often_64 rfl (nI_add k 1) (by decide) rfl ?_
          refine x_goto2 C (tgt := 34) dX8_often_67 (by decide) ?_
          refine WM.keep [2, 3, 1, 0] (lv' := [(0, .ref (xad E (81))), (1, .int (nI q)), (2, .int ((oftP (σ 10) k) + 0)), (3, .int (nI (k + 1)))]) rfl ?_
          exact WM.to (ih (k + 1) (by omega)) rfl rfl (by rw [show oftP (σ 10) (k + 1) = oftP (σ 10) k from if_neg h4]; simp) rfl
        · refine x_iconst C (v := 1) dX8_often_57 (by decide) ?_
          refine x_goto2 C (tgt := 62) dX8_often_58 (by decide) ?_
          refine x_iadd C dX8_often_62 ?_
          refine x_istore_n C (lv1 := [(2, .int ((oftP (σ 10) k) + 1)), (0, .ref (xad E (81))), (1, .int (nI q)), (3, .int (nI k))]) dX8_often_63 rfl (by decide) rfl ?_
          refine x_iinc C (v := nI (k + 1)) (lv1 := [(3, .int (nI (k + 1))), (2, .int ((oftP (σ 10) k) + 1)), (0, .ref (xad E (81))), (1, .int (nI q))]) 3 dX8_often_64 rfl (nI_add k 1) (by decide) rfl ?_
          refine x_goto2 C (tgt := 34) dX8_often_67 (by decide) ?_
          refine WM.keep [2, 3, 1, 0] (lv' := [(0, .ref (xad E (81))), (1, .int (nI q)), (2, .int ((oftP (σ 10) k) + 1)), (3, .int (nI (k + 1)))]) rfl ?_
          exact WM.to (ih (k + 1) (by omega)) rfl rfl (by rw [show oftP (σ 10) (k + 1) = oftP (σ 10) k + 1 from if_pos h4]) rfl
    refine WM.keep [2, 3, 1, 0] rfl ?_
    exact WM.to (loop (q) 0 (by omega)) rfl rfl rfl rfl
  · refine x_aload_n C 0 dX8_often_12 rfl rfl ?_
    refine x_ldc C dX8_often_13 kc_X8_46 ?_
    refine x_callVi C (As := [.int ((-1000001))]) (rest := []) (c_finds l E σ τ 0 (by decide) (-1000001) (by decide)) kv_X8_61 (x_recv C (Nat.le_of_ble_eq_true rfl) xd_81 rfl) ⟨Nat.le_of_ble_eq_true rfl, Nat.le_of_ble_eq_true rfl⟩ rfl rfl (Nat.le_of_ble_eq_true rfl) dX8_often_15 ?_
    exact x_oret C (mpost_of (V := u2 (mv σ) 2 0 (σ 14 0 + 1)) (if_neg (by first | assumption | ((try simp only [rng, mayQ, tI_lt, tI_eq, cvr_0, mvr_0, cvr_c, mvr_c, tl_0, tl_1, tl_2, tl_3, tl_4, tl_5, tl_6, tl_7, tl_8, tl_9, tl_10, tl_11, tl_12, tl_13, tl_99, tl_400] at h1 ⊢) <;> omega))) (by rw [mv_u14]) (by rw [cv_u14]) rfl) dX8_often_18
