/-! operations, the first: class and reference -/
theorem mayN {x v : Int32} (h : mayQ x v) : ∃ q : Nat, q ≤ 3 ∧ x = nI q := by
  rcases h with h | h
  · exact ⟨3, by decide, h.1⟩
  · obtain ⟨q, h1, h2, e⟩ := rngN (a := 0) (b := 2) h.1 (by decide) (by decide) (by decide)
    exact ⟨q, by omega, e⟩
theorem rngI {x lo hi : Int32} {a b : Int} (h : rng x lo hi) (ea : lo.toInt = a) (eb : hi.toInt = b) : a ≤ x.toInt ∧ x.toInt ≤ b := by
  have h1 := rng_iff.mp h
  omega
theorem fill_iff {g : Nat → Int32} {q : Nat} {n : Int32} (hg : gI g) (hq : q < 12) (hn : rng n 1 999) : roomG g q - g (20 + q) < n ↔ roomG g q < g (20 + q) + n := by
  have hw := hg.w hq
  have hr := roomK_in (g (32 + q))
  have h1 := rngI (a := 1) (b := 999) hn (by decide) (by decide)
  unfold roomG
  rw [tI_lt, tI_lt, tI_sub (by omega) (by omega), tI_add (by omega) (by omega)]
  omega
set_option maxHeartbeats 4000000 in
set_option maxRecDepth 100000 in
theorem k_set (l : Launch) (E : xE) (σ : Nat → Nat → Int32) (τ : Nat → Int64) (T : Nat) (hT : T < 1073741824) (what v : Int32) (hI : Inv (cv σ) T) : xOi l yX7_set cX7_set 5 .int 2 44 E [.ref (xad E (0)), .int (what), .int (v)] σ τ (cpost (sp_set what v (cv σ)) σ) := by
  refine xOi_of (own := RX7) (by decide +kernel) rfl (Nat.le_of_ble_eq_true rfl) ?_
  intro zp ze zs zm za zb zh zc C
  refine WM.to (lv1 := [(0, .ref (xad E (0))), (1, .int (what)), (2, .int (v))]) (st1 := []) (σ1 := σ) (τ1 := τ) ?_ rfl rfl rfl rfl
  have hg : gI (σ 0) := hI.g
  have hgT : gT (σ 0) T := hI.t
  have h0 : 0 ≤ (σ 0 10).toInt := hI.h0
  refine x_iload_n C 1 dX7_set_0 rfl rfl ?_
  refine x_iconst C (v := 0) dX7_set_1 (by decide) ?_
  refine x_iconst C (v := 3) dX7_set_2 (by decide) ?_
  refine x_callSi C (As := [.int (what), .int (0), .int (3)]) (rest := []) (c_within l E σ τ what 0 3) ks_X7_59 ⟨Nat.le_of_ble_eq_true rfl, Nat.le_of_ble_eq_true rfl⟩ rfl rfl (Nat.le_of_ble_eq_true rfl) dX7_set_3 ?_
  refine x_ifneB C (tgt := 16) dX7_set_6 (by decide) (fun h1 => ?_) (fun h1 => ?_)
  · refine x_iload_n C 1 dX7_set_16 rfl rfl ?_
    refine x_iconst C (v := 3) dX7_set_17 (by decide) ?_
    refine x_icmp_ne C (tgt := 25) dX7_set_18 (by decide) (fun h2 => ?_) (fun h2 => ?_)
    · refine x_iconst C (v := 0) dX7_set_25 (by decide) ?_
      refine x_istore_n C (lv1 := [(3, .int (0)), (0, .ref (xad E (0))), (1, .int (what)), (2, .int (v))]) dX7_set_26 rfl (by decide) rfl ?_
      refine x_iload_n C 3 dX7_set_27 rfl rfl ?_
      refine x_iload_n C 0 dX7_set_28 rfl rfl ?_
      refine x_bipush C (v := 99) dX7_set_29 (by decide) ?_
      refine x_callSi C (As := [.int (v), .int (0), .int (99)]) (rest := []) (c_within l E σ τ v 0 99) ks_X7_59 ⟨Nat.le_of_ble_eq_true rfl, Nat.le_of_ble_eq_true rfl⟩ rfl rfl (Nat.le_of_ble_eq_true rfl) dX7_set_31 ?_
      refine x_ifneB C (tgt := 44) dX7_set_34 (by decide) (fun h3 => ?_) (fun h3 => ?_)
      · obtain ⟨q, hqa, hqb, rfl⟩ := rngN (a := 0) (b := 3) h1 (by decide) (by decide) (by decide)
        refine x_aload_n C 1 dX7_set_44 rfl rfl ?_
        refine x_get C (Nat.le_of_ble_eq_true rfl) xd_0 fl_X7_12 (q := (0, 1, 0)) (v := .ref (xad E (1))) rfl rfl dX7_set_45 ?_
        refine x_get C (Nat.le_of_ble_eq_true rfl) xd_1 fl_X7_68 (q := (0, 2, 0)) (v := .ref (xad E (2))) rfl rfl dX7_set_48 ?_
        refine x_get C (Nat.le_of_ble_eq_true rfl) xd_2 fl_X7_71 (q := (0, 3, 0)) (v := .ref (xad E (3))) rfl rfl dX7_set_51 ?_
        refine x_iload_n C 2 dX7_set_54 rfl rfl ?_
        refine x_ald C (Nat.le_of_ble_eq_true rfl) xd_3 (v := σ 0 q) (vp_in_nI (show q < 4 by omega) (by decide)) (by rw [(nI_clamp (show q < 2 ^ 31 by omega)), Nat.zero_add, Nat.one_mul]) dX7_set_55 ?_
        refine x_istore C (lv1 := [(4, .int (σ 0 q)), (3, .int (0)), (0, .ref (xad E (0))), (1, .int (nI q)), (2, .int (v))]) dX7_set_56 (by decide) rfl ?_
        refine x_aload_n C 2 dX7_set_58 rfl rfl ?_
        refine x_get C (Nat.le_of_ble_eq_true rfl) xd_0 fl_X7_12 (q := (0, 1, 0)) (v := .ref (xad E (1))) rfl rfl dX7_set_59 ?_
        refine x_get C (Nat.le_of_ble_eq_true rfl) xd_1 fl_X7_68 (q := (0, 2, 0)) (v := .ref (xad E (2))) rfl rfl dX7_set_62 ?_
        refine x_get C (Nat.le_of_ble_eq_true rfl) xd_2 fl_X7_71 (q := (0, 3, 0)) (v := .ref (xad E (3))) rfl rfl dX7_set_65 ?_
        refine x_iload_n C 3 dX7_set_68 rfl rfl ?_
        refine x_iload_n C 4 dX7_set_69 rfl rfl ?_
        refine x_ast C (σ' := u2 σ 0 q (v)) (Nat.le_of_ble_eq_true rfl) xd_3 (by decide) (vp_in_nI (show q < 4 by omega) (by decide)) (by rw [(nI_clamp (show q < 2 ^ 31 by omega)), Nat.zero_add, Nat.one_mul]) dX7_set_70 ?_
        refine x_iload C 0 dX7_set_71 rfl ?_
        exact x_oret C (cpost_of (V := u2 (cv σ) 0 q (v)) (Eq.trans (if_pos (by first | assumption | ((try simp only [rng, mayQ, tI_lt, tI_eq, cvr_0, mvr_0, cvr_c, mvr_c, tl_0, tl_1, tl_2, tl_3, tl_4, tl_5, tl_6, tl_7, tl_8, tl_9, tl_10, tl_11, tl_12, tl_13, tl_99] at h1 h2 h3 ⊢) <;> omega))) (congrArg (fun z => setS z v (cv σ)) (nI_clamp (by omega)))) (by rw [cv_u0]) (by rw [mv_u0]) rfl) dX7_set_73
      · refine x_aload_n C 1 dX7_set_37 rfl rfl ?_
        refine x_ldc C dX7_set_38 kc_X7_63 ?_
        refine x_callVi C (As := [.int ((-1000001))]) (rest := []) (c_finding l E σ τ 0 (by decide) (-1000001) (by decide)) kv_X7_64 (x_recv C (Nat.le_of_ble_eq_true rfl) xd_0 rfl) ⟨Nat.le_of_ble_eq_true rfl, Nat.le_of_ble_eq_true rfl⟩ rfl rfl (Nat.le_of_ble_eq_true rfl) dX7_set_40 ?_
        exact x_oret C (cpost_of (V := u2 (cv σ) 2 0 (σ 4 0 + 1)) (if_neg (by first | assumption | ((try simp only [rng, mayQ, tI_lt, tI_eq, cvr_0, mvr_0, cvr_c, mvr_c, tl_0, tl_1, tl_2, tl_3, tl_4, tl_5, tl_6, tl_7, tl_8, tl_9, tl_10, tl_11, tl_12, tl_13, tl_99] at h1 h2 h3 ⊢) <;> omega))) (by rw [cv_u4]) (by rw [mv_u4]) rfl) dX7_set_43
    · refine x_iconst C (v := 1) dX7_set_21 (by decide) ?_
      refine x_goto2 C (tgt := 26) dX7_set_22 (by decide) ?_
      refine x_istore_n C (lv1 := [(3, .int (1)), (0, .ref (xad E (0))), (1, .int (what)), (2, .int (v))]) dX7_set_26 rfl (by decide) rfl ?_
      refine x_iload_n C 3 dX7_set_27 rfl rfl ?_
      refine x_iload_n C 0 dX7_set_28 rfl rfl ?_
      refine x_bipush C (v := 99) dX7_set_29 (by decide) ?_
      refine x_callSi C (As := [.int (v), .int (1), .int (99)]) (rest := []) (c_within l E σ τ v 1 99) ks_X7_59 ⟨Nat.le_of_ble_eq_true rfl, Nat.le_of_ble_eq_true rfl⟩ rfl rfl (Nat.le_of_ble_eq_true rfl) dX7_set_31 ?_
      refine x_ifneB C (tgt := 44) dX7_set_34 (by decide) (fun h4 => ?_) (fun h4 => ?_)
      · obtain ⟨q, hqa, hqb, rfl⟩ := rngN (a := 0) (b := 3) h1 (by decide) (by decide) (by decide)
        refine x_aload_n C 1 dX7_set_44 rfl rfl ?_
        refine x_get C (Nat.le_of_ble_eq_true rfl) xd_0 fl_X7_12 (q := (0, 1, 0)) (v := .ref (xad E (1))) rfl rfl dX7_set_45 ?_
        refine x_get C (Nat.le_of_ble_eq_true rfl) xd_1 fl_X7_68 (q := (0, 2, 0)) (v := .ref (xad E (2))) rfl rfl dX7_set_48 ?_
        refine x_get C (Nat.le_of_ble_eq_true rfl) xd_2 fl_X7_71 (q := (0, 3, 0)) (v := .ref (xad E (3))) rfl rfl dX7_set_51 ?_
        refine x_iload_n C 2 dX7_set_54 rfl rfl ?_
        refine x_ald C (Nat.le_of_ble_eq_true rfl) xd_3 (v := σ 0 q) (vp_in_nI (show q < 4 by omega) (by decide)) (by rw [(nI_clamp (show q < 2 ^ 31 by omega)), Nat.zero_add, Nat.one_mul]) dX7_set_55 ?_
        refine x_istore C (lv1 := [(4, .int (σ 0 q)), (3, .int (1)), (0, .ref (xad E (0))), (1, .int (nI q)), (2, .int (v))]) dX7_set_56 (by decide) rfl ?_
        refine x_aload_n C 2 dX7_set_58 rfl rfl ?_
        refine x_get C (Nat.le_of_ble_eq_true rfl) xd_0 fl_X7_12 (q := (0, 1, 0)) (v := .ref (xad E (1))) rfl rfl dX7_set_59 ?_
        refine x_get C (Nat.le_of_ble_eq_true rfl) xd_1 fl_X7_68 (q := (0, 2, 0)) (v := .ref (xad E (2))) rfl rfl dX7_set_62 ?_
        refine x_get C (Nat.le_of_ble_eq_true rfl) xd_2 fl_X7_71 (q := (0, 3, 0)) (v := .ref (xad E (3))) rfl rfl dX7_set_65 ?_
        refine x_iload_n C 3 dX7_set_68 rfl rfl ?_
        refine x_iload_n C 4 dX7_set_69 rfl rfl ?_
        refine x_ast C (σ' := u2 σ 0 q (v)) (Nat.le_of_ble_eq_true rfl) xd_3 (by decide) (vp_in_nI (show q < 4 by omega) (by decide)) (by rw [(nI_clamp (show q < 2 ^ 31 by omega)), Nat.zero_add, Nat.one_mul]) dX7_set_70 ?_
        refine x_iload C 0 dX7_set_71 rfl ?_
        exact x_oret C (cpost_of (V := u2 (cv σ) 0 q (v)) (Eq.trans (if_pos (by first | assumption | ((try simp only [rng, mayQ, tI_lt, tI_eq, cvr_0, mvr_0, cvr_c, mvr_c, tl_0, tl_1, tl_2, tl_3, tl_4, tl_5, tl_6, tl_7, tl_8, tl_9, tl_10, tl_11, tl_12, tl_13, tl_99] at h1 h2 h4 ⊢) <;> omega))) (congrArg (fun z => setS z v (cv σ)) (nI_clamp (by omega)))) (by rw [cv_u0]) (by rw [mv_u0]) rfl) dX7_set_73
      · refine x_aload_n C 1 dX7_set_37 rfl rfl ?_
        refine x_ldc C dX7_set_38 kc_X7_63 ?_
        refine x_callVi C (As := [.int ((-1000001))]) (rest := []) (c_finding l E σ τ 0 (by decide) (-1000001) (by decide)) kv_X7_64 (x_recv C (Nat.le_of_ble_eq_true rfl) xd_0 rfl) ⟨Nat.le_of_ble_eq_true rfl, Nat.le_of_ble_eq_true rfl⟩ rfl rfl (Nat.le_of_ble_eq_true rfl) dX7_set_40 ?_
        exact x_oret C (cpost_of (V := u2 (cv σ) 2 0 (σ 4 0 + 1)) (if_neg (by first | assumption | ((try simp only [rng, mayQ, tI_lt, tI_eq, cvr_0, mvr_0, cvr_c, mvr_c, tl_0, tl_1, tl_2, tl_3, tl_4, tl_5, tl_6, tl_7, tl_8, tl_9, tl_10, tl_11, tl_12, tl_13, tl_99] at h1 h2 h4 ⊢) <;> omega))) (by rw [cv_u4]) (by rw [mv_u4]) rfl) dX7_set_43
  · refine x_aload_n C 0 dX7_set_9 rfl rfl ?_
    refine x_ldc C dX7_set_10 kc_X7_63 ?_
    refine x_callVi C (As := [.int ((-1000001))]) (rest := []) (c_finding l E σ τ 0 (by decide) (-1000001) (by decide)) kv_X7_64 (x_recv C (Nat.le_of_ble_eq_true rfl) xd_0 rfl) ⟨Nat.le_of_ble_eq_true rfl, Nat.le_of_ble_eq_true rfl⟩ rfl rfl (Nat.le_of_ble_eq_true rfl) dX7_set_12 ?_
    exact x_oret C (cpost_of (V := u2 (cv σ) 2 0 (σ 4 0 + 1)) (if_neg (by first | assumption | ((try simp only [rng, mayQ, tI_lt, tI_eq, cvr_0, mvr_0, cvr_c, mvr_c, tl_0, tl_1, tl_2, tl_3, tl_4, tl_5, tl_6, tl_7, tl_8, tl_9, tl_10, tl_11, tl_12, tl_13, tl_99] at h1 ⊢) <;> omega))) (by rw [cv_u4]) (by rw [mv_u4]) rfl) dX7_set_15
set_option maxHeartbeats 4000000 in
set_option maxRecDepth 100000 in
theorem m_set (l : Launch) (E : xE) (σ : Nat → Nat → Int32) (τ : Nat → Int64) (T : Nat) (hT : T < 1073741824) (what v : Int32) (hI : Inv (mv σ) T) (hlv : ∀ j, j < 12 → σ 15 j = (xzl 1).getD j 0) : xOi l yX8_set cX8_set 4 .int 2 46 E [.ref (xad E (81)), .int (what), .int (v)] σ τ (mpost (sp_set what v (mv σ)) σ) := by
  refine xOi_of (own := RX8) (by decide +kernel) rfl (Nat.le_of_ble_eq_true rfl) ?_
  intro zp ze zs zm za zb zh zc C
  refine WM.to (lv1 := [(0, .ref (xad E (81))), (1, .int (what)), (2, .int (v))]) (st1 := []) (σ1 := σ) (τ1 := τ) ?_ rfl rfl rfl rfl
  have hg : gI (σ 10) := hI.g
  have hgT : gT (σ 10) T := hI.t
  have h0 : 0 ≤ (σ 10 10).toInt := hI.h0
  refine x_iload_n C 1 dX8_set_0 rfl rfl ?_
  refine x_iload_n C 2 dX8_set_1 rfl rfl ?_
  refine x_callSi C (As := [.int (what), .int (v)]) (rest := []) (c_mayBe l E σ τ what v) ks_X8_57 ⟨Nat.le_of_ble_eq_true rfl, Nat.le_of_ble_eq_true rfl⟩ rfl rfl (Nat.le_of_ble_eq_true rfl) dX8_set_2 ?_
  refine x_ifneB C (tgt := 15) dX8_set_5 (by decide) (fun h1 => ?_) (fun h1 => ?_)
  · obtain ⟨q, hqb, rfl⟩ := mayN h1
    refine x_aload_n C 0 dX8_set_15 rfl rfl ?_
    refine x_get C (Nat.le_of_ble_eq_true rfl) xd_81 fl_X8_9 (q := (0, 82, 0)) (v := .ref (xad E (82))) rfl rfl dX8_set_16 ?_
    refine x_iload_n C 1 dX8_set_19 rfl rfl ?_
    refine x_ald C (Nat.le_of_ble_eq_true rfl) xd_82 (v := σ 10 q) (vp_in_nI (show q < 284 by omega) (by decide)) (by rw [(nI_clamp (show q < 2 ^ 31 by omega)), Nat.zero_add, Nat.one_mul]) dX8_set_20 ?_
    refine x_istore_n C (lv1 := [(3, .int (σ 10 q)), (0, .ref (xad E (81))), (1, .int (nI q)), (2, .int (v))]) dX8_set_21 rfl (by decide) rfl ?_
    refine x_aload_n C 1 dX8_set_22 rfl rfl ?_
    refine x_get C (Nat.le_of_ble_eq_true rfl) xd_81 fl_X8_9 (q := (0, 82, 0)) (v := .ref (xad E (82))) rfl rfl dX8_set_23 ?_
    refine x_iload_n C 2 dX8_set_26 rfl rfl ?_
    refine x_iload_n C 3 dX8_set_27 rfl rfl ?_
    refine x_ast C (σ' := u2 σ 10 q (v)) (Nat.le_of_ble_eq_true rfl) xd_82 (by decide) (vp_in_nI (show q < 284 by omega) (by decide)) (by rw [(nI_clamp (show q < 2 ^ 31 by omega)), Nat.zero_add, Nat.one_mul]) dX8_set_28 ?_
    refine x_iload_n C 0 dX8_set_29 rfl rfl ?_
    exact x_oret C (mpost_of (V := u2 (mv σ) 0 q (v)) (Eq.trans (if_pos (by first | assumption | ((try simp only [rng, mayQ, tI_lt, tI_eq, cvr_0, mvr_0, cvr_c, mvr_c, tl_0, tl_1, tl_2, tl_3, tl_4, tl_5, tl_6, tl_7, tl_8, tl_9, tl_10, tl_11, tl_12, tl_13, tl_99] at h1 ⊢) <;> omega))) (congrArg (fun z => setS z v (mv σ)) (nI_clamp (by omega)))) (by rw [mv_u10]) (by rw [cv_u10]) rfl) dX8_set_30
  · refine x_aload_n C 0 dX8_set_8 rfl rfl ?_
    refine x_ldc C dX8_set_9 kc_X8_46 ?_
    refine x_callVi C (As := [.int ((-1000001))]) (rest := []) (c_finds l E σ τ 0 (by decide) (-1000001) (by decide)) kv_X8_61 (x_recv C (Nat.le_of_ble_eq_true rfl) xd_81 rfl) ⟨Nat.le_of_ble_eq_true rfl, Nat.le_of_ble_eq_true rfl⟩ rfl rfl (Nat.le_of_ble_eq_true rfl) dX8_set_11 ?_
    exact x_oret C (mpost_of (V := u2 (mv σ) 2 0 (σ 14 0 + 1)) (if_neg (by first | assumption | ((try simp only [rng, mayQ, tI_lt, tI_eq, cvr_0, mvr_0, cvr_c, mvr_c, tl_0, tl_1, tl_2, tl_3, tl_4, tl_5, tl_6, tl_7, tl_8, tl_9, tl_10, tl_11, tl_12, tl_13, tl_99] at h1 ⊢) <;> omega))) (by rw [mv_u14]) (by rw [cv_u14]) rfl) dX8_set_14
set_option maxHeartbeats 4000000 in
set_option maxRecDepth 100000 in
theorem k_kind (l : Launch) (E : xE) (σ : Nat → Nat → Int32) (τ : Nat → Int64) (T : Nat) (hT : T < 1073741824) (cup kind : Int32) (hI : Inv (cv σ) T) : xOi l yX7_kind cX7_kind 4 .int 2 44 E [.ref (xad E (0)), .int (cup), .int (kind)] σ τ (cpost (sp_kind cup kind (cv σ)) σ) := by
  refine xOi_of (own := RX7) (by decide +kernel) rfl (Nat.le_of_ble_eq_true rfl) ?_
  intro zp ze zs zm za zb zh zc C
  refine WM.to (lv1 := [(0, .ref (xad E (0))), (1, .int (cup)), (2, .int (kind))]) (st1 := []) (σ1 := σ) (τ1 := τ) ?_ rfl rfl rfl rfl
  have hg : gI (σ 0) := hI.g
  have hgT : gT (σ 0) T := hI.t
  have h0 : 0 ≤ (σ 0 10).toInt := hI.h0
  refine x_iload_n C 1 dX7_kind_0 rfl rfl ?_
  refine x_callSi C (As := [.int (cup)]) (rest := []) (c_isCup l E σ τ cup) ks_X7_74 ⟨Nat.le_of_ble_eq_true rfl, Nat.le_of_ble_eq_true rfl⟩ rfl rfl (Nat.le_of_ble_eq_true rfl) dX7_kind_1 ?_
  refine x_ifeqB C (tgt := 14) dX7_kind_4 (by decide) (fun h1 => ?_) (fun h1 => ?_)
  · refine x_aload_n C 0 dX7_kind_14 rfl rfl ?_
    refine x_ldc C dX7_kind_15 kc_X7_63 ?_
    refine x_callVi C (As := [.int ((-1000001))]) (rest := []) (c_finding l E σ τ 0 (by decide) (-1000001) (by decide)) kv_X7_64 (x_recv C (Nat.le_of_ble_eq_true rfl) xd_0 rfl) ⟨Nat.le_of_ble_eq_true rfl, Nat.le_of_ble_eq_true rfl⟩ rfl rfl (Nat.le_of_ble_eq_true rfl) dX7_kind_17 ?_
    exact x_oret C (cpost_of (V := u2 (cv σ) 2 0 (σ 4 0 + 1)) (if_neg (by first | assumption | ((try simp only [rng, mayQ, tI_lt, tI_eq, cvr_0, mvr_0, cvr_c, mvr_c, tl_0, tl_1, tl_2, tl_3, tl_4, tl_5, tl_6, tl_7, tl_8, tl_9, tl_10, tl_11, tl_12, tl_13, tl_99] at h1 ⊢) <;> omega))) (by rw [cv_u4]) (by rw [mv_u4]) rfl) dX7_kind_20
  · refine x_iload_n C 2 dX7_kind_7 rfl rfl ?_
    refine x_callSi C (As := [.int (kind)]) (rest := []) (c_isKind l E σ τ kind) ks_X7_78 ⟨Nat.le_of_ble_eq_true rfl, Nat.le_of_ble_eq_true rfl⟩ rfl rfl (Nat.le_of_ble_eq_true rfl) dX7_kind_8 ?_
    refine x_ifneB C (tgt := 21) dX7_kind_11 (by decide) (fun h2 => ?_) (fun h2 => ?_)
    · obtain ⟨q, hqa, hqb, rfl⟩ := rngN (a := 0) (b := 11) h1 (by decide) (by decide) (by decide)
      refine x_aload_n C 0 dX7_kind_21 rfl rfl ?_
      refine x_get C (Nat.le_of_ble_eq_true rfl) xd_0 fl_X7_12 (q := (0, 1, 0)) (v := .ref (xad E (1))) rfl rfl dX7_kind_22 ?_
      refine x_get C (Nat.le_of_ble_eq_true rfl) xd_1 fl_X7_68 (q := (0, 2, 0)) (v := .ref (xad E (2))) rfl rfl dX7_kind_25 ?_
      refine x_get C (Nat.le_of_ble_eq_true rfl) xd_2 fl_X7_81 (q := (0, 4, 0)) (v := .ref (xad E (4))) rfl rfl dX7_kind_28 ?_
      refine x_iload_n C 1 dX7_kind_31 rfl rfl ?_
      refine x_ald C (Nat.le_of_ble_eq_true rfl) xd_4 (v := σ 0 (32 + q)) (vp_in_nI (show q < 12 by omega) (by decide)) (by rw [(nI_clamp (show q < 2 ^ 31 by omega)), Nat.one_mul]) dX7_kind_32 ?_
      refine x_istore_n C (lv1 := [(3, .int (σ 0 (32 + q))), (0, .ref (xad E (0))), (1, .int (nI q)), (2, .int (kind))]) dX7_kind_33 rfl (by decide) rfl ?_
      refine x_aload_n C 1 dX7_kind_34 rfl rfl ?_
      refine x_get C (Nat.le_of_ble_eq_true rfl) xd_0 fl_X7_12 (q := (0, 1, 0)) (v := .ref (xad E (1))) rfl rfl dX7_kind_35 ?_
      refine x_get C (Nat.le_of_ble_eq_true rfl) xd_1 fl_X7_68 (q := (0, 2, 0)) (v := .ref (xad E (2))) rfl rfl dX7_kind_38 ?_
      refine x_get C (Nat.le_of_ble_eq_true rfl) xd_2 fl_X7_81 (q := (0, 4, 0)) (v := .ref (xad E (4))) rfl rfl dX7_kind_41 ?_
      refine x_iload_n C 2 dX7_kind_44 rfl rfl ?_
      refine x_iload_n C 3 dX7_kind_45 rfl rfl ?_
      refine x_ast C (σ' := u2 σ 0 (32 + q) (kind)) (Nat.le_of_ble_eq_true rfl) xd_4 (by decide) (vp_in_nI (show q < 12 by omega) (by decide)) (by rw [(nI_clamp (show q < 2 ^ 31 by omega)), Nat.one_mul]) dX7_kind_46 ?_
      refine x_iload_n C 0 dX7_kind_47 rfl rfl ?_
      exact x_oret C (cpost_of (V := u2 (cv σ) 0 (32 + q) (kind)) (Eq.trans (if_pos (by first | assumption | ((try simp only [rng, mayQ, tI_lt, tI_eq, cvr_0, mvr_0, cvr_c, mvr_c, tl_0, tl_1, tl_2, tl_3, tl_4, tl_5, tl_6, tl_7, tl_8, tl_9, tl_10, tl_11, tl_12, tl_13, tl_99] at h1 h2 ⊢) <;> omega))) (congrArg (fun z => setS (32 + z) kind (cv σ)) (nI_clamp (by omega)))) (by rw [cv_u0]) (by rw [mv_u0]) rfl) dX7_kind_48
    · refine x_aload_n C 0 dX7_kind_14 rfl rfl ?_
      refine x_ldc C dX7_kind_15 kc_X7_63 ?_
      refine x_callVi C (As := [.int ((-1000001))]) (rest := []) (c_finding l E σ τ 0 (by decide) (-1000001) (by decide)) kv_X7_64 (x_recv C (Nat.le_of_ble_eq_true rfl) xd_0 rfl) ⟨Nat.le_of_ble_eq_true rfl, Nat.le_of_ble_eq_true rfl⟩ rfl rfl (Nat.le_of_ble_eq_true rfl) dX7_kind_17 ?_
      exact x_oret C (cpost_of (V := u2 (cv σ) 2 0 (σ 4 0 + 1)) (if_neg (by first | assumption | ((try simp only [rng, mayQ, tI_lt, tI_eq, cvr_0, mvr_0, cvr_c, mvr_c, tl_0, tl_1, tl_2, tl_3, tl_4, tl_5, tl_6, tl_7, tl_8, tl_9, tl_10, tl_11, tl_12, tl_13, tl_99] at h1 h2 ⊢) <;> omega))) (by rw [cv_u4]) (by rw [mv_u4]) rfl) dX7_kind_20
set_option maxHeartbeats 4000000 in
set_option maxRecDepth 100000 in
theorem m_kind (l : Launch) (E : xE) (σ : Nat → Nat → Int32) (τ : Nat → Int64) (T : Nat) (hT : T < 1073741824) (cup kind : Int32) (hI : Inv (mv σ) T) (hlv : ∀ j, j < 12 → σ 15 j = (xzl 1).getD j 0) : xOi l yX8_kind cX8_kind 4 .int 2 45 E [.ref (xad E (81)), .int (cup), .int (kind)] σ τ (mpost (sp_kind cup kind (mv σ)) σ) := by
  refine xOi_of (own := RX8) (by decide +kernel) rfl (Nat.le_of_ble_eq_true rfl) ?_
  intro zp ze zs zm za zb zh zc C
  refine WM.to (lv1 := [(0, .ref (xad E (81))), (1, .int (cup)), (2, .int (kind))]) (st1 := []) (σ1 := σ) (τ1 := τ) ?_ rfl rfl rfl rfl
  have hg : gI (σ 10) := hI.g
  have hgT : gT (σ 10) T := hI.t
  have h0 : 0 ≤ (σ 10 10).toInt := hI.h0
  refine x_iload_n C 1 dX8_kind_0 rfl rfl ?_
  refine x_callSi C (As := [.int (cup)]) (rest := []) (c_misCup l E σ τ cup) ks_X8_65 ⟨Nat.le_of_ble_eq_true rfl, Nat.le_of_ble_eq_true rfl⟩ rfl rfl (Nat.le_of_ble_eq_true rfl) dX8_kind_1 ?_
  refine x_ifeqB C (tgt := 19) dX8_kind_4 (by decide) (fun h1 => ?_) (fun h1 => ?_)
  · refine x_aload_n C 0 dX8_kind_19 rfl rfl ?_
    refine x_ldc C dX8_kind_20 kc_X8_46 ?_
    refine x_callVi C (As := [.int ((-1000001))]) (rest := []) (c_finds l E σ τ 0 (by decide) (-1000001) (by decide)) kv_X8_61 (x_recv C (Nat.le_of_ble_eq_true rfl) xd_81 rfl) ⟨Nat.le_of_ble_eq_true rfl, Nat.le_of_ble_eq_true rfl⟩ rfl rfl (Nat.le_of_ble_eq_true rfl) dX8_kind_22 ?_
    exact x_oret C (mpost_of (V := u2 (mv σ) 2 0 (σ 14 0 + 1)) (if_neg (by first | assumption | ((try simp only [rng, mayQ, tI_lt, tI_eq, cvr_0, mvr_0, cvr_c, mvr_c, tl_0, tl_1, tl_2, tl_3, tl_4, tl_5, tl_6, tl_7, tl_8, tl_9, tl_10, tl_11, tl_12, tl_13, tl_32, tl_99] at h1 ⊢) <;> omega))) (by rw [mv_u14]) (by rw [cv_u14]) rfl) dX8_kind_25
  · refine x_iload_n C 2 dX8_kind_7 rfl rfl ?_
    refine x_i2l C dX8_kind_8 ?_
    refine x_lconst C (v := 0) dX8_kind_9 (by decide) ?_
    refine x_ldc2 C dX8_kind_10 kc_X8_69 ?_
    refine x_callSi C (As := [.long (Int32.toInt64 kind), .long (0), .long (6)]) (rest := []) (c_in l E σ τ (Int32.toInt64 kind) 0 6) ks_X8_49 ⟨Nat.le_of_ble_eq_true rfl, Nat.le_of_ble_eq_true rfl⟩ rfl rfl (Nat.le_of_ble_eq_true rfl) dX8_kind_13 ?_
    refine WM.topi (y := if rng kind 0 6 then 1 else 0) (in_eq kind 0 6 (by decide) (by decide)) ?_
    refine x_ifneB C (tgt := 26) dX8_kind_16 (by decide) (fun h2 => ?_) (fun h2 => ?_)
    · obtain ⟨q, hqa, hqb, rfl⟩ := rngN (a := 0) (b := 11) h1 (by decide) (by decide) (by decide)
      refine x_aload_n C 0 dX8_kind_26 rfl rfl ?_
      refine x_get C (Nat.le_of_ble_eq_true rfl) xd_81 fl_X8_9 (q := (0, 82, 0)) (v := .ref (xad E (82))) rfl rfl dX8_kind_27 ?_
      refine x_bipush C (v := 32) dX8_kind_30 (by decide) ?_
      refine x_iload_n C 1 dX8_kind_32 rfl rfl ?_
      refine x_iadd C dX8_kind_33 ?_
      refine WM.topi (y := nI (32 + q)) (nI_add 32 q) ?_
      refine x_ald C (Nat.le_of_ble_eq_true rfl) xd_82 (v := σ 10 (32 + q)) (vp_in_nI (show 32 + q < 284 by omega) (by decide)) (by rw [(nI_clamp (show 32 + q < 2 ^ 31 by omega)), Nat.zero_add, Nat.one_mul]) dX8_kind_34 ?_
      refine x_istore_n C (lv1 := [(3, .int (σ 10 (32 + q))), (0, .ref (xad E (81))), (1, .int (nI q)), (2, .int (kind))]) dX8_kind_35 rfl (by decide) rfl ?_
      refine x_aload_n C 1 dX8_kind_36 rfl rfl ?_
      refine x_get C (Nat.le_of_ble_eq_true rfl) xd_81 fl_X8_9 (q := (0, 82, 0)) (v := .ref (xad E (82))) rfl rfl dX8_kind_37 ?_
      refine x_bipush C (v := 32) dX8_kind_40 (by decide) ?_
      refine x_iload_n C 2 dX8_kind_42 rfl rfl ?_
      refine x_iadd C dX8_kind_43 ?_
      refine WM.topi (y := nI (32 + q)) (nI_add 32 q) ?_
      refine x_iload_n C 3 dX8_kind_44 rfl rfl ?_
      refine x_ast C (σ' := u2 σ 10 (32 + q) (kind)) (Nat.le_of_ble_eq_true rfl) xd_82 (by decide) (vp_in_nI (show 32 + q < 284 by omega) (by decide)) (by rw [(nI_clamp (show 32 + q < 2 ^ 31 by omega)), Nat.zero_add, Nat.one_mul]) dX8_kind_45 ?_
      refine x_iload_n C 0 dX8_kind_46 rfl rfl ?_
      exact x_oret C (mpost_of (V := u2 (mv σ) 0 (32 + q) (kind)) (Eq.trans (if_pos (by first | assumption | ((try simp only [rng, mayQ, tI_lt, tI_eq, cvr_0, mvr_0, cvr_c, mvr_c, tl_0, tl_1, tl_2, tl_3, tl_4, tl_5, tl_6, tl_7, tl_8, tl_9, tl_10, tl_11, tl_12, tl_13, tl_32, tl_99] at h1 h2 ⊢) <;> omega))) (congrArg (fun z => setS (32 + z) kind (mv σ)) (nI_clamp (by omega)))) (by rw [mv_u10]) (by rw [cv_u10]) rfl) dX8_kind_47
    · refine x_aload_n C 0 dX8_kind_19 rfl rfl ?_
      refine x_ldc C dX8_kind_20 kc_X8_46 ?_
      refine x_callVi C (As := [.int ((-1000001))]) (rest := []) (c_finds l E σ τ 0 (by decide) (-1000001) (by decide)) kv_X8_61 (x_recv C (Nat.le_of_ble_eq_true rfl) xd_81 rfl) ⟨Nat.le_of_ble_eq_true rfl, Nat.le_of_ble_eq_true rfl⟩ rfl rfl (Nat.le_of_ble_eq_true rfl) dX8_kind_22 ?_
      exact x_oret C (mpost_of (V := u2 (mv σ) 2 0 (σ 14 0 + 1)) (if_neg (by first | assumption | ((try simp only [rng, mayQ, tI_lt, tI_eq, cvr_0, mvr_0, cvr_c, mvr_c, tl_0, tl_1, tl_2, tl_3, tl_4, tl_5, tl_6, tl_7, tl_8, tl_9, tl_10, tl_11, tl_12, tl_13, tl_32, tl_99] at h1 h2 ⊢) <;> omega))) (by rw [mv_u14]) (by rw [cv_u14]) rfl) dX8_kind_25
set_option maxHeartbeats 4000000 in
set_option maxRecDepth 100000 in
theorem k_cupOf (l : Launch) (E : xE) (σ : Nat → Nat → Int32) (τ : Nat → Int64) (T : Nat) (hT : T < 1073741824) (cup what : Int32) (hI : Inv (cv σ) T) : xOi l yX7_cupOf cX7_cupOf 3 .int 2 47 E [.ref (xad E (0)), .int (cup), .int (what)] σ τ (cpost (sp_cupOf cup what (cv σ)) σ) := by
  refine xOi_of (own := RX7) (by decide +kernel) rfl (Nat.le_of_ble_eq_true rfl) ?_
  intro zp ze zs zm za zb zh zc C
  refine WM.to (lv1 := [(0, .ref (xad E (0))), (1, .int (cup)), (2, .int (what))]) (st1 := []) (σ1 := σ) (τ1 := τ) ?_ rfl rfl rfl rfl
  have hg : gI (σ 0) := hI.g
  have hgT : gT (σ 0) T := hI.t
  have h0 : 0 ≤ (σ 0 10).toInt := hI.h0
  refine x_iload_n C 1 dX7_cupOf_0 rfl rfl ?_
  refine x_callSi C (As := [.int (cup)]) (rest := []) (c_isCup l E σ τ cup) ks_X7_74 ⟨Nat.le_of_ble_eq_true rfl, Nat.le_of_ble_eq_true rfl⟩ rfl rfl (Nat.le_of_ble_eq_true rfl) dX7_cupOf_1 ?_
  refine x_ifneB C (tgt := 14) dX7_cupOf_4 (by decide) (fun h1 => ?_) (fun h1 => ?_)
  · obtain ⟨q, hqa, hqb, rfl⟩ := rngN (a := 0) (b := 11) h1 (by decide) (by decide) (by decide)
    refine x_iload_n C 2 dX7_cupOf_14 rfl rfl ?_
    by_cases t2 : what = 0
    · refine WM.topi (y := 0) t2 ?_
      refine x_tableIn C (tgt := 48) dX7_cupOf_15 (by decide) (by decide) rfl (by decide) ?_
      refine x_aload_n C 0 dX7_cupOf_48 rfl rfl ?_
      refine x_get C (Nat.le_of_ble_eq_true rfl) xd_0 fl_X7_12 (q := (0, 1, 0)) (v := .ref (xad E (1))) rfl rfl dX7_cupOf_49 ?_
      refine x_get C (Nat.le_of_ble_eq_true rfl) xd_1 fl_X7_68 (q := (0, 2, 0)) (v := .ref (xad E (2))) rfl rfl dX7_cupOf_52 ?_
      refine x_get C (Nat.le_of_ble_eq_true rfl) xd_2 fl_X7_81 (q := (0, 4, 0)) (v := .ref (xad E (4))) rfl rfl dX7_cupOf_55 ?_
      refine x_iload_n C 1 dX7_cupOf_58 rfl rfl ?_
      refine x_ald C (Nat.le_of_ble_eq_true rfl) xd_4 (v := σ 0 (32 + q)) (vp_in_nI (show q < 12 by omega) (by decide)) (by rw [(nI_clamp (show q < 2 ^ 31 by omega)), Nat.one_mul]) dX7_cupOf_59 ?_
      exact x_oret C (cpost_of (V := cv σ) (Eq.trans (if_pos (by first | assumption | ((try simp only [rng, mayQ, tI_lt, tI_eq, cvr_0, mvr_0, cvr_c, mvr_c, tl_0, tl_1, tl_2, tl_3, tl_4, tl_5, tl_6, tl_7, tl_8, tl_9, tl_10, tl_11, tl_12, tl_13, tl_99] at h1 t2 ⊢) <;> omega))) (Eq.trans (congrArg (fun z => (cupS z what (cv σ 0), cv σ)) (nI_clamp (by omega))) (congrArg (fun z => (z, cv σ)) (show cupS q what (σ 0) = σ 0 (32 + q) from by simp [cupS, t2])))) rfl rfl rfl) dX7_cupOf_60
    · by_cases t3 : what = 1
      · refine WM.topi (y := 1) t3 ?_
        refine x_tableIn C (tgt := 61) dX7_cupOf_15 (by decide) (by decide) rfl (by decide) ?_
        refine x_aload_n C 0 dX7_cupOf_61 rfl rfl ?_
        refine x_get C (Nat.le_of_ble_eq_true rfl) xd_0 fl_X7_12 (q := (0, 1, 0)) (v := .ref (xad E (1))) rfl rfl dX7_cupOf_62 ?_
        refine x_get C (Nat.le_of_ble_eq_true rfl) xd_1 fl_X7_68 (q := (0, 2, 0)) (v := .ref (xad E (2))) rfl rfl dX7_cupOf_65 ?_
        refine x_get C (Nat.le_of_ble_eq_true rfl) xd_2 fl_X7_84 (q := (0, 5, 0)) (v := .ref (xad E (5))) rfl rfl dX7_cupOf_68 ?_
        refine x_iload_n C 1 dX7_cupOf_71 rfl rfl ?_
        refine x_ald C (Nat.le_of_ble_eq_true rfl) xd_5 (v := σ 0 (20 + q)) (vp_in_nI (show q < 12 by omega) (by decide)) (by rw [(nI_clamp (show q < 2 ^ 31 by omega)), Nat.one_mul]) dX7_cupOf_72 ?_
        exact x_oret C (cpost_of (V := cv σ) (Eq.trans (if_pos (by first | assumption | ((try simp only [rng, mayQ, tI_lt, tI_eq, cvr_0, mvr_0, cvr_c, mvr_c, tl_0, tl_1, tl_2, tl_3, tl_4, tl_5, tl_6, tl_7, tl_8, tl_9, tl_10, tl_11, tl_12, tl_13, tl_99] at h1 t2 t3 ⊢) <;> omega))) (Eq.trans (congrArg (fun z => (cupS z what (cv σ 0), cv σ)) (nI_clamp (by omega))) (congrArg (fun z => (z, cv σ)) (show cupS q what (σ 0) = σ 0 (20 + q) from by simp [cupS, t2, t3])))) rfl rfl rfl) dX7_cupOf_73
      · by_cases t4 : what = 2
        · refine WM.topi (y := 2) t4 ?_
          refine x_tableIn C (tgt := 74) dX7_cupOf_15 (by decide) (by decide) rfl (by decide) ?_
          refine x_aload_n C 0 dX7_cupOf_74 rfl rfl ?_
          refine x_get C (Nat.le_of_ble_eq_true rfl) xd_0 fl_X7_12 (q := (0, 1, 0)) (v := .ref (xad E (1))) rfl rfl dX7_cupOf_75 ?_
          refine x_get C (Nat.le_of_ble_eq_true rfl) xd_1 fl_X7_68 (q := (0, 2, 0)) (v := .ref (xad E (2))) rfl rfl dX7_cupOf_78 ?_
          refine x_iload_n C 1 dX7_cupOf_81 rfl rfl ?_
          refine WM.to (σ1 := va_up σ 0 (σ 0)) ?_ (xself _ _).symm rfl rfl rfl
          refine x_callVi C (As := [.int (nI q)]) (rest := []) (cW_placeOf l E σ τ 0 (by decide) (σ 0) q (by omega)) kv_X7_87 (x_recv C (Nat.le_of_ble_eq_true rfl) xd_2 rfl) ⟨Nat.le_of_ble_eq_true rfl, Nat.le_of_ble_eq_true rfl⟩ rfl rfl (Nat.le_of_ble_eq_true rfl) dX7_cupOf_82 ?_
          refine WM.to (σ1 := σ) ?_ (xself _ _) rfl rfl rfl
          exact x_oret C (cpost_of (V := cv σ) (Eq.trans (if_pos (by first | assumption | ((try simp only [rng, mayQ, tI_lt, tI_eq, cvr_0, mvr_0, cvr_c, mvr_c, tl_0, tl_1, tl_2, tl_3, tl_4, tl_5, tl_6, tl_7, tl_8, tl_9, tl_10, tl_11, tl_12, tl_13, tl_99] at h1 t2 t3 t4 ⊢) <;> omega))) (Eq.trans (congrArg (fun z => (cupS z what (cv σ 0), cv σ)) (nI_clamp (by omega))) (congrArg (fun z => (z, cv σ)) (show cupS q what (σ 0) = placeG (σ 0) q from by simp [cupS, t2, t3, t4])))) rfl rfl rfl) dX7_cupOf_85
        · by_cases t5 : what = 3
          · refine WM.topi (y := 3) t5 ?_
            refine x_tableIn C (tgt := 86) dX7_cupOf_15 (by decide) (by decide) rfl (by decide) ?_
            refine x_aload_n C 0 dX7_cupOf_86 rfl rfl ?_
            refine x_get C (Nat.le_of_ble_eq_true rfl) xd_0 fl_X7_12 (q := (0, 1, 0)) (v := .ref (xad E (1))) rfl rfl dX7_cupOf_87 ?_
            refine x_get C (Nat.le_of_ble_eq_true rfl) xd_1 fl_X7_68 (q := (0, 2, 0)) (v := .ref (xad E (2))) rfl rfl dX7_cupOf_90 ?_
            refine x_iload_n C 1 dX7_cupOf_93 rfl rfl ?_
            refine WM.to (σ1 := va_up σ 0 (σ 0)) ?_ (xself _ _).symm rfl rfl rfl
            refine x_callVi C (As := [.int (nI q)]) (rest := []) (cW_roomOf l E σ τ 0 (by decide) (σ 0) q (by omega) (hg.k (by omega))) kv_X7_90 (x_recv C (Nat.le_of_ble_eq_true rfl) xd_2 rfl) ⟨Nat.le_of_ble_eq_true rfl, Nat.le_of_ble_eq_true rfl⟩ rfl rfl (Nat.le_of_ble_eq_true rfl) dX7_cupOf_94 ?_
            refine WM.to (σ1 := σ) ?_ (xself _ _) rfl rfl rfl
            exact x_oret C (cpost_of (V := cv σ) (Eq.trans (if_pos (by first | assumption | ((try simp only [rng, mayQ, tI_lt, tI_eq, cvr_0, mvr_0, cvr_c, mvr_c, tl_0, tl_1, tl_2, tl_3, tl_4, tl_5, tl_6, tl_7, tl_8, tl_9, tl_10, tl_11, tl_12, tl_13, tl_99] at h1 t2 t3 t4 t5 ⊢) <;> omega))) (Eq.trans (congrArg (fun z => (cupS z what (cv σ 0), cv σ)) (nI_clamp (by omega))) (congrArg (fun z => (z, cv σ)) (show cupS q what (σ 0) = roomG (σ 0) q from by simp [cupS, t2, t3, t4, t5])))) rfl rfl rfl) dX7_cupOf_97
          · by_cases t6 : what = 4
            · refine WM.topi (y := 4) t6 ?_
              refine x_tableIn C (tgt := 98) dX7_cupOf_15 (by decide) (by decide) rfl (by decide) ?_
              refine x_aload_n C 0 dX7_cupOf_98 rfl rfl ?_
              refine x_get C (Nat.le_of_ble_eq_true rfl) xd_0 fl_X7_12 (q := (0, 1, 0)) (v := .ref (xad E (1))) rfl rfl dX7_cupOf_99 ?_
              refine x_get C (Nat.le_of_ble_eq_true rfl) xd_1 fl_X7_68 (q := (0, 2, 0)) (v := .ref (xad E (2))) rfl rfl dX7_cupOf_102 ?_
              refine x_iload_n C 1 dX7_cupOf_105 rfl rfl ?_
              refine WM.to (σ1 := va_up σ 0 (σ 0)) ?_ (xself _ _).symm rfl rfl rfl
              refine x_callVi C (As := [.int (nI q)]) (rest := []) (cW_leakOf l E σ τ 0 (by decide) (σ 0) q (by omega) hg) kv_X7_93 (x_recv C (Nat.le_of_ble_eq_true rfl) xd_2 rfl) ⟨Nat.le_of_ble_eq_true rfl, Nat.le_of_ble_eq_true rfl⟩ rfl rfl (Nat.le_of_ble_eq_true rfl) dX7_cupOf_106 ?_
              refine WM.to (σ1 := σ) ?_ (xself _ _) rfl rfl rfl
              exact x_oret C (cpost_of (V := cv σ) (Eq.trans (if_pos (by first | assumption | ((try simp only [rng, mayQ, tI_lt, tI_eq, cvr_0, mvr_0, cvr_c, mvr_c, tl_0, tl_1, tl_2, tl_3, tl_4, tl_5, tl_6, tl_7, tl_8, tl_9, tl_10, tl_11, tl_12, tl_13, tl_99] at h1 t2 t3 t4 t5 t6 ⊢) <;> omega))) (Eq.trans (congrArg (fun z => (cupS z what (cv σ 0), cv σ)) (nI_clamp (by omega))) (congrArg (fun z => (z, cv σ)) (show cupS q what (σ 0) = leakG (σ 0) q from by simp [cupS, t2, t3, t4, t5, t6])))) rfl rfl rfl) dX7_cupOf_109
            · refine x_tableOut C (tgt := 110) dX7_cupOf_15 (by rw [tI_eq, show (0 : Int32).toInt = 0 from by decide] at t2; rw [tI_eq, show (1 : Int32).toInt = 1 from by decide] at t3; rw [tI_eq, show (2 : Int32).toInt = 2 from by decide] at t4; rw [tI_eq, show (3 : Int32).toInt = 3 from by decide] at t5; rw [tI_eq, show (4 : Int32).toInt = 4 from by decide] at t6; first | omega) (by decide) ?_
              refine x_aload_n C 0 dX7_cupOf_110 rfl rfl ?_
              refine x_ldc C dX7_cupOf_111 kc_X7_63 ?_
              refine x_callVi C (As := [.int ((-1000001))]) (rest := []) (c_finding l E σ τ 0 (by decide) (-1000001) (by decide)) kv_X7_64 (x_recv C (Nat.le_of_ble_eq_true rfl) xd_0 rfl) ⟨Nat.le_of_ble_eq_true rfl, Nat.le_of_ble_eq_true rfl⟩ rfl rfl (Nat.le_of_ble_eq_true rfl) dX7_cupOf_113 ?_
              exact x_oret C (cpost_of (V := u2 (cv σ) 2 0 (σ 4 0 + 1)) (if_neg (by first | assumption | ((try simp only [rng, mayQ, tI_lt, tI_eq, cvr_0, mvr_0, cvr_c, mvr_c, tl_0, tl_1, tl_2, tl_3, tl_4, tl_5, tl_6, tl_7, tl_8, tl_9, tl_10, tl_11, tl_12, tl_13, tl_99] at h1 t2 t3 t4 t5 t6 ⊢) <;> omega))) (by rw [cv_u4]) (by rw [mv_u4]) rfl) dX7_cupOf_116
  · refine x_aload_n C 0 dX7_cupOf_7 rfl rfl ?_
    refine x_ldc C dX7_cupOf_8 kc_X7_63 ?_
    refine x_callVi C (As := [.int ((-1000001))]) (rest := []) (c_finding l E σ τ 0 (by decide) (-1000001) (by decide)) kv_X7_64 (x_recv C (Nat.le_of_ble_eq_true rfl) xd_0 rfl) ⟨Nat.le_of_ble_eq_true rfl, Nat.le_of_ble_eq_true rfl⟩ rfl rfl (Nat.le_of_ble_eq_true rfl) dX7_cupOf_10 ?_
    exact x_oret C (cpost_of (V := u2 (cv σ) 2 0 (σ 4 0 + 1)) (if_neg (by first | assumption | ((try simp only [rng, mayQ, tI_lt, tI_eq, cvr_0, mvr_0, cvr_c, mvr_c, tl_0, tl_1, tl_2, tl_3, tl_4, tl_5, tl_6, tl_7, tl_8, tl_9, tl_10, tl_11, tl_12, tl_13, tl_99] at h1 ⊢) <;> omega))) (by rw [cv_u4]) (by rw [mv_u4]) rfl) dX7_cupOf_13
set_option maxHeartbeats 4000000 in
set_option maxRecDepth 100000 in
theorem m_cupOf (l : Launch) (E : xE) (σ : Nat → Nat → Int32) (τ : Nat → Int64) (T : Nat) (hT : T < 1073741824) (cup what : Int32) (hI : Inv (mv σ) T) (hlv : ∀ j, j < 12 → σ 15 j = (xzl 1).getD j 0) : xOi l yX8_cupOf cX8_cupOf 3 .int 2 45 E [.ref (xad E (81)), .int (cup), .int (what)] σ τ (mpost (sp_cupOf cup what (mv σ)) σ) := by
  refine xOi_of (own := RX8) (by decide +kernel) rfl (Nat.le_of_ble_eq_true rfl) ?_
  intro zp ze zs zm za zb zh zc C
  refine WM.to (lv1 := [(0, .ref (xad E (81))), (1, .int (cup)), (2, .int (what))]) (st1 := []) (σ1 := σ) (τ1 := τ) ?_ rfl rfl rfl rfl
  have hg : gI (σ 10) := hI.g
  have hgT : gT (σ 10) T := hI.t
  have h0 : 0 ≤ (σ 10 10).toInt := hI.h0
  refine x_iload_n C 1 dX8_cupOf_0 rfl rfl ?_
  refine x_callSi C (As := [.int (cup)]) (rest := []) (c_misCup l E σ τ cup) ks_X8_65 ⟨Nat.le_of_ble_eq_true rfl, Nat.le_of_ble_eq_true rfl⟩ rfl rfl (Nat.le_of_ble_eq_true rfl) dX8_cupOf_1 ?_
  refine x_ifeqB C (tgt := 19) dX8_cupOf_4 (by decide) (fun h1 => ?_) (fun h1 => ?_)
  · refine x_aload_n C 0 dX8_cupOf_19 rfl rfl ?_
    refine x_ldc C dX8_cupOf_20 kc_X8_46 ?_
    refine x_callVi C (As := [.int ((-1000001))]) (rest := []) (c_finds l E σ τ 0 (by decide) (-1000001) (by decide)) kv_X8_61 (x_recv C (Nat.le_of_ble_eq_true rfl) xd_81 rfl) ⟨Nat.le_of_ble_eq_true rfl, Nat.le_of_ble_eq_true rfl⟩ rfl rfl (Nat.le_of_ble_eq_true rfl) dX8_cupOf_22 ?_
    exact x_oret C (mpost_of (V := u2 (mv σ) 2 0 (σ 14 0 + 1)) (if_neg (by first | assumption | ((try simp only [rng, mayQ, tI_lt, tI_eq, cvr_0, mvr_0, cvr_c, mvr_c, tl_0, tl_1, tl_2, tl_3, tl_4, tl_5, tl_6, tl_7, tl_8, tl_9, tl_10, tl_11, tl_12, tl_13, tl_20, tl_32, tl_99] at h1 ⊢) <;> omega))) (by rw [mv_u14]) (by rw [cv_u14]) rfl) dX8_cupOf_25
  · refine x_iload_n C 2 dX8_cupOf_7 rfl rfl ?_
    refine x_i2l C dX8_cupOf_8 ?_
    refine x_lconst C (v := 0) dX8_cupOf_9 (by decide) ?_
    refine x_ldc2 C dX8_cupOf_10 kc_X8_75 ?_
    refine x_callSi C (As := [.long (Int32.toInt64 what), .long (0), .long (4)]) (rest := []) (c_in l E σ τ (Int32.toInt64 what) 0 4) ks_X8_49 ⟨Nat.le_of_ble_eq_true rfl, Nat.le_of_ble_eq_true rfl⟩ rfl rfl (Nat.le_of_ble_eq_true rfl) dX8_cupOf_13 ?_
    refine WM.topi (y := if rng what 0 4 then 1 else 0) (in_eq what 0 4 (by decide) (by decide)) ?_
    refine x_ifneB C (tgt := 26) dX8_cupOf_16 (by decide) (fun h2 => ?_) (fun h2 => ?_)
    · obtain ⟨q, hqa, hqb, rfl⟩ := rngN (a := 0) (b := 11) h1 (by decide) (by decide) (by decide)
      refine x_iload_n C 2 dX8_cupOf_26 rfl rfl ?_
      by_cases t3 : what = 0
      · refine WM.topi (y := 0) t3 ?_
        refine x_tableIn C (tgt := 56) dX8_cupOf_27 (by decide) (by decide) rfl (by decide) ?_
        refine x_aload_n C 0 dX8_cupOf_56 rfl rfl ?_
        refine x_get C (Nat.le_of_ble_eq_true rfl) xd_81 fl_X8_9 (q := (0, 82, 0)) (v := .ref (xad E (82))) rfl rfl dX8_cupOf_57 ?_
        refine x_bipush C (v := 32) dX8_cupOf_60 (by decide) ?_
        refine x_iload_n C 1 dX8_cupOf_62 rfl rfl ?_
        refine x_iadd C dX8_cupOf_63 ?_
        refine WM.topi (y := nI (32 + q)) (nI_add 32 q) ?_
        refine x_ald C (Nat.le_of_ble_eq_true rfl) xd_82 (v := σ 10 (32 + q)) (vp_in_nI (show 32 + q < 284 by omega) (by decide)) (by rw [(nI_clamp (show 32 + q < 2 ^ 31 by omega)), Nat.zero_add, Nat.one_mul]) dX8_cupOf_64 ?_
        exact x_oret C (mpost_of (V := mv σ) (Eq.trans (if_pos (by first | assumption | ((try simp only [rng, mayQ, tI_lt, tI_eq, cvr_0, mvr_0, cvr_c, mvr_c, tl_0, tl_1, tl_2, tl_3, tl_4, tl_5, tl_6, tl_7, tl_8, tl_9, tl_10, tl_11, tl_12, tl_13, tl_20, tl_32, tl_99] at h1 h2 t3 ⊢) <;> omega))) (Eq.trans (congrArg (fun z => (cupS z what (mv σ 0), mv σ)) (nI_clamp (by omega))) (congrArg (fun z => (z, mv σ)) (show cupS q what (σ 10) = σ 10 (32 + q) from by simp [cupS, t3])))) rfl rfl rfl) dX8_cupOf_65
      · by_cases t4 : what = 1
        · refine WM.topi (y := 1) t4 ?_
          refine x_tableIn C (tgt := 66) dX8_cupOf_27 (by decide) (by decide) rfl (by decide) ?_
          refine x_aload_n C 0 dX8_cupOf_66 rfl rfl ?_
          refine x_get C (Nat.le_of_ble_eq_true rfl) xd_81 fl_X8_9 (q := (0, 82, 0)) (v := .ref (xad E (82))) rfl rfl dX8_cupOf_67 ?_
          refine x_bipush C (v := 20) dX8_cupOf_70 (by decide) ?_
          refine x_iload_n C 1 dX8_cupOf_72 rfl rfl ?_
          refine x_iadd C dX8_cupOf_73 ?_
          refine WM.topi (y := nI (20 + q)) (nI_add 20 q) ?_
          refine x_ald C (Nat.le_of_ble_eq_true rfl) xd_82 (v := σ 10 (20 + q)) (vp_in_nI (show 20 + q < 284 by omega) (by decide)) (by rw [(nI_clamp (show 20 + q < 2 ^ 31 by omega)), Nat.zero_add, Nat.one_mul]) dX8_cupOf_74 ?_
          exact x_oret C (mpost_of (V := mv σ) (Eq.trans (if_pos (by first | assumption | ((try simp only [rng, mayQ, tI_lt, tI_eq, cvr_0, mvr_0, cvr_c, mvr_c, tl_0, tl_1, tl_2, tl_3, tl_4, tl_5, tl_6, tl_7, tl_8, tl_9, tl_10, tl_11, tl_12, tl_13, tl_20, tl_32, tl_99] at h1 h2 t3 t4 ⊢) <;> omega))) (Eq.trans (congrArg (fun z => (cupS z what (mv σ 0), mv σ)) (nI_clamp (by omega))) (congrArg (fun z => (z, mv σ)) (show cupS q what (σ 10) = σ 10 (20 + q) from by simp [cupS, t3, t4])))) rfl rfl rfl) dX8_cupOf_75
        · by_cases t5 : what = 2
          · refine WM.topi (y := 2) t5 ?_
            refine x_tableIn C (tgt := 76) dX8_cupOf_27 (by decide) (by decide) rfl (by decide) ?_
            refine x_aload_n C 0 dX8_cupOf_76 rfl rfl ?_
            refine x_get C (Nat.le_of_ble_eq_true rfl) xd_81 fl_X8_9 (q := (0, 82, 0)) (v := .ref (xad E (82))) rfl rfl dX8_cupOf_77 ?_
            refine x_iload_n C 1 dX8_cupOf_80 rfl rfl ?_
            refine WM.to (σ1 := va_up σ 10 (σ 10)) ?_ (xself _ _).symm rfl rfl rfl
            refine x_callSi C (As := [.ref (xad E (82)), .int (nI q)]) (rest := []) (cM_placeOf l E σ τ 10 (by decide) (σ 10) q (by omega)) ks_X8_71 ⟨Nat.le_of_ble_eq_true rfl, Nat.le_of_ble_eq_true rfl⟩ rfl rfl (Nat.le_of_ble_eq_true rfl) dX8_cupOf_81 ?_
            refine WM.to (σ1 := σ) ?_ (xself _ _) rfl rfl rfl
            exact x_oret C (mpost_of (V := mv σ) (Eq.trans (if_pos (by first | assumption | ((try simp only [rng, mayQ, tI_lt, tI_eq, cvr_0, mvr_0, cvr_c, mvr_c, tl_0, tl_1, tl_2, tl_3, tl_4, tl_5, tl_6, tl_7, tl_8, tl_9, tl_10, tl_11, tl_12, tl_13, tl_20, tl_32, tl_99] at h1 h2 t3 t4 t5 ⊢) <;> omega))) (Eq.trans (congrArg (fun z => (cupS z what (mv σ 0), mv σ)) (nI_clamp (by omega))) (congrArg (fun z => (z, mv σ)) (show cupS q what (σ 10) = placeG (σ 10) q from by simp [cupS, t3, t4, t5])))) rfl rfl rfl) dX8_cupOf_84
          · by_cases t6 : what = 3
            · refine WM.topi (y := 3) t6 ?_
              refine x_tableIn C (tgt := 85) dX8_cupOf_27 (by decide) (by decide) rfl (by decide) ?_
              refine x_aload_n C 0 dX8_cupOf_85 rfl rfl ?_
              refine x_get C (Nat.le_of_ble_eq_true rfl) xd_81 fl_X8_9 (q := (0, 82, 0)) (v := .ref (xad E (82))) rfl rfl dX8_cupOf_86 ?_
              refine x_iload_n C 1 dX8_cupOf_89 rfl rfl ?_
              refine WM.to (σ1 := va_up σ 10 (σ 10)) ?_ (xself _ _).symm rfl rfl rfl
              refine x_callSi C (As := [.ref (xad E (82)), .int (nI q)]) (rest := []) (cM_roomOf l E σ τ 10 (by decide) (σ 10) q (by omega)) ks_X8_77 ⟨Nat.le_of_ble_eq_true rfl, Nat.le_of_ble_eq_true rfl⟩ rfl rfl (Nat.le_of_ble_eq_true rfl) dX8_cupOf_90 ?_
              refine WM.to (σ1 := σ) ?_ (xself _ _) rfl rfl rfl
              exact x_oret C (mpost_of (V := mv σ) (Eq.trans (if_pos (by first | assumption | ((try simp only [rng, mayQ, tI_lt, tI_eq, cvr_0, mvr_0, cvr_c, mvr_c, tl_0, tl_1, tl_2, tl_3, tl_4, tl_5, tl_6, tl_7, tl_8, tl_9, tl_10, tl_11, tl_12, tl_13, tl_20, tl_32, tl_99] at h1 h2 t3 t4 t5 t6 ⊢) <;> omega))) (Eq.trans (congrArg (fun z => (cupS z what (mv σ 0), mv σ)) (nI_clamp (by omega))) (congrArg (fun z => (z, mv σ)) (show cupS q what (σ 10) = roomG (σ 10) q from by simp [cupS, t3, t4, t5, t6])))) rfl rfl rfl) dX8_cupOf_93
            · refine x_tableOut C (tgt := 94) dX8_cupOf_27 (by rw [tI_eq, show (0 : Int32).toInt = 0 from by decide] at t3; rw [tI_eq, show (1 : Int32).toInt = 1 from by decide] at t4; rw [tI_eq, show (2 : Int32).toInt = 2 from by decide] at t5; rw [tI_eq, show (3 : Int32).toInt = 3 from by decide] at t6; first | omega) (by decide) ?_
              refine x_aload_n C 0 dX8_cupOf_94 rfl rfl ?_
              refine x_get C (Nat.le_of_ble_eq_true rfl) xd_81 fl_X8_9 (q := (0, 82, 0)) (v := .ref (xad E (82))) rfl rfl dX8_cupOf_95 ?_
              refine x_iload_n C 1 dX8_cupOf_98 rfl rfl ?_
              refine WM.to (σ1 := va_up σ 10 (σ 10)) ?_ (xself _ _).symm rfl rfl rfl
              refine x_callSi C (As := [.ref (xad E (82)), .int (nI q)]) (rest := []) (cM_leaksFrom l E σ τ 10 (by decide) (σ 10) q (by omega)) ks_X8_80 ⟨Nat.le_of_ble_eq_true rfl, Nat.le_of_ble_eq_true rfl⟩ rfl rfl (Nat.le_of_ble_eq_true rfl) dX8_cupOf_99 ?_
              refine WM.to (σ1 := σ) ?_ (xself _ _) rfl rfl rfl
              exact x_oret C (mpost_of (V := mv σ) (Eq.trans (if_pos (by first | assumption | ((try simp only [rng, mayQ, tI_lt, tI_eq, cvr_0, mvr_0, cvr_c, mvr_c, tl_0, tl_1, tl_2, tl_3, tl_4, tl_5, tl_6, tl_7, tl_8, tl_9, tl_10, tl_11, tl_12, tl_13, tl_20, tl_32, tl_99] at h1 h2 t3 t4 t5 t6 ⊢) <;> omega))) (Eq.trans (congrArg (fun z => (cupS z what (mv σ 0), mv σ)) (nI_clamp (by omega))) (congrArg (fun z => (z, mv σ)) (show cupS q what (σ 10) = leakG (σ 10) q from by simp [cupS, t3, t4, t5, t6])))) rfl rfl rfl) dX8_cupOf_102
    · refine x_aload_n C 0 dX8_cupOf_19 rfl rfl ?_
      refine x_ldc C dX8_cupOf_20 kc_X8_46 ?_
      refine x_callVi C (As := [.int ((-1000001))]) (rest := []) (c_finds l E σ τ 0 (by decide) (-1000001) (by decide)) kv_X8_61 (x_recv C (Nat.le_of_ble_eq_true rfl) xd_81 rfl) ⟨Nat.le_of_ble_eq_true rfl, Nat.le_of_ble_eq_true rfl⟩ rfl rfl (Nat.le_of_ble_eq_true rfl) dX8_cupOf_22 ?_
      exact x_oret C (mpost_of (V := u2 (mv σ) 2 0 (σ 14 0 + 1)) (if_neg (by first | assumption | ((try simp only [rng, mayQ, tI_lt, tI_eq, cvr_0, mvr_0, cvr_c, mvr_c, tl_0, tl_1, tl_2, tl_3, tl_4, tl_5, tl_6, tl_7, tl_8, tl_9, tl_10, tl_11, tl_12, tl_13, tl_20, tl_32, tl_99] at h1 h2 ⊢) <;> omega))) (by rw [mv_u14]) (by rw [cv_u14]) rfl) dX8_cupOf_25
set_option maxHeartbeats 4000000 in
set_option maxRecDepth 100000 in
theorem k_fill (l : Launch) (E : xE) (σ : Nat → Nat → Int32) (τ : Nat → Int64) (T : Nat) (hT : T < 1073741824) (cup n : Int32) (hI : Inv (cv σ) T) : xOi l yX7_fill cX7_fill 4 .int 2 44 E [.ref (xad E (0)), .int (cup), .int (n)] σ τ (cpost (sp_fill cup n (cv σ)) σ) := by
  refine xOi_of (own := RX7) (by decide +kernel) rfl (Nat.le_of_ble_eq_true rfl) ?_
  intro zp ze zs zm za zb zh zc C
  refine WM.to (lv1 := [(0, .ref (xad E (0))), (1, .int (cup)), (2, .int (n))]) (st1 := []) (σ1 := σ) (τ1 := τ) ?_ rfl rfl rfl rfl
  have hg : gI (σ 0) := hI.g
  have hgT : gT (σ 0) T := hI.t
  have h0 : 0 ≤ (σ 0 10).toInt := hI.h0
  refine x_iload_n C 1 dX7_fill_0 rfl rfl ?_
  refine x_callSi C (As := [.int (cup)]) (rest := []) (c_isCup l E σ τ cup) ks_X7_74 ⟨Nat.le_of_ble_eq_true rfl, Nat.le_of_ble_eq_true rfl⟩ rfl rfl (Nat.le_of_ble_eq_true rfl) dX7_fill_1 ?_
  refine x_ifeqB C (tgt := 18) dX7_fill_4 (by decide) (fun h1 => ?_) (fun h1 => ?_)
  · refine x_aload_n C 0 dX7_fill_18 rfl rfl ?_
    refine x_ldc C dX7_fill_19 kc_X7_63 ?_
    refine x_callVi C (As := [.int ((-1000001))]) (rest := []) (c_finding l E σ τ 0 (by decide) (-1000001) (by decide)) kv_X7_64 (x_recv C (Nat.le_of_ble_eq_true rfl) xd_0 rfl) ⟨Nat.le_of_ble_eq_true rfl, Nat.le_of_ble_eq_true rfl⟩ rfl rfl (Nat.le_of_ble_eq_true rfl) dX7_fill_21 ?_
    exact x_oret C (cpost_of (V := u2 (cv σ) 2 0 (σ 4 0 + 1)) (if_neg (by first | assumption | ((try simp only [rng, mayQ, tI_lt, tI_eq, cvr_0, mvr_0, cvr_c, mvr_c, tl_0, tl_1, tl_2, tl_3, tl_4, tl_5, tl_6, tl_7, tl_8, tl_9, tl_10, tl_11, tl_12, tl_13, tl_99, tl_999] at h1 ⊢) <;> omega))) (by rw [cv_u4]) (by rw [mv_u4]) rfl) dX7_fill_24
  · refine x_iload_n C 2 dX7_fill_7 rfl rfl ?_
    refine x_iconst C (v := 1) dX7_fill_8 (by decide) ?_
    refine x_sipush C (v := 999) dX7_fill_9 (by decide) ?_
    refine x_callSi C (As := [.int (n), .int (1), .int (999)]) (rest := []) (c_within l E σ τ n 1 999) ks_X7_59 ⟨Nat.le_of_ble_eq_true rfl, Nat.le_of_ble_eq_true rfl⟩ rfl rfl (Nat.le_of_ble_eq_true rfl) dX7_fill_12 ?_
    refine x_ifneB C (tgt := 25) dX7_fill_15 (by decide) (fun h2 => ?_) (fun h2 => ?_)
    · have hnr := h2
      obtain ⟨q, hqa, hqb, rfl⟩ := rngN (a := 0) (b := 11) h1 (by decide) (by decide) (by decide)
      refine x_aload_n C 0 dX7_fill_25 rfl rfl ?_
      refine x_get C (Nat.le_of_ble_eq_true rfl) xd_0 fl_X7_12 (q := (0, 1, 0)) (v := .ref (xad E (1))) rfl rfl dX7_fill_26 ?_
      refine x_get C (Nat.le_of_ble_eq_true rfl) xd_1 fl_X7_68 (q := (0, 2, 0)) (v := .ref (xad E (2))) rfl rfl dX7_fill_29 ?_
      refine x_astore_n C (lv1 := [(3, .ref (xad E (2))), (0, .ref (xad E (0))), (1, .int (nI q)), (2, .int (n))]) dX7_fill_32 rfl (by decide) rfl ?_
      refine x_aload_n C 0 dX7_fill_33 rfl rfl ?_
      refine x_iload_n C 2 dX7_fill_34 rfl rfl ?_
      refine WM.to (σ1 := va_up σ 0 (σ 0)) ?_ (xself _ _).symm rfl rfl rfl
      refine x_callVi C (As := [.int (nI q)]) (rest := []) (cW_roomOf l E σ τ 0 (by decide) (σ 0) q (by omega) (hg.k (by omega))) kv_X7_90 (x_recv C (Nat.le_of_ble_eq_true rfl) xd_2 rfl) ⟨Nat.le_of_ble_eq_true rfl, Nat.le_of_ble_eq_true rfl⟩ rfl rfl (Nat.le_of_ble_eq_true rfl) dX7_fill_35 ?_
      refine WM.to (σ1 := σ) ?_ (xself _ _) rfl rfl rfl
      refine x_aload_n C 0 dX7_fill_38 rfl rfl ?_
      refine x_get C (Nat.le_of_ble_eq_true rfl) xd_2 fl_X7_84 (q := (0, 5, 0)) (v := .ref (xad E (5))) rfl rfl dX7_fill_39 ?_
      refine x_iload_n C 2 dX7_fill_42 rfl rfl ?_
      refine x_ald C (Nat.le_of_ble_eq_true rfl) xd_5 (v := σ 0 (20 + q)) (vp_in_nI (show q < 12 by omega) (by decide)) (by rw [(nI_clamp (show q < 2 ^ 31 by omega)), Nat.one_mul]) dX7_fill_43 ?_
      refine x_isub C dX7_fill_44 ?_
      refine x_iload_n C 3 dX7_fill_45 rfl rfl ?_
      refine x_icmp_ge C (tgt := 56) dX7_fill_46 (by decide) (fun h3 => ?_) (fun h3 => ?_)
      · refine x_aload_n C 0 dX7_fill_56 rfl rfl ?_
        refine x_get C (Nat.le_of_ble_eq_true rfl) xd_2 fl_X7_84 (q := (0, 5, 0)) (v := .ref (xad E (5))) rfl rfl dX7_fill_57 ?_
        refine x_iload_n C 2 dX7_fill_60 rfl rfl ?_
        refine x_dup2 C dX7_fill_61 rfl rfl ?_
        refine x_ald C (Nat.le_of_ble_eq_true rfl) xd_5 (v := σ 0 (20 + q)) (vp_in_nI (show q < 12 by omega) (by decide)) (by rw [(nI_clamp (show q < 2 ^ 31 by omega)), Nat.one_mul]) dX7_fill_62 ?_
        refine x_iload_n C 3 dX7_fill_63 rfl rfl ?_
        refine x_iadd C dX7_fill_64 ?_
        refine x_ast C (σ' := u2 σ 0 (20 + q) ((σ 0 (20 + q)) + n)) (Nat.le_of_ble_eq_true rfl) xd_5 (by decide) (vp_in_nI (show q < 12 by omega) (by decide)) (by rw [(nI_clamp (show q < 2 ^ 31 by omega)), Nat.one_mul]) dX7_fill_65 ?_
        refine x_aload_n C 0 dX7_fill_66 rfl rfl ?_
        refine x_get C (Nat.le_of_ble_eq_true rfl) xd_2 fl_X7_84 (q := (0, 5, 0)) (v := .ref (xad E (5))) rfl rfl dX7_fill_67 ?_
        refine x_iload_n C 2 dX7_fill_70 rfl rfl ?_
        refine x_ald C (Nat.le_of_ble_eq_true rfl) xd_5 (v := (σ 0 (20 + q)) + n) (vp_in_nI (show q < 12 by omega) (by decide)) (by rw [(nI_clamp (show q < 2 ^ 31 by omega)), Nat.one_mul]; exact (u2_at _ _ _ _)) dX7_fill_71 ?_
        exact x_oret C (cpost_of (V := u2 (cv σ) 0 (20 + q) ((σ 0 (20 + q)) + n)) (Eq.trans (if_pos (by first | assumption | ((try simp only [rng, mayQ, tI_lt, tI_eq, cvr_0, mvr_0, cvr_c, mvr_c, tl_0, tl_1, tl_2, tl_3, tl_4, tl_5, tl_6, tl_7, tl_8, tl_9, tl_10, tl_11, tl_12, tl_13, tl_99, tl_999] at h1 h2 ⊢) <;> omega))) (Eq.trans (congrArg (fun z => fillS z n (cv σ)) (nI_clamp (by omega))) (if_neg h3))) (by rw [cv_u0]) (by rw [mv_u0]) rfl) dX7_fill_72
      · refine x_aload_n C 1 dX7_fill_49 rfl rfl ?_
        refine x_ldc C dX7_fill_50 kc_X7_96 ?_
        refine x_callVi C (As := [.int ((-1000002))]) (rest := []) (c_finding l E σ τ 1 (by decide) (-1000002) (by decide)) kv_X7_64 (x_recv C (Nat.le_of_ble_eq_true rfl) xd_0 rfl) ⟨Nat.le_of_ble_eq_true rfl, Nat.le_of_ble_eq_true rfl⟩ rfl rfl (Nat.le_of_ble_eq_true rfl) dX7_fill_52 ?_
        exact x_oret C (cpost_of (V := u2 (cv σ) 2 1 (σ 4 1 + 1)) (Eq.trans (if_pos (by first | assumption | ((try simp only [rng, mayQ, tI_lt, tI_eq, cvr_0, mvr_0, cvr_c, mvr_c, tl_0, tl_1, tl_2, tl_3, tl_4, tl_5, tl_6, tl_7, tl_8, tl_9, tl_10, tl_11, tl_12, tl_13, tl_99, tl_999] at h1 h2 ⊢) <;> omega))) (Eq.trans (congrArg (fun z => fillS z n (cv σ)) (nI_clamp (by omega))) (if_pos h3))) (by rw [cv_u4]) (by rw [mv_u4]) rfl) dX7_fill_55
    · refine x_aload_n C 0 dX7_fill_18 rfl rfl ?_
      refine x_ldc C dX7_fill_19 kc_X7_63 ?_
      refine x_callVi C (As := [.int ((-1000001))]) (rest := []) (c_finding l E σ τ 0 (by decide) (-1000001) (by decide)) kv_X7_64 (x_recv C (Nat.le_of_ble_eq_true rfl) xd_0 rfl) ⟨Nat.le_of_ble_eq_true rfl, Nat.le_of_ble_eq_true rfl⟩ rfl rfl (Nat.le_of_ble_eq_true rfl) dX7_fill_21 ?_
      exact x_oret C (cpost_of (V := u2 (cv σ) 2 0 (σ 4 0 + 1)) (if_neg (by first | assumption | ((try simp only [rng, mayQ, tI_lt, tI_eq, cvr_0, mvr_0, cvr_c, mvr_c, tl_0, tl_1, tl_2, tl_3, tl_4, tl_5, tl_6, tl_7, tl_8, tl_9, tl_10, tl_11, tl_12, tl_13, tl_99, tl_999] at h1 h2 ⊢) <;> omega))) (by rw [cv_u4]) (by rw [mv_u4]) rfl) dX7_fill_24
set_option maxHeartbeats 4000000 in
set_option maxRecDepth 100000 in
theorem m_fill (l : Launch) (E : xE) (σ : Nat → Nat → Int32) (τ : Nat → Int64) (T : Nat) (hT : T < 1073741824) (cup n : Int32) (hI : Inv (mv σ) T) (hlv : ∀ j, j < 12 → σ 15 j = (xzl 1).getD j 0) : xOi l yX8_fill cX8_fill 3 .int 2 45 E [.ref (xad E (81)), .int (cup), .int (n)] σ τ (mpost (sp_fill cup n (mv σ)) σ) := by
  refine xOi_of (own := RX8) (by decide +kernel) rfl (Nat.le_of_ble_eq_true rfl) ?_
  intro zp ze zs zm za zb zh zc C
  refine WM.to (lv1 := [(0, .ref (xad E (81))), (1, .int (cup)), (2, .int (n))]) (st1 := []) (σ1 := σ) (τ1 := τ) ?_ rfl rfl rfl rfl
  have hg : gI (σ 10) := hI.g
  have hgT : gT (σ 10) T := hI.t
  have h0 : 0 ≤ (σ 10 10).toInt := hI.h0
  refine x_iload_n C 1 dX8_fill_0 rfl rfl ?_
  refine x_callSi C (As := [.int (cup)]) (rest := []) (c_misCup l E σ τ cup) ks_X8_65 ⟨Nat.le_of_ble_eq_true rfl, Nat.le_of_ble_eq_true rfl⟩ rfl rfl (Nat.le_of_ble_eq_true rfl) dX8_fill_1 ?_
  refine x_ifeqB C (tgt := 19) dX8_fill_4 (by decide) (fun h1 => ?_) (fun h1 => ?_)
  · refine x_aload_n C 0 dX8_fill_19 rfl rfl ?_
    refine x_ldc C dX8_fill_20 kc_X8_46 ?_
    refine x_callVi C (As := [.int ((-1000001))]) (rest := []) (c_finds l E σ τ 0 (by decide) (-1000001) (by decide)) kv_X8_61 (x_recv C (Nat.le_of_ble_eq_true rfl) xd_81 rfl) ⟨Nat.le_of_ble_eq_true rfl, Nat.le_of_ble_eq_true rfl⟩ rfl rfl (Nat.le_of_ble_eq_true rfl) dX8_fill_22 ?_
    exact x_oret C (mpost_of (V := u2 (mv σ) 2 0 (σ 14 0 + 1)) (if_neg (by first | assumption | ((try simp only [rng, mayQ, tI_lt, tI_eq, cvr_0, mvr_0, cvr_c, mvr_c, tl_0, tl_1, tl_2, tl_3, tl_4, tl_5, tl_6, tl_7, tl_8, tl_9, tl_10, tl_11, tl_12, tl_13, tl_20, tl_99, tl_999] at h1 ⊢) <;> omega))) (by rw [mv_u14]) (by rw [cv_u14]) rfl) dX8_fill_25
  · refine x_iload_n C 2 dX8_fill_7 rfl rfl ?_
    refine x_i2l C dX8_fill_8 ?_
    refine x_lconst C (v := 1) dX8_fill_9 (by decide) ?_
    refine x_ldc2 C dX8_fill_10 kc_X8_83 ?_
    refine x_callSi C (As := [.long (Int32.toInt64 n), .long (1), .long (999)]) (rest := []) (c_in l E σ τ (Int32.toInt64 n) 1 999) ks_X8_49 ⟨Nat.le_of_ble_eq_true rfl, Nat.le_of_ble_eq_true rfl⟩ rfl rfl (Nat.le_of_ble_eq_true rfl) dX8_fill_13 ?_
    refine WM.topi (y := if rng n 1 999 then 1 else 0) (in_eq n 1 999 (by decide) (by decide)) ?_
    refine x_ifneB C (tgt := 26) dX8_fill_16 (by decide) (fun h2 => ?_) (fun h2 => ?_)
    · have hnr := h2
      obtain ⟨q, hqa, hqb, rfl⟩ := rngN (a := 0) (b := 11) h1 (by decide) (by decide) (by decide)
      refine x_aload_n C 0 dX8_fill_26 rfl rfl ?_
      refine x_get C (Nat.le_of_ble_eq_true rfl) xd_81 fl_X8_9 (q := (0, 82, 0)) (v := .ref (xad E (82))) rfl rfl dX8_fill_27 ?_
      refine x_bipush C (v := 20) dX8_fill_30 (by decide) ?_
      refine x_iload_n C 1 dX8_fill_32 rfl rfl ?_
      refine x_iadd C dX8_fill_33 ?_
      refine WM.topi (y := nI (20 + q)) (nI_add 20 q) ?_
      refine x_ald C (Nat.le_of_ble_eq_true rfl) xd_82 (v := σ 10 (20 + q)) (vp_in_nI (show 20 + q < 284 by omega) (by decide)) (by rw [(nI_clamp (show 20 + q < 2 ^ 31 by omega)), Nat.zero_add, Nat.one_mul]) dX8_fill_34 ?_
      refine x_iload_n C 2 dX8_fill_35 rfl rfl ?_
      refine x_iadd C dX8_fill_36 ?_
      refine x_aload_n C 0 dX8_fill_37 rfl rfl ?_
      refine x_get C (Nat.le_of_ble_eq_true rfl) xd_81 fl_X8_9 (q := (0, 82, 0)) (v := .ref (xad E (82))) rfl rfl dX8_fill_38 ?_
      refine x_iload_n C 1 dX8_fill_41 rfl rfl ?_
      refine WM.to (σ1 := va_up σ 10 (σ 10)) ?_ (xself _ _).symm rfl rfl rfl
      refine x_callSi C (As := [.ref (xad E (82)), .int (nI q)]) (rest := [.int ((σ 10 (20 + q)) + n)]) (cM_roomOf l E σ τ 10 (by decide) (σ 10) q (by omega)) ks_X8_77 ⟨Nat.le_of_ble_eq_true rfl, Nat.le_of_ble_eq_true rfl⟩ rfl rfl (Nat.le_of_ble_eq_true rfl) dX8_fill_42 ?_
      refine WM.to (σ1 := σ) ?_ (xself _ _) rfl rfl rfl
      refine x_icmp_le C (tgt := 55) dX8_fill_45 (by decide) (fun h3 => ?_) (fun h3 => ?_)
      · refine x_aload_n C 0 dX8_fill_55 rfl rfl ?_
        refine x_get C (Nat.le_of_ble_eq_true rfl) xd_81 fl_X8_9 (q := (0, 82, 0)) (v := .ref (xad E (82))) rfl rfl dX8_fill_56 ?_
        refine x_bipush C (v := 20) dX8_fill_59 (by decide) ?_
        refine x_iload_n C 1 dX8_fill_61 rfl rfl ?_
        refine x_iadd C dX8_fill_62 ?_
        refine WM.topi (y := nI (20 + q)) (nI_add 20 q) ?_
        refine x_dup2 C dX8_fill_63 rfl rfl ?_
        refine x_ald C (Nat.le_of_ble_eq_true rfl) xd_82 (v := σ 10 (20 + q)) (vp_in_nI (show 20 + q < 284 by omega) (by decide)) (by rw [(nI_clamp (show 20 + q < 2 ^ 31 by omega)), Nat.zero_add, Nat.one_mul]) dX8_fill_64 ?_
        refine x_iload_n C 2 dX8_fill_65 rfl rfl ?_
        refine x_iadd C dX8_fill_66 ?_
        refine x_ast C (σ' := u2 σ 10 (20 + q) ((σ 10 (20 + q)) + n)) (Nat.le_of_ble_eq_true rfl) xd_82 (by decide) (vp_in_nI (show 20 + q < 284 by omega) (by decide)) (by rw [(nI_clamp (show 20 + q < 2 ^ 31 by omega)), Nat.zero_add, Nat.one_mul]) dX8_fill_67 ?_
        refine x_aload_n C 0 dX8_fill_68 rfl rfl ?_
        refine x_get C (Nat.le_of_ble_eq_true rfl) xd_81 fl_X8_9 (q := (0, 82, 0)) (v := .ref (xad E (82))) rfl rfl dX8_fill_69 ?_
        refine x_bipush C (v := 20) dX8_fill_72 (by decide) ?_
        refine x_iload_n C 1 dX8_fill_74 rfl rfl ?_
        refine x_iadd C dX8_fill_75 ?_
        refine WM.topi (y := nI (20 + q)) (nI_add 20 q) ?_
        refine x_ald C (Nat.le_of_ble_eq_true rfl) xd_82 (v := (σ 10 (20 + q)) + n) (vp_in_nI (show 20 + q < 284 by omega) (by decide)) (by rw [(nI_clamp (show 20 + q < 2 ^ 31 by omega)), Nat.zero_add, Nat.one_mul]; exact (u2_at _ _ _ _)) dX8_fill_76 ?_
        exact x_oret C (mpost_of (V := u2 (mv σ) 0 (20 + q) ((σ 10 (20 + q)) + n)) (Eq.trans (if_pos (by first | assumption | ((try simp only [rng, mayQ, tI_lt, tI_eq, cvr_0, mvr_0, cvr_c, mvr_c, tl_0, tl_1, tl_2, tl_3, tl_4, tl_5, tl_6, tl_7, tl_8, tl_9, tl_10, tl_11, tl_12, tl_13, tl_20, tl_99, tl_999] at h1 h2 ⊢) <;> omega))) (Eq.trans (congrArg (fun z => fillS z n (mv σ)) (nI_clamp (by omega))) (if_neg (fun z => h3 ((fill_iff hg (by omega) hnr).mp z))))) (by rw [mv_u10]) (by rw [cv_u10]) rfl) dX8_fill_77
      · refine x_aload_n C 0 dX8_fill_48 rfl rfl ?_
        refine x_ldc C dX8_fill_49 kc_X8_85 ?_
        refine x_callVi C (As := [.int ((-1000002))]) (rest := []) (c_finds l E σ τ 1 (by decide) (-1000002) (by decide)) kv_X8_61 (x_recv C (Nat.le_of_ble_eq_true rfl) xd_81 rfl) ⟨Nat.le_of_ble_eq_true rfl, Nat.le_of_ble_eq_true rfl⟩ rfl rfl (Nat.le_of_ble_eq_true rfl) dX8_fill_51 ?_
        exact x_oret C (mpost_of (V := u2 (mv σ) 2 1 (σ 14 1 + 1)) (Eq.trans (if_pos (by first | assumption | ((try simp only [rng, mayQ, tI_lt, tI_eq, cvr_0, mvr_0, cvr_c, mvr_c, tl_0, tl_1, tl_2, tl_3, tl_4, tl_5, tl_6, tl_7, tl_8, tl_9, tl_10, tl_11, tl_12, tl_13, tl_20, tl_99, tl_999] at h1 h2 ⊢) <;> omega))) (Eq.trans (congrArg (fun z => fillS z n (mv σ)) (nI_clamp (by omega))) (if_pos ((fill_iff hg (by omega) hnr).mpr h3)))) (by rw [mv_u14]) (by rw [cv_u14]) rfl) dX8_fill_54
    · refine x_aload_n C 0 dX8_fill_19 rfl rfl ?_
      refine x_ldc C dX8_fill_20 kc_X8_46 ?_
      refine x_callVi C (As := [.int ((-1000001))]) (rest := []) (c_finds l E σ τ 0 (by decide) (-1000001) (by decide)) kv_X8_61 (x_recv C (Nat.le_of_ble_eq_true rfl) xd_81 rfl) ⟨Nat.le_of_ble_eq_true rfl, Nat.le_of_ble_eq_true rfl⟩ rfl rfl (Nat.le_of_ble_eq_true rfl) dX8_fill_22 ?_
      exact x_oret C (mpost_of (V := u2 (mv σ) 2 0 (σ 14 0 + 1)) (if_neg (by first | assumption | ((try simp only [rng, mayQ, tI_lt, tI_eq, cvr_0, mvr_0, cvr_c, mvr_c, tl_0, tl_1, tl_2, tl_3, tl_4, tl_5, tl_6, tl_7, tl_8, tl_9, tl_10, tl_11, tl_12, tl_13, tl_20, tl_99, tl_999] at h1 h2 ⊢) <;> omega))) (by rw [mv_u14]) (by rw [cv_u14]) rfl) dX8_fill_25
set_option maxHeartbeats 4000000 in
set_option maxRecDepth 100000 in
theorem k_empty (l : Launch) (E : xE) (σ : Nat → Nat → Int32) (τ : Nat → Int64) (T : Nat) (hT : T < 1073741824) (cup : Int32) (hI : Inv (cv σ) T) : xOi l yX7_empty cX7_empty 3 .int 2 44 E [.ref (xad E (0)), .int (cup)] σ τ (cpost (sp_empty cup (cv σ)) σ) := by
  refine xOi_of (own := RX7) (by decide +kernel) rfl (Nat.le_of_ble_eq_true rfl) ?_
  intro zp ze zs zm za zb zh zc C
  refine WM.to (lv1 := [(0, .ref (xad E (0))), (1, .int (cup))]) (st1 := []) (σ1 := σ) (τ1 := τ) ?_ rfl rfl rfl rfl
  have hg : gI (σ 0) := hI.g
  have hgT : gT (σ 0) T := hI.t
  have h0 : 0 ≤ (σ 0 10).toInt := hI.h0
  refine x_iload_n C 1 dX7_empty_0 rfl rfl ?_
  refine x_callSi C (As := [.int (cup)]) (rest := []) (c_isCup l E σ τ cup) ks_X7_74 ⟨Nat.le_of_ble_eq_true rfl, Nat.le_of_ble_eq_true rfl⟩ rfl rfl (Nat.le_of_ble_eq_true rfl) dX7_empty_1 ?_
  refine x_ifneB C (tgt := 14) dX7_empty_4 (by decide) (fun h1 => ?_) (fun h1 => ?_)
  · obtain ⟨q, hqa, hqb, rfl⟩ := rngN (a := 0) (b := 11) h1 (by decide) (by decide) (by decide)
    refine x_aload_n C 0 dX7_empty_14 rfl rfl ?_
    refine x_get C (Nat.le_of_ble_eq_true rfl) xd_0 fl_X7_12 (q := (0, 1, 0)) (v := .ref (xad E (1))) rfl rfl dX7_empty_15 ?_
    refine x_get C (Nat.le_of_ble_eq_true rfl) xd_1 fl_X7_68 (q := (0, 2, 0)) (v := .ref (xad E (2))) rfl rfl dX7_empty_18 ?_
    refine x_get C (Nat.le_of_ble_eq_true rfl) xd_2 fl_X7_84 (q := (0, 5, 0)) (v := .ref (xad E (5))) rfl rfl dX7_empty_21 ?_
    refine x_iload_n C 1 dX7_empty_24 rfl rfl ?_
    refine x_ald C (Nat.le_of_ble_eq_true rfl) xd_5 (v := σ 0 (20 + q)) (vp_in_nI (show q < 12 by omega) (by decide)) (by rw [(nI_clamp (show q < 2 ^ 31 by omega)), Nat.one_mul]) dX7_empty_25 ?_
    refine x_istore_n C (lv1 := [(2, .int (σ 0 (20 + q))), (0, .ref (xad E (0))), (1, .int (nI q))]) dX7_empty_26 rfl (by decide) rfl ?_
    refine x_aload_n C 1 dX7_empty_27 rfl rfl ?_
    refine x_get C (Nat.le_of_ble_eq_true rfl) xd_0 fl_X7_12 (q := (0, 1, 0)) (v := .ref (xad E (1))) rfl rfl dX7_empty_28 ?_
    refine x_get C (Nat.le_of_ble_eq_true rfl) xd_1 fl_X7_68 (q := (0, 2, 0)) (v := .ref (xad E (2))) rfl rfl dX7_empty_31 ?_
    refine x_get C (Nat.le_of_ble_eq_true rfl) xd_2 fl_X7_84 (q := (0, 5, 0)) (v := .ref (xad E (5))) rfl rfl dX7_empty_34 ?_
    refine x_iload_n C 2 dX7_empty_37 rfl rfl ?_
    refine x_iconst C (v := 0) dX7_empty_38 (by decide) ?_
    refine x_ast C (σ' := u2 σ 0 (20 + q) (0)) (Nat.le_of_ble_eq_true rfl) xd_5 (by decide) (vp_in_nI (show q < 12 by omega) (by decide)) (by rw [(nI_clamp (show q < 2 ^ 31 by omega)), Nat.one_mul]) dX7_empty_39 ?_
    refine x_iload_n C 0 dX7_empty_40 rfl rfl ?_
    exact x_oret C (cpost_of (V := u2 (cv σ) 0 (20 + q) (0)) (Eq.trans (if_pos (by first | assumption | ((try simp only [rng, mayQ, tI_lt, tI_eq, cvr_0, mvr_0, cvr_c, mvr_c, tl_0, tl_1, tl_2, tl_3, tl_4, tl_5, tl_6, tl_7, tl_8, tl_9, tl_10, tl_11, tl_12, tl_13, tl_99] at h1 ⊢) <;> omega))) (congrArg (fun z => setS (20 + z) 0 (cv σ)) (nI_clamp (by omega)))) (by rw [cv_u0]) (by rw [mv_u0]) rfl) dX7_empty_41
  · refine x_aload_n C 0 dX7_empty_7 rfl rfl ?_
    refine x_ldc C dX7_empty_8 kc_X7_63 ?_
    refine x_callVi C (As := [.int ((-1000001))]) (rest := []) (c_finding l E σ τ 0 (by decide) (-1000001) (by decide)) kv_X7_64 (x_recv C (Nat.le_of_ble_eq_true rfl) xd_0 rfl) ⟨Nat.le_of_ble_eq_true rfl, Nat.le_of_ble_eq_true rfl⟩ rfl rfl (Nat.le_of_ble_eq_true rfl) dX7_empty_10 ?_
    exact x_oret C (cpost_of (V := u2 (cv σ) 2 0 (σ 4 0 + 1)) (if_neg (by first | assumption | ((try simp only [rng, mayQ, tI_lt, tI_eq, cvr_0, mvr_0, cvr_c, mvr_c, tl_0, tl_1, tl_2, tl_3, tl_4, tl_5, tl_6, tl_7, tl_8, tl_9, tl_10, tl_11, tl_12, tl_13, tl_99] at h1 ⊢) <;> omega))) (by rw [cv_u4]) (by rw [mv_u4]) rfl) dX7_empty_13
set_option maxHeartbeats 4000000 in
set_option maxRecDepth 100000 in
theorem m_empty (l : Launch) (E : xE) (σ : Nat → Nat → Int32) (τ : Nat → Int64) (T : Nat) (hT : T < 1073741824) (cup : Int32) (hI : Inv (mv σ) T) (hlv : ∀ j, j < 12 → σ 15 j = (xzl 1).getD j 0) : xOi l yX8_empty cX8_empty 3 .int 2 45 E [.ref (xad E (81)), .int (cup)] σ τ (mpost (sp_empty cup (mv σ)) σ) := by
  refine xOi_of (own := RX8) (by decide +kernel) rfl (Nat.le_of_ble_eq_true rfl) ?_
  intro zp ze zs zm za zb zh zc C
  refine WM.to (lv1 := [(0, .ref (xad E (81))), (1, .int (cup))]) (st1 := []) (σ1 := σ) (τ1 := τ) ?_ rfl rfl rfl rfl
  have hg : gI (σ 10) := hI.g
  have hgT : gT (σ 10) T := hI.t
  have h0 : 0 ≤ (σ 10 10).toInt := hI.h0
  refine x_iload_n C 1 dX8_empty_0 rfl rfl ?_
  refine x_callSi C (As := [.int (cup)]) (rest := []) (c_misCup l E σ τ cup) ks_X8_65 ⟨Nat.le_of_ble_eq_true rfl, Nat.le_of_ble_eq_true rfl⟩ rfl rfl (Nat.le_of_ble_eq_true rfl) dX8_empty_1 ?_
  refine x_ifneB C (tgt := 14) dX8_empty_4 (by decide) (fun h1 => ?_) (fun h1 => ?_)
  · obtain ⟨q, hqa, hqb, rfl⟩ := rngN (a := 0) (b := 11) h1 (by decide) (by decide) (by decide)
    refine x_aload_n C 0 dX8_empty_14 rfl rfl ?_
    refine x_get C (Nat.le_of_ble_eq_true rfl) xd_81 fl_X8_9 (q := (0, 82, 0)) (v := .ref (xad E (82))) rfl rfl dX8_empty_15 ?_
    refine x_bipush C (v := 20) dX8_empty_18 (by decide) ?_
    refine x_iload_n C 1 dX8_empty_20 rfl rfl ?_
    refine x_iadd C dX8_empty_21 ?_
    refine WM.topi (y := nI (20 + q)) (nI_add 20 q) ?_
    refine x_ald C (Nat.le_of_ble_eq_true rfl) xd_82 (v := σ 10 (20 + q)) (vp_in_nI (show 20 + q < 284 by omega) (by decide)) (by rw [(nI_clamp (show 20 + q < 2 ^ 31 by omega)), Nat.zero_add, Nat.one_mul]) dX8_empty_22 ?_
    refine x_istore_n C (lv1 := [(2, .int (σ 10 (20 + q))), (0, .ref (xad E (81))), (1, .int (nI q))]) dX8_empty_23 rfl (by decide) rfl ?_
    refine x_aload_n C 1 dX8_empty_24 rfl rfl ?_
    refine x_get C (Nat.le_of_ble_eq_true rfl) xd_81 fl_X8_9 (q := (0, 82, 0)) (v := .ref (xad E (82))) rfl rfl dX8_empty_25 ?_
    refine x_bipush C (v := 20) dX8_empty_28 (by decide) ?_
    refine x_iload_n C 2 dX8_empty_30 rfl rfl ?_
    refine x_iadd C dX8_empty_31 ?_
    refine WM.topi (y := nI (20 + q)) (nI_add 20 q) ?_
    refine x_iconst C (v := 0) dX8_empty_32 (by decide) ?_
    refine x_ast C (σ' := u2 σ 10 (20 + q) (0)) (Nat.le_of_ble_eq_true rfl) xd_82 (by decide) (vp_in_nI (show 20 + q < 284 by omega) (by decide)) (by rw [(nI_clamp (show 20 + q < 2 ^ 31 by omega)), Nat.zero_add, Nat.one_mul]) dX8_empty_33 ?_
    refine x_iload_n C 0 dX8_empty_34 rfl rfl ?_
    exact x_oret C (mpost_of (V := u2 (mv σ) 0 (20 + q) (0)) (Eq.trans (if_pos (by first | assumption | ((try simp only [rng, mayQ, tI_lt, tI_eq, cvr_0, mvr_0, cvr_c, mvr_c, tl_0, tl_1, tl_2, tl_3, tl_4, tl_5, tl_6, tl_7, tl_8, tl_9, tl_10, tl_11, tl_12, tl_13, tl_20, tl_99] at h1 ⊢) <;> omega))) (congrArg (fun z => setS (20 + z) 0 (mv σ)) (nI_clamp (by omega)))) (by rw [mv_u10]) (by rw [cv_u10]) rfl) dX8_empty_35
  · refine x_aload_n C 0 dX8_empty_7 rfl rfl ?_
    refine x_ldc C dX8_empty_8 kc_X8_46 ?_
    refine x_callVi C (As := [.int ((-1000001))]) (rest := []) (c_finds l E σ τ 0 (by decide) (-1000001) (by decide)) kv_X8_61 (x_recv C (Nat.le_of_ble_eq_true rfl) xd_81 rfl) ⟨Nat.le_of_ble_eq_true rfl, Nat.le_of_ble_eq_true rfl⟩ rfl rfl (Nat.le_of_ble_eq_true rfl) dX8_empty_10 ?_
    exact x_oret C (mpost_of (V := u2 (mv σ) 2 0 (σ 14 0 + 1)) (if_neg (by first | assumption | ((try simp only [rng, mayQ, tI_lt, tI_eq, cvr_0, mvr_0, cvr_c, mvr_c, tl_0, tl_1, tl_2, tl_3, tl_4, tl_5, tl_6, tl_7, tl_8, tl_9, tl_10, tl_11, tl_12, tl_13, tl_20, tl_99] at h1 ⊢) <;> omega))) (by rw [mv_u14]) (by rw [cv_u14]) rfl) dX8_empty_13
set_option maxHeartbeats 4000000 in
set_option maxRecDepth 100000 in
theorem k_touch (l : Launch) (E : xE) (σ : Nat → Nat → Int32) (τ : Nat → Int64) (T : Nat) (hT : T < 1073741824) (y : Int32) (hI : Inv (cv σ) T) : xOi l yX7_touch cX7_touch 2 .int 3 64 E [.ref (xad E (0)), .int (y)] σ τ (cpost (sp_touch y (cv σ)) σ) := by
  refine xOi_of (own := RX7) (by decide +kernel) rfl (Nat.le_of_ble_eq_true rfl) ?_
  intro zp ze zs zm za zb zh zc C
  refine WM.to (lv1 := [(0, .ref (xad E (0))), (1, .int (y))]) (st1 := []) (σ1 := σ) (τ1 := τ) ?_ rfl rfl rfl rfl
  have hg : gI (σ 0) := hI.g
  have hgT : gT (σ 0) T := hI.t
  have h0 : 0 ≤ (σ 0 10).toInt := hI.h0
  refine x_iload_n C 1 dX7_touch_0 rfl rfl ?_
  refine x_callSi C (As := [.int (y)]) (rest := []) (c_isTouch l E σ τ y) ks_X7_97 ⟨Nat.le_of_ble_eq_true rfl, Nat.le_of_ble_eq_true rfl⟩ rfl rfl (Nat.le_of_ble_eq_true rfl) dX7_touch_1 ?_
  refine x_ifneB C (tgt := 14) dX7_touch_4 (by decide) (fun h1 => ?_) (fun h1 => ?_)
  · refine x_aload_n C 0 dX7_touch_14 rfl rfl ?_
    refine x_get C (Nat.le_of_ble_eq_true rfl) xd_0 fl_X7_12 (q := (0, 1, 0)) (v := .ref (xad E (1))) rfl rfl dX7_touch_15 ?_
    refine x_get C (Nat.le_of_ble_eq_true rfl) xd_1 fl_X7_68 (q := (0, 2, 0)) (v := .ref (xad E (2))) rfl rfl dX7_touch_18 ?_
    refine x_iload_n C 1 dX7_touch_21 rfl rfl ?_
    refine WM.to (σ1 := va_up σ 0 (σ 0)) ?_ (xself _ _).symm rfl rfl rfl
    refine x_callVv C (As := [.int (y)]) (rest := []) (cW_nudge l E σ τ 0 (by decide) (σ 0) y) kv_X7_100 (x_recv C (Nat.le_of_ble_eq_true rfl) xd_2 rfl) ⟨Nat.le_of_ble_eq_true rfl, Nat.le_of_ble_eq_true rfl⟩ rfl rfl (Nat.le_of_ble_eq_true rfl) dX7_touch_22 ?_
    refine x_aload_n C 0 dX7_touch_25 rfl rfl ?_
    refine x_get C (Nat.le_of_ble_eq_true rfl) xd_0 fl_X7_12 (q := (0, 1, 0)) (v := .ref (xad E (1))) rfl rfl dX7_touch_26 ?_
    refine x_get C (Nat.le_of_ble_eq_true rfl) xd_1 fl_X7_68 (q := (0, 2, 0)) (v := .ref (xad E (2))) rfl rfl dX7_touch_29 ?_
    refine x_get C (Nat.le_of_ble_eq_true rfl) xd_2 fl_X7_104 (q := (1, 0, 4)) (v := .int ((touchG (σ 0) y) 4)) rfl (congrArg Value.int (congrFun (va_up_self _ _ _) _)) dX7_touch_32 ?_
    exact x_oret C (cpost_of (V := va_up (cv σ) 0 (touchG (σ 0) y)) (if_pos (by first | assumption | ((try simp only [rng, mayQ, tI_lt, tI_eq, cvr_0, mvr_0, cvr_c, mvr_c, tl_0, tl_1, tl_2, tl_3, tl_4, tl_5, tl_6, tl_7, tl_8, tl_9, tl_10, tl_11, tl_12, tl_13, tl_99, tl_200, tn_200] at h1 ⊢) <;> omega))) (by rw [cv_v0]) (by rw [mv_v0]) rfl) dX7_touch_35
  · refine x_aload_n C 0 dX7_touch_7 rfl rfl ?_
    refine x_ldc C dX7_touch_8 kc_X7_63 ?_
    refine x_callVi C (As := [.int ((-1000001))]) (rest := []) (c_finding l E σ τ 0 (by decide) (-1000001) (by decide)) kv_X7_64 (x_recv C (Nat.le_of_ble_eq_true rfl) xd_0 rfl) ⟨Nat.le_of_ble_eq_true rfl, Nat.le_of_ble_eq_true rfl⟩ rfl rfl (Nat.le_of_ble_eq_true rfl) dX7_touch_10 ?_
    exact x_oret C (cpost_of (V := u2 (cv σ) 2 0 (σ 4 0 + 1)) (if_neg (by first | assumption | ((try simp only [rng, mayQ, tI_lt, tI_eq, cvr_0, mvr_0, cvr_c, mvr_c, tl_0, tl_1, tl_2, tl_3, tl_4, tl_5, tl_6, tl_7, tl_8, tl_9, tl_10, tl_11, tl_12, tl_13, tl_99, tl_200, tn_200] at h1 ⊢) <;> omega))) (by rw [cv_u4]) (by rw [mv_u4]) rfl) dX7_touch_13
set_option maxHeartbeats 4000000 in
set_option maxRecDepth 100000 in
theorem m_touch (l : Launch) (E : xE) (σ : Nat → Nat → Int32) (τ : Nat → Int64) (T : Nat) (hT : T < 1073741824) (y : Int32) (hI : Inv (mv σ) T) (hlv : ∀ j, j < 12 → σ 15 j = (xzl 1).getD j 0) : xOi l yX8_touch cX8_touch 2 .int 2 44 E [.ref (xad E (81)), .int (y)] σ τ (mpost (sp_touch y (mv σ)) σ) := by
  refine xOi_of (own := RX8) (by decide +kernel) rfl (Nat.le_of_ble_eq_true rfl) ?_
  intro zp ze zs zm za zb zh zc C
  refine WM.to (lv1 := [(0, .ref (xad E (81))), (1, .int (y))]) (st1 := []) (σ1 := σ) (τ1 := τ) ?_ rfl rfl rfl rfl
  have hg : gI (σ 10) := hI.g
  have hgT : gT (σ 10) T := hI.t
  have h0 : 0 ≤ (σ 10 10).toInt := hI.h0
  refine x_iload_n C 1 dX8_touch_0 rfl rfl ?_
  refine x_i2l C dX8_touch_1 ?_
  refine x_ldc2 C dX8_touch_2 kc_X8_90 ?_
  refine x_ldc2 C dX8_touch_5 kc_X8_92 ?_
  refine x_callSi C (As := [.long (Int32.toInt64 y), .long ((-200)), .long (200)]) (rest := []) (c_in l E σ τ (Int32.toInt64 y) (-200) 200) ks_X8_49 ⟨Nat.le_of_ble_eq_true rfl, Nat.le_of_ble_eq_true rfl⟩ rfl rfl (Nat.le_of_ble_eq_true rfl) dX8_touch_8 ?_
  refine WM.topi (y := if rng y (-200) 200 then 1 else 0) (in_eq y (-200) 200 (by decide) (by decide)) ?_
  refine x_ifneB C (tgt := 21) dX8_touch_11 (by decide) (fun h1 => ?_) (fun h1 => ?_)
  · have hy := rngI (a := -200) (b := 200) h1 (by decide) (by decide)
    refine x_aload_n C 0 dX8_touch_21 rfl rfl ?_
    refine x_get C (Nat.le_of_ble_eq_true rfl) xd_81 fl_X8_9 (q := (0, 82, 0)) (v := .ref (xad E (82))) rfl rfl dX8_touch_22 ?_
    refine x_iload_n C 1 dX8_touch_25 rfl rfl ?_
    refine WM.to (σ1 := va_up σ 10 (σ 10)) ?_ (xself _ _).symm rfl rfl rfl
    refine x_callSv C (As := [.ref (xad E (82)), .int (y)]) (rest := []) (cM_touches l E σ τ 10 (by decide) (σ 10) y hg hy) ks_X8_94 ⟨Nat.le_of_ble_eq_true rfl, Nat.le_of_ble_eq_true rfl⟩ rfl rfl (Nat.le_of_ble_eq_true rfl) dX8_touch_26 ?_
    refine x_aload_n C 0 dX8_touch_29 rfl rfl ?_
    refine x_get C (Nat.le_of_ble_eq_true rfl) xd_81 fl_X8_9 (q := (0, 82, 0)) (v := .ref (xad E (82))) rfl rfl dX8_touch_30 ?_
    refine x_iconst C (v := 4) dX8_touch_33 (by decide) ?_
    refine x_ald C (Nat.le_of_ble_eq_true rfl) xd_82 (v := (touchG (σ 10) y) 4) (vp_in_nI (show 4 < 284 by omega) (by decide)) (by rw [(show (4 : Int32).toNatClampNeg = 4 from by decide), Nat.zero_add, Nat.one_mul]; exact (congrFun (va_up_self _ _ _) _)) dX8_touch_34 ?_
    exact x_oret C (mpost_of (V := va_up (mv σ) 0 (touchG (σ 10) y)) (if_pos (by first | assumption | ((try simp only [rng, mayQ, tI_lt, tI_eq, cvr_0, mvr_0, cvr_c, mvr_c, tl_0, tl_1, tl_2, tl_3, tl_4, tl_5, tl_6, tl_7, tl_8, tl_9, tl_10, tl_11, tl_12, tl_13, tl_99, tl_200, tn_200] at h1 ⊢) <;> omega))) (by rw [mv_v10]) (by rw [cv_v10]) rfl) dX8_touch_35
  · refine x_aload_n C 0 dX8_touch_14 rfl rfl ?_
    refine x_ldc C dX8_touch_15 kc_X8_46 ?_
    refine x_callVi C (As := [.int ((-1000001))]) (rest := []) (c_finds l E σ τ 0 (by decide) (-1000001) (by decide)) kv_X8_61 (x_recv C (Nat.le_of_ble_eq_true rfl) xd_81 rfl) ⟨Nat.le_of_ble_eq_true rfl, Nat.le_of_ble_eq_true rfl⟩ rfl rfl (Nat.le_of_ble_eq_true rfl) dX8_touch_17 ?_
    exact x_oret C (mpost_of (V := u2 (mv σ) 2 0 (σ 14 0 + 1)) (if_neg (by first | assumption | ((try simp only [rng, mayQ, tI_lt, tI_eq, cvr_0, mvr_0, cvr_c, mvr_c, tl_0, tl_1, tl_2, tl_3, tl_4, tl_5, tl_6, tl_7, tl_8, tl_9, tl_10, tl_11, tl_12, tl_13, tl_99, tl_200, tn_200] at h1 ⊢) <;> omega))) (by rw [mv_u14]) (by rw [cv_u14]) rfl) dX8_touch_20
set_option maxHeartbeats 4000000 in
set_option maxRecDepth 100000 in
theorem k_stop (l : Launch) (E : xE) (σ : Nat → Nat → Int32) (τ : Nat → Int64) (T : Nat) (hT : T < 1073741824) (a : Int32) (hI : Inv (cv σ) T) : xOi l yX7_stop cX7_stop 3 .int 2 44 E [.ref (xad E (0)), .int (a)] σ τ (cpost (sp_stop a (cv σ)) σ) := by
  refine xOi_of (own := RX7) (by decide +kernel) rfl (Nat.le_of_ble_eq_true rfl) ?_
  intro zp ze zs zm za zb zh zc C
  refine WM.to (lv1 := [(0, .ref (xad E (0))), (1, .int (a))]) (st1 := []) (σ1 := σ) (τ1 := τ) ?_ rfl rfl rfl rfl
  have hg : gI (σ 0) := hI.g
  have hgT : gT (σ 0) T := hI.t
  have h0 : 0 ≤ (σ 0 10).toInt := hI.h0
  refine x_iload_n C 1 dX7_stop_0 rfl rfl ?_
  refine x_iconst C (v := 0) dX7_stop_1 (by decide) ?_
  refine x_sipush C (v := 1199) dX7_stop_2 (by decide) ?_
  refine x_callSi C (As := [.int (a), .int (0), .int (1199)]) (rest := []) (c_within l E σ τ a 0 1199) ks_X7_59 ⟨Nat.le_of_ble_eq_true rfl, Nat.le_of_ble_eq_true rfl⟩ rfl rfl (Nat.le_of_ble_eq_true rfl) dX7_stop_5 ?_
  refine x_ifneB C (tgt := 18) dX7_stop_8 (by decide) (fun h1 => ?_) (fun h1 => ?_)
  · refine x_aload_n C 0 dX7_stop_18 rfl rfl ?_
    refine x_get C (Nat.le_of_ble_eq_true rfl) xd_0 fl_X7_12 (q := (0, 1, 0)) (v := .ref (xad E (1))) rfl rfl dX7_stop_19 ?_
    refine x_get C (Nat.le_of_ble_eq_true rfl) xd_1 fl_X7_68 (q := (0, 2, 0)) (v := .ref (xad E (2))) rfl rfl dX7_stop_22 ?_
    refine x_get C (Nat.le_of_ble_eq_true rfl) xd_2 fl_X7_104 (q := (1, 0, 4)) (v := .int (σ 0 4)) rfl rfl dX7_stop_25 ?_
    refine x_istore_n C (lv1 := [(2, .int (σ 0 4)), (0, .ref (xad E (0))), (1, .int (a))]) dX7_stop_28 rfl (by decide) rfl ?_
    refine x_aload_n C 1 dX7_stop_29 rfl rfl ?_
    refine x_get C (Nat.le_of_ble_eq_true rfl) xd_0 fl_X7_12 (q := (0, 1, 0)) (v := .ref (xad E (1))) rfl rfl dX7_stop_30 ?_
    refine x_get C (Nat.le_of_ble_eq_true rfl) xd_1 fl_X7_68 (q := (0, 2, 0)) (v := .ref (xad E (2))) rfl rfl dX7_stop_33 ?_
    refine x_iconst C (v := 0) dX7_stop_36 (by decide) ?_
    refine x_put C (σ' := u2 σ 0 4 (0)) (Nat.le_of_ble_eq_true rfl) xd_2 fp_X7_104 rfl rfl rfl rfl dX7_stop_37 ?_
    refine x_aload_n C 1 dX7_stop_40 rfl rfl ?_
    refine x_get C (Nat.le_of_ble_eq_true rfl) xd_0 fl_X7_12 (q := (0, 1, 0)) (v := .ref (xad E (1))) rfl rfl dX7_stop_41 ?_
    refine x_get C (Nat.le_of_ble_eq_true rfl) xd_1 fl_X7_68 (q := (0, 2, 0)) (v := .ref (xad E (2))) rfl rfl dX7_stop_44 ?_
    refine x_iload_n C 2 dX7_stop_47 rfl rfl ?_
    refine x_put C (σ' := u2 (u2 σ 0 4 (0)) 0 5 (a)) (Nat.le_of_ble_eq_true rfl) xd_2 fp_X7_108 rfl rfl rfl rfl dX7_stop_48 ?_
    refine x_iload_n C 0 dX7_stop_51 rfl rfl ?_
    exact x_oret C (cpost_of (V := u2 (u2 (cv σ) 0 4 (0)) 0 5 (a)) (if_pos (by first | assumption | ((try simp only [rng, mayQ, tI_lt, tI_eq, cvr_0, mvr_0, cvr_c, mvr_c, tl_0, tl_1, tl_2, tl_3, tl_4, tl_5, tl_6, tl_7, tl_8, tl_9, tl_10, tl_11, tl_12, tl_13, tl_99, tl_1199] at h1 ⊢) <;> omega))) (by rw [cv_u0, cv_u0]) (by rw [mv_u0, mv_u0]) rfl) dX7_stop_52
  · refine x_aload_n C 0 dX7_stop_11 rfl rfl ?_
    refine x_ldc C dX7_stop_12 kc_X7_63 ?_
    refine x_callVi C (As := [.int ((-1000001))]) (rest := []) (c_finding l E σ τ 0 (by decide) (-1000001) (by decide)) kv_X7_64 (x_recv C (Nat.le_of_ble_eq_true rfl) xd_0 rfl) ⟨Nat.le_of_ble_eq_true rfl, Nat.le_of_ble_eq_true rfl⟩ rfl rfl (Nat.le_of_ble_eq_true rfl) dX7_stop_14 ?_
    exact x_oret C (cpost_of (V := u2 (cv σ) 2 0 (σ 4 0 + 1)) (if_neg (by first | assumption | ((try simp only [rng, mayQ, tI_lt, tI_eq, cvr_0, mvr_0, cvr_c, mvr_c, tl_0, tl_1, tl_2, tl_3, tl_4, tl_5, tl_6, tl_7, tl_8, tl_9, tl_10, tl_11, tl_12, tl_13, tl_99, tl_1199] at h1 ⊢) <;> omega))) (by rw [cv_u4]) (by rw [mv_u4]) rfl) dX7_stop_17
set_option maxHeartbeats 4000000 in
set_option maxRecDepth 100000 in
theorem m_stop (l : Launch) (E : xE) (σ : Nat → Nat → Int32) (τ : Nat → Int64) (T : Nat) (hT : T < 1073741824) (a : Int32) (hI : Inv (mv σ) T) (hlv : ∀ j, j < 12 → σ 15 j = (xzl 1).getD j 0) : xOi l yX8_stop cX8_stop 3 .int 1 25 E [.ref (xad E (81)), .int (a)] σ τ (mpost (sp_stop a (mv σ)) σ) := by
  refine xOi_of (own := RX8) (by decide +kernel) rfl (Nat.le_of_ble_eq_true rfl) ?_
  intro zp ze zs zm za zb zh zc C
  refine WM.to (lv1 := [(0, .ref (xad E (81))), (1, .int (a))]) (st1 := []) (σ1 := σ) (τ1 := τ) ?_ rfl rfl rfl rfl
  have hg : gI (σ 10) := hI.g
  have hgT : gT (σ 10) T := hI.t
  have h0 : 0 ≤ (σ 10 10).toInt := hI.h0
  refine x_iload_n C 1 dX8_stop_0 rfl rfl ?_
  refine x_i2l C dX8_stop_1 ?_
  refine x_lconst C (v := 0) dX8_stop_2 (by decide) ?_
  refine x_ldc2 C dX8_stop_3 kc_X8_98 ?_
  refine x_callSi C (As := [.long (Int32.toInt64 a), .long (0), .long (1199)]) (rest := []) (c_in l E σ τ (Int32.toInt64 a) 0 1199) ks_X8_49 ⟨Nat.le_of_ble_eq_true rfl, Nat.le_of_ble_eq_true rfl⟩ rfl rfl (Nat.le_of_ble_eq_true rfl) dX8_stop_6 ?_
  refine WM.topi (y := if rng a 0 1199 then 1 else 0) (in_eq a 0 1199 (by decide) (by decide)) ?_
  refine x_ifneB C (tgt := 19) dX8_stop_9 (by decide) (fun h1 => ?_) (fun h1 => ?_)
  · refine x_aload_n C 0 dX8_stop_19 rfl rfl ?_
    refine x_get C (Nat.le_of_ble_eq_true rfl) xd_81 fl_X8_9 (q := (0, 82, 0)) (v := .ref (xad E (82))) rfl rfl dX8_stop_20 ?_
    refine x_iconst C (v := 4) dX8_stop_23 (by decide) ?_
    refine x_ald C (Nat.le_of_ble_eq_true rfl) xd_82 (v := σ 10 4) (vp_in_nI (show 4 < 284 by omega) (by decide)) (by rw [(show (4 : Int32).toNatClampNeg = 4 from by decide), Nat.zero_add, Nat.one_mul]) dX8_stop_24 ?_
    refine x_istore_n C (lv1 := [(2, .int (σ 10 4)), (0, .ref (xad E (81))), (1, .int (a))]) dX8_stop_25 rfl (by decide) rfl ?_
    refine x_aload_n C 1 dX8_stop_26 rfl rfl ?_
    refine x_get C (Nat.le_of_ble_eq_true rfl) xd_81 fl_X8_9 (q := (0, 82, 0)) (v := .ref (xad E (82))) rfl rfl dX8_stop_27 ?_
    refine x_iconst C (v := 4) dX8_stop_30 (by decide) ?_
    refine x_iconst C (v := 0) dX8_stop_31 (by decide) ?_
    refine x_ast C (σ' := u2 σ 10 4 (0)) (Nat.le_of_ble_eq_true rfl) xd_82 (by decide) (vp_in_nI (show 4 < 284 by omega) (by decide)) (by rw [(show (4 : Int32).toNatClampNeg = 4 from by decide), Nat.zero_add, Nat.one_mul]) dX8_stop_32 ?_
    refine x_aload_n C 1 dX8_stop_33 rfl rfl ?_
    refine x_get C (Nat.le_of_ble_eq_true rfl) xd_81 fl_X8_9 (q := (0, 82, 0)) (v := .ref (xad E (82))) rfl rfl dX8_stop_34 ?_
    refine x_iconst C (v := 5) dX8_stop_37 (by decide) ?_
    refine x_iload_n C 2 dX8_stop_38 rfl rfl ?_
    refine x_ast C (σ' := u2 (u2 σ 10 4 (0)) 10 5 (a)) (Nat.le_of_ble_eq_true rfl) xd_82 (by decide) (vp_in_nI (show 5 < 284 by omega) (by decide)) (by rw [(show (5 : Int32).toNatClampNeg = 5 from by decide), Nat.zero_add, Nat.one_mul]) dX8_stop_39 ?_
    refine x_iload_n C 0 dX8_stop_40 rfl rfl ?_
    exact x_oret C (mpost_of (V := u2 (u2 (mv σ) 0 4 (0)) 0 5 (a)) (if_pos (by first | assumption | ((try simp only [rng, mayQ, tI_lt, tI_eq, cvr_0, mvr_0, cvr_c, mvr_c, tl_0, tl_1, tl_2, tl_3, tl_4, tl_5, tl_6, tl_7, tl_8, tl_9, tl_10, tl_11, tl_12, tl_13, tl_99, tl_1199] at h1 ⊢) <;> omega))) (by rw [mv_u10, mv_u10]) (by rw [cv_u10, cv_u10]) rfl) dX8_stop_41
  · refine x_aload_n C 0 dX8_stop_12 rfl rfl ?_
    refine x_ldc C dX8_stop_13 kc_X8_46 ?_
    refine x_callVi C (As := [.int ((-1000001))]) (rest := []) (c_finds l E σ τ 0 (by decide) (-1000001) (by decide)) kv_X8_61 (x_recv C (Nat.le_of_ble_eq_true rfl) xd_81 rfl) ⟨Nat.le_of_ble_eq_true rfl, Nat.le_of_ble_eq_true rfl⟩ rfl rfl (Nat.le_of_ble_eq_true rfl) dX8_stop_15 ?_
    exact x_oret C (mpost_of (V := u2 (mv σ) 2 0 (σ 14 0 + 1)) (if_neg (by first | assumption | ((try simp only [rng, mayQ, tI_lt, tI_eq, cvr_0, mvr_0, cvr_c, mvr_c, tl_0, tl_1, tl_2, tl_3, tl_4, tl_5, tl_6, tl_7, tl_8, tl_9, tl_10, tl_11, tl_12, tl_13, tl_99, tl_1199] at h1 ⊢) <;> omega))) (by rw [mv_u14]) (by rw [cv_u14]) rfl) dX8_stop_18
set_option maxHeartbeats 4000000 in
set_option maxRecDepth 100000 in
theorem k_tick (l : Launch) (E : xE) (σ : Nat → Nat → Int32) (τ : Nat → Int64) (T : Nat) (hT : T < 1073741824) (n : Int32) (hI : Inv (cv σ) T) : xOi l yX7_tick cX7_tick 2 .int 5 112 E [.ref (xad E (0)), .int (n)] σ τ (cpost (sp_tick n (cv σ)) σ) := by
  refine xOi_of (own := RX7) (by decide +kernel) rfl (Nat.le_of_ble_eq_true rfl) ?_
  intro zp ze zs zm za zb zh zc C
  refine WM.to (lv1 := [(0, .ref (xad E (0))), (1, .int (n))]) (st1 := []) (σ1 := σ) (τ1 := τ) ?_ rfl rfl rfl rfl
  have hg : gI (σ 0) := hI.g
  have hgT : gT (σ 0) T := hI.t
  have h0 : 0 ≤ (σ 0 10).toInt := hI.h0
  refine x_iload_n C 1 dX7_tick_0 rfl rfl ?_
  refine x_iconst C (v := 1) dX7_tick_1 (by decide) ?_
  refine x_bipush C (v := 100) dX7_tick_2 (by decide) ?_
  refine x_callSi C (As := [.int (n), .int (1), .int (100)]) (rest := []) (c_within l E σ τ n 1 100) ks_X7_59 ⟨Nat.le_of_ble_eq_true rfl, Nat.le_of_ble_eq_true rfl⟩ rfl rfl (Nat.le_of_ble_eq_true rfl) dX7_tick_4 ?_
  refine x_ifneB C (tgt := 17) dX7_tick_7 (by decide) (fun h1 => ?_) (fun h1 => ?_)
  · obtain ⟨q, hqa, hqb, rfl⟩ := rngN (a := 1) (b := 100) h1 (by decide) (by decide) (by decide)
    refine x_aload_n C 0 dX7_tick_17 rfl rfl ?_
    refine x_get C (Nat.le_of_ble_eq_true rfl) xd_0 fl_X7_12 (q := (0, 1, 0)) (v := .ref (xad E (1))) rfl rfl dX7_tick_18 ?_
    refine x_get C (Nat.le_of_ble_eq_true rfl) xd_1 fl_X7_68 (q := (0, 2, 0)) (v := .ref (xad E (2))) rfl rfl dX7_tick_21 ?_
    refine x_iload_n C 1 dX7_tick_24 rfl rfl ?_
    refine WM.to (σ1 := va_up σ 0 (σ 0)) ?_ (xself _ _).symm rfl rfl rfl
    refine x_callVv C (As := [.int (nI q)]) (rest := []) (cW_steps l E σ τ 0 (by decide) (σ 0) q T (by omega) hg hgT (by omega)) kv_X7_111 (x_recv C (Nat.le_of_ble_eq_true rfl) xd_2 rfl) ⟨Nat.le_of_ble_eq_true rfl, Nat.le_of_ble_eq_true rfl⟩ rfl rfl (Nat.le_of_ble_eq_true rfl) dX7_tick_25 ?_
    refine x_aload_n C 0 dX7_tick_28 rfl rfl ?_
    refine x_get C (Nat.le_of_ble_eq_true rfl) xd_0 fl_X7_12 (q := (0, 1, 0)) (v := .ref (xad E (1))) rfl rfl dX7_tick_29 ?_
    refine x_get C (Nat.le_of_ble_eq_true rfl) xd_1 fl_X7_68 (q := (0, 2, 0)) (v := .ref (xad E (2))) rfl rfl dX7_tick_32 ?_
    refine x_get C (Nat.le_of_ble_eq_true rfl) xd_2 fl_X7_104 (q := (1, 0, 4)) (v := .int ((stepsG (σ 0) q) 4)) rfl (congrArg Value.int (congrFun (va_up_self _ _ _) _)) dX7_tick_35 ?_
    exact x_oret C (cpost_of (V := va_up (cv σ) 0 (stepsG (σ 0) q)) (Eq.trans (if_pos (by first | assumption | ((try simp only [rng, mayQ, tI_lt, tI_eq, cvr_0, mvr_0, cvr_c, mvr_c, tl_0, tl_1, tl_2, tl_3, tl_4, tl_5, tl_6, tl_7, tl_8, tl_9, tl_10, tl_11, tl_12, tl_13, tl_99, tl_100] at h1 ⊢) <;> omega))) (congrArg (fun z => tickS z (cv σ)) (nI_clamp (by omega)))) (by rw [cv_v0]) (by rw [mv_v0]) rfl) dX7_tick_38
  · refine x_aload_n C 0 dX7_tick_10 rfl rfl ?_
    refine x_ldc C dX7_tick_11 kc_X7_63 ?_
    refine x_callVi C (As := [.int ((-1000001))]) (rest := []) (c_finding l E σ τ 0 (by decide) (-1000001) (by decide)) kv_X7_64 (x_recv C (Nat.le_of_ble_eq_true rfl) xd_0 rfl) ⟨Nat.le_of_ble_eq_true rfl, Nat.le_of_ble_eq_true rfl⟩ rfl rfl (Nat.le_of_ble_eq_true rfl) dX7_tick_13 ?_
    exact x_oret C (cpost_of (V := u2 (cv σ) 2 0 (σ 4 0 + 1)) (if_neg (by first | assumption | ((try simp only [rng, mayQ, tI_lt, tI_eq, cvr_0, mvr_0, cvr_c, mvr_c, tl_0, tl_1, tl_2, tl_3, tl_4, tl_5, tl_6, tl_7, tl_8, tl_9, tl_10, tl_11, tl_12, tl_13, tl_99, tl_100] at h1 ⊢) <;> omega))) (by rw [cv_u4]) (by rw [mv_u4]) rfl) dX7_tick_16
set_option maxHeartbeats 4000000 in
set_option maxRecDepth 100000 in
theorem m_tick (l : Launch) (E : xE) (σ : Nat → Nat → Int32) (τ : Nat → Int64) (T : Nat) (hT : T < 1073741824) (n : Int32) (hI : Inv (mv σ) T) (hlv : ∀ j, j < 12 → σ 15 j = (xzl 1).getD j 0) : xOi l yX8_tick cX8_tick 2 .int 4 92 E [.ref (xad E (81)), .int (n)] σ τ (mpost (sp_tick n (mv σ)) σ) := by
  refine xOi_of (own := RX8) (by decide +kernel) rfl (Nat.le_of_ble_eq_true rfl) ?_
  intro zp ze zs zm za zb zh zc C
  refine WM.to (lv1 := [(0, .ref (xad E (81))), (1, .int (n))]) (st1 := []) (σ1 := σ) (τ1 := τ) ?_ rfl rfl rfl rfl
  have hg : gI (σ 10) := hI.g
  have hgT : gT (σ 10) T := hI.t
  have h0 : 0 ≤ (σ 10 10).toInt := hI.h0
  refine x_iload_n C 1 dX8_tick_0 rfl rfl ?_
  refine x_i2l C dX8_tick_1 ?_
  refine x_lconst C (v := 1) dX8_tick_2 (by decide) ?_
  refine x_ldc2 C dX8_tick_3 kc_X8_111 ?_
  refine x_callSi C (As := [.long (Int32.toInt64 n), .long (1), .long (100)]) (rest := []) (c_in l E σ τ (Int32.toInt64 n) 1 100) ks_X8_49 ⟨Nat.le_of_ble_eq_true rfl, Nat.le_of_ble_eq_true rfl⟩ rfl rfl (Nat.le_of_ble_eq_true rfl) dX8_tick_6 ?_
  refine WM.topi (y := if rng n 1 100 then 1 else 0) (in_eq n 1 100 (by decide) (by decide)) ?_
  refine x_ifneB C (tgt := 19) dX8_tick_9 (by decide) (fun h1 => ?_) (fun h1 => ?_)
  · obtain ⟨q, hqa, hqb, rfl⟩ := rngN (a := 1) (b := 100) h1 (by decide) (by decide) (by decide)
    refine x_aload_n C 0 dX8_tick_19 rfl rfl ?_
    refine x_aload_n C 0 dX8_tick_20 rfl rfl ?_
    refine x_get C (Nat.le_of_ble_eq_true rfl) xd_81 fl_X8_9 (q := (0, 82, 0)) (v := .ref (xad E (82))) rfl rfl dX8_tick_21 ?_
    refine x_iload_n C 1 dX8_tick_24 rfl rfl ?_
    refine WM.to (σ1 := va_up σ 10 (σ 10)) ?_ (xself _ _).symm rfl rfl rfl
    refine x_callVv C (As := [.ref (xad E (82)), .int (nI q)]) (rest := []) (cM_goesOn l E σ τ 10 (by decide) (σ 10) q T (by omega) hg hgT (by omega) hlv) kv_X8_113 (x_recv C (Nat.le_of_ble_eq_true rfl) xd_81 rfl) ⟨Nat.le_of_ble_eq_true rfl, Nat.le_of_ble_eq_true rfl⟩ rfl rfl (Nat.le_of_ble_eq_true rfl) dX8_tick_25 ?_
    refine x_aload_n C 0 dX8_tick_28 rfl rfl ?_
    refine x_get C (Nat.le_of_ble_eq_true rfl) xd_81 fl_X8_9 (q := (0, 82, 0)) (v := .ref (xad E (82))) rfl rfl dX8_tick_29 ?_
    refine x_iconst C (v := 4) dX8_tick_32 (by decide) ?_
    refine x_ald C (Nat.le_of_ble_eq_true rfl) xd_82 (v := (stepsG (σ 10) q) 4) (vp_in_nI (show 4 < 284 by omega) (by decide)) (by rw [(show (4 : Int32).toNatClampNeg = 4 from by decide), Nat.zero_add, Nat.one_mul]; exact (congrFun (va_up_self _ _ _) _)) dX8_tick_33 ?_
    exact x_oret C (mpost_of (V := va_up (mv σ) 0 (stepsG (σ 10) q)) (Eq.trans (if_pos (by first | assumption | ((try simp only [rng, mayQ, tI_lt, tI_eq, cvr_0, mvr_0, cvr_c, mvr_c, tl_0, tl_1, tl_2, tl_3, tl_4, tl_5, tl_6, tl_7, tl_8, tl_9, tl_10, tl_11, tl_12, tl_13, tl_99, tl_100] at h1 ⊢) <;> omega))) (congrArg (fun z => tickS z (mv σ)) (nI_clamp (by omega)))) (by rw [mv_v10]) (by rw [cv_v10]) rfl) dX8_tick_34
  · refine x_aload_n C 0 dX8_tick_12 rfl rfl ?_
    refine x_ldc C dX8_tick_13 kc_X8_46 ?_
    refine x_callVi C (As := [.int ((-1000001))]) (rest := []) (c_finds l E σ τ 0 (by decide) (-1000001) (by decide)) kv_X8_61 (x_recv C (Nat.le_of_ble_eq_true rfl) xd_81 rfl) ⟨Nat.le_of_ble_eq_true rfl, Nat.le_of_ble_eq_true rfl⟩ rfl rfl (Nat.le_of_ble_eq_true rfl) dX8_tick_15 ?_
    exact x_oret C (mpost_of (V := u2 (mv σ) 2 0 (σ 14 0 + 1)) (if_neg (by first | assumption | ((try simp only [rng, mayQ, tI_lt, tI_eq, cvr_0, mvr_0, cvr_c, mvr_c, tl_0, tl_1, tl_2, tl_3, tl_4, tl_5, tl_6, tl_7, tl_8, tl_9, tl_10, tl_11, tl_12, tl_13, tl_99, tl_100] at h1 ⊢) <;> omega))) (by rw [mv_u14]) (by rw [cv_u14]) rfl) dX8_tick_18
set_option maxHeartbeats 4000000 in
set_option maxRecDepth 100000 in
theorem k_now (l : Launch) (E : xE) (σ : Nat → Nat → Int32) (τ : Nat → Int64) (T : Nat) (hT : T < 1073741824) (what : Int32) (hI : Inv (cv σ) T) : xOi l yX7_now cX7_now 3 .int 2 44 E [.ref (xad E (0)), .int (what)] σ τ (cpost (sp_now what (cv σ)) σ) := by
  refine xOi_of (own := RX7) (by decide +kernel) rfl (Nat.le_of_ble_eq_true rfl) ?_
  intro zp ze zs zm za zb zh zc C
  refine WM.to (lv1 := [(0, .ref (xad E (0))), (1, .int (what))]) (st1 := []) (σ1 := σ) (τ1 := τ) ?_ rfl rfl rfl rfl
  have hg : gI (σ 0) := hI.g
  have hgT : gT (σ 0) T := hI.t
  have h0 : 0 ≤ (σ 0 10).toInt := hI.h0
  refine x_aload_n C 0 dX7_now_0 rfl rfl ?_
  refine x_get C (Nat.le_of_ble_eq_true rfl) xd_0 fl_X7_12 (q := (0, 1, 0)) (v := .ref (xad E (1))) rfl rfl dX7_now_1 ?_
  refine x_get C (Nat.le_of_ble_eq_true rfl) xd_1 fl_X7_68 (q := (0, 2, 0)) (v := .ref (xad E (2))) rfl rfl dX7_now_4 ?_
  refine x_astore_n C (lv1 := [(2, .ref (xad E (2))), (0, .ref (xad E (0))), (1, .int (what))]) dX7_now_7 rfl (by decide) rfl ?_
  refine x_iload_n C 2 dX7_now_8 rfl rfl ?_
  by_cases t1 : what = 0
  · refine WM.topi (y := 0) t1 ?_
    refine x_tableIn C (tgt := 56) dX7_now_9 (by decide) (by decide) rfl (by decide) ?_
    refine x_aload_n C 0 dX7_now_56 rfl rfl ?_
    refine x_get C (Nat.le_of_ble_eq_true rfl) xd_2 fl_X7_104 (q := (1, 0, 4)) (v := .int (σ 0 4)) rfl rfl dX7_now_57 ?_
    exact x_oret C (cpost_of (V := cv σ) (Eq.trans (if_pos (by first | assumption | ((try simp only [rng, mayQ, tI_lt, tI_eq, cvr_0, mvr_0, cvr_c, mvr_c, tl_0, tl_1, tl_2, tl_3, tl_4, tl_5, tl_6, tl_7, tl_8, tl_9, tl_10, tl_11, tl_12, tl_13, tl_99] at t1 ⊢) <;> omega))) (congrArg (fun z => (z, cv σ)) (show nowS what (σ 0) = σ 0 4 from by simp [nowS, t1]))) rfl rfl rfl) dX7_now_60
  · by_cases t2 : what = 1
    · refine WM.topi (y := 1) t2 ?_
      refine x_tableIn C (tgt := 61) dX7_now_9 (by decide) (by decide) rfl (by decide) ?_
      refine x_aload_n C 0 dX7_now_61 rfl rfl ?_
      refine x_get C (Nat.le_of_ble_eq_true rfl) xd_2 fl_X7_108 (q := (1, 0, 5)) (v := .int (σ 0 5)) rfl rfl dX7_now_62 ?_
      exact x_oret C (cpost_of (V := cv σ) (Eq.trans (if_pos (by first | assumption | ((try simp only [rng, mayQ, tI_lt, tI_eq, cvr_0, mvr_0, cvr_c, mvr_c, tl_0, tl_1, tl_2, tl_3, tl_4, tl_5, tl_6, tl_7, tl_8, tl_9, tl_10, tl_11, tl_12, tl_13, tl_99] at t1 t2 ⊢) <;> omega))) (congrArg (fun z => (z, cv σ)) (show nowS what (σ 0) = σ 0 5 from by simp [nowS, t1, t2]))) rfl rfl rfl) dX7_now_65
    · by_cases t3 : what = 2
      · refine WM.topi (y := 2) t3 ?_
        refine x_tableIn C (tgt := 66) dX7_now_9 (by decide) (by decide) rfl (by decide) ?_
        refine x_aload_n C 0 dX7_now_66 rfl rfl ?_
        refine x_get C (Nat.le_of_ble_eq_true rfl) xd_2 fl_X7_114 (q := (1, 0, 6)) (v := .int (σ 0 6)) rfl rfl dX7_now_67 ?_
        exact x_oret C (cpost_of (V := cv σ) (Eq.trans (if_pos (by first | assumption | ((try simp only [rng, mayQ, tI_lt, tI_eq, cvr_0, mvr_0, cvr_c, mvr_c, tl_0, tl_1, tl_2, tl_3, tl_4, tl_5, tl_6, tl_7, tl_8, tl_9, tl_10, tl_11, tl_12, tl_13, tl_99] at t1 t2 t3 ⊢) <;> omega))) (congrArg (fun z => (z, cv σ)) (show nowS what (σ 0) = σ 0 6 from by simp [nowS, t1, t2, t3]))) rfl rfl rfl) dX7_now_70
      · by_cases t4 : what = 3
        · refine WM.topi (y := 3) t4 ?_
          refine x_tableIn C (tgt := 71) dX7_now_9 (by decide) (by decide) rfl (by decide) ?_
          refine x_aload_n C 0 dX7_now_71 rfl rfl ?_
          refine WM.to (σ1 := va_up σ 0 (σ 0)) ?_ (xself _ _).symm rfl rfl rfl
          refine x_callVi C (As := []) (rest := []) (cW_waterOfAll l E σ τ 0 (by decide) (σ 0)) kv_X7_117 (x_recv C (Nat.le_of_ble_eq_true rfl) xd_2 rfl) ⟨Nat.le_of_ble_eq_true rfl, Nat.le_of_ble_eq_true rfl⟩ rfl rfl (Nat.le_of_ble_eq_true rfl) dX7_now_72 ?_
          refine WM.to (σ1 := σ) ?_ (xself _ _) rfl rfl rfl
          exact x_oret C (cpost_of (V := cv σ) (Eq.trans (if_pos (by first | assumption | ((try simp only [rng, mayQ, tI_lt, tI_eq, cvr_0, mvr_0, cvr_c, mvr_c, tl_0, tl_1, tl_2, tl_3, tl_4, tl_5, tl_6, tl_7, tl_8, tl_9, tl_10, tl_11, tl_12, tl_13, tl_99] at t1 t2 t3 t4 ⊢) <;> omega))) (congrArg (fun z => (z, cv σ)) (show nowS what (σ 0) = waterN (σ 0) 12 from by simp [nowS, t1, t2, t3, t4]))) rfl rfl rfl) dX7_now_75
        · by_cases t5 : what = 4
          · refine WM.topi (y := 4) t5 ?_
            refine x_tableIn C (tgt := 76) dX7_now_9 (by decide) (by decide) rfl (by decide) ?_
            refine x_aload_n C 0 dX7_now_76 rfl rfl ?_
            refine x_get C (Nat.le_of_ble_eq_true rfl) xd_2 fl_X7_121 (q := (1, 0, 7)) (v := .int (σ 0 7)) rfl rfl dX7_now_77 ?_
            exact x_oret C (cpost_of (V := cv σ) (Eq.trans (if_pos (by first | assumption | ((try simp only [rng, mayQ, tI_lt, tI_eq, cvr_0, mvr_0, cvr_c, mvr_c, tl_0, tl_1, tl_2, tl_3, tl_4, tl_5, tl_6, tl_7, tl_8, tl_9, tl_10, tl_11, tl_12, tl_13, tl_99] at t1 t2 t3 t4 t5 ⊢) <;> omega))) (congrArg (fun z => (z, cv σ)) (show nowS what (σ 0) = σ 0 7 from by simp [nowS, t1, t2, t3, t4, t5]))) rfl rfl rfl) dX7_now_80
          · by_cases t6 : what = 5
            · refine WM.topi (y := 5) t6 ?_
              refine x_tableIn C (tgt := 81) dX7_now_9 (by decide) (by decide) rfl (by decide) ?_
              refine x_aload_n C 0 dX7_now_81 rfl rfl ?_
              refine x_get C (Nat.le_of_ble_eq_true rfl) xd_2 fl_X7_124 (q := (1, 0, 8)) (v := .int (σ 0 8)) rfl rfl dX7_now_82 ?_
              exact x_oret C (cpost_of (V := cv σ) (Eq.trans (if_pos (by first | assumption | ((try simp only [rng, mayQ, tI_lt, tI_eq, cvr_0, mvr_0, cvr_c, mvr_c, tl_0, tl_1, tl_2, tl_3, tl_4, tl_5, tl_6, tl_7, tl_8, tl_9, tl_10, tl_11, tl_12, tl_13, tl_99] at t1 t2 t3 t4 t5 t6 ⊢) <;> omega))) (congrArg (fun z => (z, cv σ)) (show nowS what (σ 0) = σ 0 8 from by simp [nowS, t1, t2, t3, t4, t5, t6]))) rfl rfl rfl) dX7_now_85
            · by_cases t7 : what = 6
              · refine WM.topi (y := 6) t7 ?_
                refine x_tableIn C (tgt := 86) dX7_now_9 (by decide) (by decide) rfl (by decide) ?_
                refine x_aload_n C 0 dX7_now_86 rfl rfl ?_
                refine x_get C (Nat.le_of_ble_eq_true rfl) xd_2 fl_X7_127 (q := (1, 0, 9)) (v := .int (σ 0 9)) rfl rfl dX7_now_87 ?_
                exact x_oret C (cpost_of (V := cv σ) (Eq.trans (if_pos (by first | assumption | ((try simp only [rng, mayQ, tI_lt, tI_eq, cvr_0, mvr_0, cvr_c, mvr_c, tl_0, tl_1, tl_2, tl_3, tl_4, tl_5, tl_6, tl_7, tl_8, tl_9, tl_10, tl_11, tl_12, tl_13, tl_99] at t1 t2 t3 t4 t5 t6 t7 ⊢) <;> omega))) (congrArg (fun z => (z, cv σ)) (show nowS what (σ 0) = σ 0 9 from by simp [nowS, t1, t2, t3, t4, t5, t6, t7]))) rfl rfl rfl) dX7_now_90
              · by_cases t8 : what = 7
                · refine WM.topi (y := 7) t8 ?_
                  refine x_tableIn C (tgt := 91) dX7_now_9 (by decide) (by decide) rfl (by decide) ?_
                  refine x_aload_n C 0 dX7_now_91 rfl rfl ?_
                  refine WM.to (σ1 := va_up σ 0 (σ 0)) ?_ (xself _ _).symm rfl rfl rfl
                  refine x_callVi C (As := []) (rest := []) (cW_topCup l E σ τ 0 (by decide) (σ 0)) kv_X7_130 (x_recv C (Nat.le_of_ble_eq_true rfl) xd_2 rfl) ⟨Nat.le_of_ble_eq_true rfl, Nat.le_of_ble_eq_true rfl⟩ rfl rfl (Nat.le_of_ble_eq_true rfl) dX7_now_92 ?_
                  refine WM.to (σ1 := σ) ?_ (xself _ _) rfl rfl rfl
                  exact x_oret C (cpost_of (V := cv σ) (Eq.trans (if_pos (by first | assumption | ((try simp only [rng, mayQ, tI_lt, tI_eq, cvr_0, mvr_0, cvr_c, mvr_c, tl_0, tl_1, tl_2, tl_3, tl_4, tl_5, tl_6, tl_7, tl_8, tl_9, tl_10, tl_11, tl_12, tl_13, tl_99] at t1 t2 t3 t4 t5 t6 t7 t8 ⊢) <;> omega))) (congrArg (fun z => (z, cv σ)) (show nowS what (σ 0) = topG (σ 0) from by simp [nowS, t1, t2, t3, t4, t5, t6, t7, t8]))) rfl rfl rfl) dX7_now_95
                · refine x_tableOut C (tgt := 96) dX7_now_9 (by rw [tI_eq, show (0 : Int32).toInt = 0 from by decide] at t1; rw [tI_eq, show (1 : Int32).toInt = 1 from by decide] at t2; rw [tI_eq, show (2 : Int32).toInt = 2 from by decide] at t3; rw [tI_eq, show (3 : Int32).toInt = 3 from by decide] at t4; rw [tI_eq, show (4 : Int32).toInt = 4 from by decide] at t5; rw [tI_eq, show (5 : Int32).toInt = 5 from by decide] at t6; rw [tI_eq, show (6 : Int32).toInt = 6 from by decide] at t7; rw [tI_eq, show (7 : Int32).toInt = 7 from by decide] at t8; first | omega) (by decide) ?_
                  refine x_aload_n C 1 dX7_now_96 rfl rfl ?_
                  refine x_ldc C dX7_now_97 kc_X7_63 ?_
                  refine x_callVi C (As := [.int ((-1000001))]) (rest := []) (c_finding l E σ τ 0 (by decide) (-1000001) (by decide)) kv_X7_64 (x_recv C (Nat.le_of_ble_eq_true rfl) xd_0 rfl) ⟨Nat.le_of_ble_eq_true rfl, Nat.le_of_ble_eq_true rfl⟩ rfl rfl (Nat.le_of_ble_eq_true rfl) dX7_now_99 ?_
                  exact x_oret C (cpost_of (V := u2 (cv σ) 2 0 (σ 4 0 + 1)) (if_neg (by first | assumption | ((try simp only [rng, mayQ, tI_lt, tI_eq, cvr_0, mvr_0, cvr_c, mvr_c, tl_0, tl_1, tl_2, tl_3, tl_4, tl_5, tl_6, tl_7, tl_8, tl_9, tl_10, tl_11, tl_12, tl_13, tl_99] at t1 t2 t3 t4 t5 t6 t7 t8 ⊢) <;> omega))) (by rw [cv_u4]) (by rw [mv_u4]) rfl) dX7_now_102
set_option maxHeartbeats 4000000 in
set_option maxRecDepth 100000 in
theorem m_now (l : Launch) (E : xE) (σ : Nat → Nat → Int32) (τ : Nat → Int64) (T : Nat) (hT : T < 1073741824) (what : Int32) (hI : Inv (mv σ) T) (hlv : ∀ j, j < 12 → σ 15 j = (xzl 1).getD j 0) : xOi l yX8_now cX8_now 2 .int 1 22 E [.ref (xad E (81)), .int (what)] σ τ (mpost (sp_now what (mv σ)) σ) := by
  refine xOi_of (own := RX8) (by decide +kernel) rfl (Nat.le_of_ble_eq_true rfl) ?_
  intro zp ze zs zm za zb zh zc C
  refine WM.to (lv1 := [(0, .ref (xad E (81))), (1, .int (what))]) (st1 := []) (σ1 := σ) (τ1 := τ) ?_ rfl rfl rfl rfl
  have hg : gI (σ 10) := hI.g
  have hgT : gT (σ 10) T := hI.t
  have h0 : 0 ≤ (σ 10 10).toInt := hI.h0
  refine x_iload_n C 1 dX8_now_0 rfl rfl ?_
  by_cases t1 : what = 0
  · refine WM.topi (y := 0) t1 ?_
    refine x_tableIn C (tgt := 48) dX8_now_1 (by decide) (by decide) rfl (by decide) ?_
    refine x_aload_n C 0 dX8_now_48 rfl rfl ?_
    refine x_get C (Nat.le_of_ble_eq_true rfl) xd_81 fl_X8_9 (q := (0, 82, 0)) (v := .ref (xad E (82))) rfl rfl dX8_now_49 ?_
    refine x_iconst C (v := 4) dX8_now_52 (by decide) ?_
    refine x_ald C (Nat.le_of_ble_eq_true rfl) xd_82 (v := σ 10 4) (vp_in_nI (show 4 < 284 by omega) (by decide)) (by rw [(show (4 : Int32).toNatClampNeg = 4 from by decide), Nat.zero_add, Nat.one_mul]) dX8_now_53 ?_
    exact x_oret C (mpost_of (V := mv σ) (Eq.trans (if_pos (by first | assumption | ((try simp only [rng, mayQ, tI_lt, tI_eq, cvr_0, mvr_0, cvr_c, mvr_c, tl_0, tl_1, tl_2, tl_3, tl_4, tl_5, tl_6, tl_7, tl_8, tl_9, tl_10, tl_11, tl_12, tl_13, tl_99, tl_100] at t1 ⊢) <;> omega))) (congrArg (fun z => (z, mv σ)) (show nowS what (σ 10) = σ 10 4 from by simp [nowS, t1]))) rfl rfl rfl) dX8_now_54
  · by_cases t2 : what = 1
    · refine WM.topi (y := 1) t2 ?_
      refine x_tableIn C (tgt := 55) dX8_now_1 (by decide) (by decide) rfl (by decide) ?_
      refine x_aload_n C 0 dX8_now_55 rfl rfl ?_
      refine x_get C (Nat.le_of_ble_eq_true rfl) xd_81 fl_X8_9 (q := (0, 82, 0)) (v := .ref (xad E (82))) rfl rfl dX8_now_56 ?_
      refine x_iconst C (v := 5) dX8_now_59 (by decide) ?_
      refine x_ald C (Nat.le_of_ble_eq_true rfl) xd_82 (v := σ 10 5) (vp_in_nI (show 5 < 284 by omega) (by decide)) (by rw [(show (5 : Int32).toNatClampNeg = 5 from by decide), Nat.zero_add, Nat.one_mul]) dX8_now_60 ?_
      exact x_oret C (mpost_of (V := mv σ) (Eq.trans (if_pos (by first | assumption | ((try simp only [rng, mayQ, tI_lt, tI_eq, cvr_0, mvr_0, cvr_c, mvr_c, tl_0, tl_1, tl_2, tl_3, tl_4, tl_5, tl_6, tl_7, tl_8, tl_9, tl_10, tl_11, tl_12, tl_13, tl_99, tl_100] at t1 t2 ⊢) <;> omega))) (congrArg (fun z => (z, mv σ)) (show nowS what (σ 10) = σ 10 5 from by simp [nowS, t1, t2]))) rfl rfl rfl) dX8_now_61
    · by_cases t3 : what = 2
      · refine WM.topi (y := 2) t3 ?_
        refine x_tableIn C (tgt := 62) dX8_now_1 (by decide) (by decide) rfl (by decide) ?_
        refine x_aload_n C 0 dX8_now_62 rfl rfl ?_
        refine x_get C (Nat.le_of_ble_eq_true rfl) xd_81 fl_X8_9 (q := (0, 82, 0)) (v := .ref (xad E (82))) rfl rfl dX8_now_63 ?_
        refine x_bipush C (v := 6) dX8_now_66 (by decide) ?_
        refine x_ald C (Nat.le_of_ble_eq_true rfl) xd_82 (v := σ 10 6) (vp_in_nI (show 6 < 284 by omega) (by decide)) (by rw [(show (6 : Int32).toNatClampNeg = 6 from by decide), Nat.zero_add, Nat.one_mul]) dX8_now_68 ?_
        exact x_oret C (mpost_of (V := mv σ) (Eq.trans (if_pos (by first | assumption | ((try simp only [rng, mayQ, tI_lt, tI_eq, cvr_0, mvr_0, cvr_c, mvr_c, tl_0, tl_1, tl_2, tl_3, tl_4, tl_5, tl_6, tl_7, tl_8, tl_9, tl_10, tl_11, tl_12, tl_13, tl_99, tl_100] at t1 t2 t3 ⊢) <;> omega))) (congrArg (fun z => (z, mv σ)) (show nowS what (σ 10) = σ 10 6 from by simp [nowS, t1, t2, t3]))) rfl rfl rfl) dX8_now_69
      · by_cases t4 : what = 3
        · refine WM.topi (y := 3) t4 ?_
          refine x_tableIn C (tgt := 70) dX8_now_1 (by decide) (by decide) rfl (by decide) ?_
          refine x_aload_n C 0 dX8_now_70 rfl rfl ?_
          refine x_get C (Nat.le_of_ble_eq_true rfl) xd_81 fl_X8_9 (q := (0, 82, 0)) (v := .ref (xad E (82))) rfl rfl dX8_now_71 ?_
          refine WM.to (σ1 := va_up σ 10 (σ 10)) ?_ (xself _ _).symm rfl rfl rfl
          refine x_callSi C (As := [.ref (xad E (82))]) (rest := []) (cM_allWater l E σ τ 10 (by decide) (σ 10)) ks_X8_116 ⟨Nat.le_of_ble_eq_true rfl, Nat.le_of_ble_eq_true rfl⟩ rfl rfl (Nat.le_of_ble_eq_true rfl) dX8_now_74 ?_
          refine WM.to (σ1 := σ) ?_ (xself _ _) rfl rfl rfl
          exact x_oret C (mpost_of (V := mv σ) (Eq.trans (if_pos (by first | assumption | ((try simp only [rng, mayQ, tI_lt, tI_eq, cvr_0, mvr_0, cvr_c, mvr_c, tl_0, tl_1, tl_2, tl_3, tl_4, tl_5, tl_6, tl_7, tl_8, tl_9, tl_10, tl_11, tl_12, tl_13, tl_99, tl_100] at t1 t2 t3 t4 ⊢) <;> omega))) (congrArg (fun z => (z, mv σ)) (show nowS what (σ 10) = waterN (σ 10) 12 from by simp [nowS, t1, t2, t3, t4]))) rfl rfl rfl) dX8_now_77
        · by_cases t5 : what = 4
          · refine WM.topi (y := 4) t5 ?_
            refine x_tableIn C (tgt := 78) dX8_now_1 (by decide) (by decide) rfl (by decide) ?_
            refine x_aload_n C 0 dX8_now_78 rfl rfl ?_
            refine x_get C (Nat.le_of_ble_eq_true rfl) xd_81 fl_X8_9 (q := (0, 82, 0)) (v := .ref (xad E (82))) rfl rfl dX8_now_79 ?_
            refine x_bipush C (v := 7) dX8_now_82 (by decide) ?_
            refine x_ald C (Nat.le_of_ble_eq_true rfl) xd_82 (v := σ 10 7) (vp_in_nI (show 7 < 284 by omega) (by decide)) (by rw [(show (7 : Int32).toNatClampNeg = 7 from by decide), Nat.zero_add, Nat.one_mul]) dX8_now_84 ?_
            exact x_oret C (mpost_of (V := mv σ) (Eq.trans (if_pos (by first | assumption | ((try simp only [rng, mayQ, tI_lt, tI_eq, cvr_0, mvr_0, cvr_c, mvr_c, tl_0, tl_1, tl_2, tl_3, tl_4, tl_5, tl_6, tl_7, tl_8, tl_9, tl_10, tl_11, tl_12, tl_13, tl_99, tl_100] at t1 t2 t3 t4 t5 ⊢) <;> omega))) (congrArg (fun z => (z, mv σ)) (show nowS what (σ 10) = σ 10 7 from by simp [nowS, t1, t2, t3, t4, t5]))) rfl rfl rfl) dX8_now_85
          · by_cases t6 : what = 5
            · refine WM.topi (y := 5) t6 ?_
              refine x_tableIn C (tgt := 86) dX8_now_1 (by decide) (by decide) rfl (by decide) ?_
              refine x_aload_n C 0 dX8_now_86 rfl rfl ?_
              refine x_get C (Nat.le_of_ble_eq_true rfl) xd_81 fl_X8_9 (q := (0, 82, 0)) (v := .ref (xad E (82))) rfl rfl dX8_now_87 ?_
              refine x_bipush C (v := 8) dX8_now_90 (by decide) ?_
              refine x_ald C (Nat.le_of_ble_eq_true rfl) xd_82 (v := σ 10 8) (vp_in_nI (show 8 < 284 by omega) (by decide)) (by rw [(show (8 : Int32).toNatClampNeg = 8 from by decide), Nat.zero_add, Nat.one_mul]) dX8_now_92 ?_
              exact x_oret C (mpost_of (V := mv σ) (Eq.trans (if_pos (by first | assumption | ((try simp only [rng, mayQ, tI_lt, tI_eq, cvr_0, mvr_0, cvr_c, mvr_c, tl_0, tl_1, tl_2, tl_3, tl_4, tl_5, tl_6, tl_7, tl_8, tl_9, tl_10, tl_11, tl_12, tl_13, tl_99, tl_100] at t1 t2 t3 t4 t5 t6 ⊢) <;> omega))) (congrArg (fun z => (z, mv σ)) (show nowS what (σ 10) = σ 10 8 from by simp [nowS, t1, t2, t3, t4, t5, t6]))) rfl rfl rfl) dX8_now_93
            · by_cases t7 : what = 6
              · refine WM.topi (y := 6) t7 ?_
                refine x_tableIn C (tgt := 94) dX8_now_1 (by decide) (by decide) rfl (by decide) ?_
                refine x_aload_n C 0 dX8_now_94 rfl rfl ?_
                refine x_get C (Nat.le_of_ble_eq_true rfl) xd_81 fl_X8_9 (q := (0, 82, 0)) (v := .ref (xad E (82))) rfl rfl dX8_now_95 ?_
                refine x_bipush C (v := 9) dX8_now_98 (by decide) ?_
                refine x_ald C (Nat.le_of_ble_eq_true rfl) xd_82 (v := σ 10 9) (vp_in_nI (show 9 < 284 by omega) (by decide)) (by rw [(show (9 : Int32).toNatClampNeg = 9 from by decide), Nat.zero_add, Nat.one_mul]) dX8_now_100 ?_
                exact x_oret C (mpost_of (V := mv σ) (Eq.trans (if_pos (by first | assumption | ((try simp only [rng, mayQ, tI_lt, tI_eq, cvr_0, mvr_0, cvr_c, mvr_c, tl_0, tl_1, tl_2, tl_3, tl_4, tl_5, tl_6, tl_7, tl_8, tl_9, tl_10, tl_11, tl_12, tl_13, tl_99, tl_100] at t1 t2 t3 t4 t5 t6 t7 ⊢) <;> omega))) (congrArg (fun z => (z, mv σ)) (show nowS what (σ 10) = σ 10 9 from by simp [nowS, t1, t2, t3, t4, t5, t6, t7]))) rfl rfl rfl) dX8_now_101
              · by_cases t8 : what = 7
                · refine WM.topi (y := 7) t8 ?_
                  refine x_tableIn C (tgt := 102) dX8_now_1 (by decide) (by decide) rfl (by decide) ?_
                  refine x_bipush C (v := 12) dX8_now_102 (by decide) ?_
                  refine x_aload_n C 0 dX8_now_104 rfl rfl ?_
                  refine x_get C (Nat.le_of_ble_eq_true rfl) xd_81 fl_X8_9 (q := (0, 82, 0)) (v := .ref (xad E (82))) rfl rfl dX8_now_105 ?_
                  refine x_iconst C (v := 5) dX8_now_108 (by decide) ?_
                  refine x_ald C (Nat.le_of_ble_eq_true rfl) xd_82 (v := σ 10 5) (vp_in_nI (show 5 < 284 by omega) (by decide)) (by rw [(show (5 : Int32).toNatClampNeg = 5 from by decide), Nat.zero_add, Nat.one_mul]) dX8_now_109 ?_
                  refine x_bipush C (v := 100) dX8_now_110 (by decide) ?_
                  refine x_idiv C dX8_now_112 (by decide) ?_
                  refine x_isub C dX8_now_113 ?_
                  refine x_bipush C (v := 12) dX8_now_114 (by decide) ?_
                  refine x_irem C dX8_now_116 (by decide) ?_
                  refine WM.topi (y := topG (σ 10)) rfl ?_
                  exact x_oret C (mpost_of (V := mv σ) (Eq.trans (if_pos (by first | assumption | ((try simp only [rng, mayQ, tI_lt, tI_eq, cvr_0, mvr_0, cvr_c, mvr_c, tl_0, tl_1, tl_2, tl_3, tl_4, tl_5, tl_6, tl_7, tl_8, tl_9, tl_10, tl_11, tl_12, tl_13, tl_99, tl_100] at t1 t2 t3 t4 t5 t6 t7 t8 ⊢) <;> omega))) (congrArg (fun z => (z, mv σ)) (show nowS what (σ 10) = topG (σ 10) from by simp [nowS, t1, t2, t3, t4, t5, t6, t7, t8]))) rfl rfl rfl) dX8_now_117
                · refine x_tableOut C (tgt := 118) dX8_now_1 (by rw [tI_eq, show (0 : Int32).toInt = 0 from by decide] at t1; rw [tI_eq, show (1 : Int32).toInt = 1 from by decide] at t2; rw [tI_eq, show (2 : Int32).toInt = 2 from by decide] at t3; rw [tI_eq, show (3 : Int32).toInt = 3 from by decide] at t4; rw [tI_eq, show (4 : Int32).toInt = 4 from by decide] at t5; rw [tI_eq, show (5 : Int32).toInt = 5 from by decide] at t6; rw [tI_eq, show (6 : Int32).toInt = 6 from by decide] at t7; rw [tI_eq, show (7 : Int32).toInt = 7 from by decide] at t8; first | omega) (by decide) ?_
                  refine x_aload_n C 0 dX8_now_118 rfl rfl ?_
                  refine x_ldc C dX8_now_119 kc_X8_46 ?_
                  refine x_callVi C (As := [.int ((-1000001))]) (rest := []) (c_finds l E σ τ 0 (by decide) (-1000001) (by decide)) kv_X8_61 (x_recv C (Nat.le_of_ble_eq_true rfl) xd_81 rfl) ⟨Nat.le_of_ble_eq_true rfl, Nat.le_of_ble_eq_true rfl⟩ rfl rfl (Nat.le_of_ble_eq_true rfl) dX8_now_121 ?_
                  exact x_oret C (mpost_of (V := u2 (mv σ) 2 0 (σ 14 0 + 1)) (if_neg (by first | assumption | ((try simp only [rng, mayQ, tI_lt, tI_eq, cvr_0, mvr_0, cvr_c, mvr_c, tl_0, tl_1, tl_2, tl_3, tl_4, tl_5, tl_6, tl_7, tl_8, tl_9, tl_10, tl_11, tl_12, tl_13, tl_99, tl_100] at t1 t2 t3 t4 t5 t6 t7 t8 ⊢) <;> omega))) (by rw [mv_u14]) (by rw [cv_u14]) rfl) dX8_now_124
set_option maxHeartbeats 4000000 in
set_option maxRecDepth 100000 in
theorem k_torque (l : Launch) (E : xE) (σ : Nat → Nat → Int32) (τ : Nat → Int64) (T : Nat) (hT : T < 1073741824)  (hI : Inv (cv σ) T) : xOi l yX7_torque cX7_torque 1 .int 2 43 E [.ref (xad E (0))] σ τ (cpost (sp_torque (cv σ)) σ) := by
  refine xOi_of (own := RX7) (by decide +kernel) rfl (Nat.le_of_ble_eq_true rfl) ?_
  intro zp ze zs zm za zb zh zc C
  refine WM.to (lv1 := [(0, .ref (xad E (0)))]) (st1 := []) (σ1 := σ) (τ1 := τ) ?_ rfl rfl rfl rfl
  have hg : gI (σ 0) := hI.g
  have hgT : gT (σ 0) T := hI.t
  have h0 : 0 ≤ (σ 0 10).toInt := hI.h0
  refine x_aload_n C 0 dX7_torque_0 rfl rfl ?_
  refine x_get C (Nat.le_of_ble_eq_true rfl) xd_0 fl_X7_12 (q := (0, 1, 0)) (v := .ref (xad E (1))) rfl rfl dX7_torque_1 ?_
  refine x_get C (Nat.le_of_ble_eq_true rfl) xd_1 fl_X7_68 (q := (0, 2, 0)) (v := .ref (xad E (2))) rfl rfl dX7_torque_4 ?_
  refine WM.to (σ1 := va_up σ 0 (σ 0)) ?_ (xself _ _).symm rfl rfl rfl
  refine x_callVi C (As := []) (rest := []) (cW_pull l E σ τ 0 (by decide) (σ 0) hg) kv_X7_133 (x_recv C (Nat.le_of_ble_eq_true rfl) xd_2 rfl) ⟨Nat.le_of_ble_eq_true rfl, Nat.le_of_ble_eq_true rfl⟩ rfl rfl (Nat.le_of_ble_eq_true rfl) dX7_torque_7 ?_
  refine WM.to (σ1 := σ) ?_ (xself _ _) rfl rfl rfl
  exact x_oret C (cpost_of (V := cv σ) rfl rfl rfl rfl) dX7_torque_10
set_option maxHeartbeats 4000000 in
set_option maxRecDepth 100000 in
theorem m_torque (l : Launch) (E : xE) (σ : Nat → Nat → Int32) (τ : Nat → Int64) (T : Nat) (hT : T < 1073741824)  (hI : Inv (mv σ) T) (hlv : ∀ j, j < 12 → σ 15 j = (xzl 1).getD j 0) : xOi l yX8_torque cX8_torque 1 .int 2 44 E [.ref (xad E (81))] σ τ (mpost (sp_torque (mv σ)) σ) := by
  refine xOi_of (own := RX8) (by decide +kernel) rfl (Nat.le_of_ble_eq_true rfl) ?_
  intro zp ze zs zm za zb zh zc C
  refine WM.to (lv1 := [(0, .ref (xad E (81)))]) (st1 := []) (σ1 := σ) (τ1 := τ) ?_ rfl rfl rfl rfl
  have hg : gI (σ 10) := hI.g
  have hgT : gT (σ 10) T := hI.t
  have h0 : 0 ≤ (σ 10 10).toInt := hI.h0
  refine x_aload_n C 0 dX8_torque_0 rfl rfl ?_
  refine x_aload_n C 0 dX8_torque_1 rfl rfl ?_
  refine x_get C (Nat.le_of_ble_eq_true rfl) xd_81 fl_X8_9 (q := (0, 82, 0)) (v := .ref (xad E (82))) rfl rfl dX8_torque_2 ?_
  refine WM.to (σ1 := va_up σ 10 (σ 10)) ?_ (xself _ _).symm rfl rfl rfl
  refine x_callVi C (As := [.ref (xad E (82))]) (rest := []) (cM_torqueOf l E σ τ 10 (by decide) (σ 10) hg hlv) kv_X8_100 (x_recv C (Nat.le_of_ble_eq_true rfl) xd_81 rfl) ⟨Nat.le_of_ble_eq_true rfl, Nat.le_of_ble_eq_true rfl⟩ rfl rfl (Nat.le_of_ble_eq_true rfl) dX8_torque_5 ?_
  refine WM.to (σ1 := σ) ?_ (xself _ _) rfl rfl rfl
  exact x_oret C (mpost_of (V := mv σ) rfl rfl rfl rfl) dX8_torque_8
set_option maxHeartbeats 4000000 in
set_option maxRecDepth 100000 in
theorem k_seed (l : Launch) (E : xE) (σ : Nat → Nat → Int32) (τ : Nat → Int64) (T : Nat) (hT : T < 1073741824) (v : Int32) (hI : Inv (cv σ) T) : xOi l yX7_seed cX7_seed 3 .int 0 0 E [.ref (xad E (0)), .int (v)] σ τ (cpost (sp_seed v (cv σ)) σ) := by
  refine xOi_of (own := RX7) (by decide +kernel) rfl (Nat.le_of_ble_eq_true rfl) ?_
  intro zp ze zs zm za zb zh zc C
  refine WM.to (lv1 := [(0, .ref (xad E (0))), (1, .int (v))]) (st1 := []) (σ1 := σ) (τ1 := τ) ?_ rfl rfl rfl rfl
  have hg : gI (σ 0) := hI.g
  have hgT : gT (σ 0) T := hI.t
  have h0 : 0 ≤ (σ 0 10).toInt := hI.h0
  refine x_aload_n C 0 dX7_seed_0 rfl rfl ?_
  refine x_get C (Nat.le_of_ble_eq_true rfl) xd_0 fl_X7_12 (q := (0, 1, 0)) (v := .ref (xad E (1))) rfl rfl dX7_seed_1 ?_
  refine x_get C (Nat.le_of_ble_eq_true rfl) xd_1 fl_X7_248 (q := (1, 0, 12)) (v := .int (σ 0 12)) rfl rfl dX7_seed_4 ?_
  refine x_istore_n C (lv1 := [(2, .int (σ 0 12)), (0, .ref (xad E (0))), (1, .int (v))]) dX7_seed_7 rfl (by decide) rfl ?_
  refine x_aload_n C 1 dX7_seed_8 rfl rfl ?_
  refine x_get C (Nat.le_of_ble_eq_true rfl) xd_0 fl_X7_12 (q := (0, 1, 0)) (v := .ref (xad E (1))) rfl rfl dX7_seed_9 ?_
  refine x_iload_n C 2 dX7_seed_12 rfl rfl ?_
  refine x_put C (σ' := u2 σ 0 12 (v)) (Nat.le_of_ble_eq_true rfl) xd_1 fp_X7_248 rfl rfl rfl rfl dX7_seed_13 ?_
  refine x_iload_n C 0 dX7_seed_16 rfl rfl ?_
  exact x_oret C (cpost_of (V := u2 (cv σ) 0 12 (v)) rfl (by rw [cv_u0]) (by rw [mv_u0]) rfl) dX7_seed_17
set_option maxHeartbeats 4000000 in
set_option maxRecDepth 100000 in
theorem m_seed (l : Launch) (E : xE) (σ : Nat → Nat → Int32) (τ : Nat → Int64) (T : Nat) (hT : T < 1073741824) (v : Int32) (hI : Inv (mv σ) T) (hlv : ∀ j, j < 12 → σ 15 j = (xzl 1).getD j 0) : xOi l yX8_seed cX8_seed 3 .int 0 0 E [.ref (xad E (81)), .int (v)] σ τ (mpost (sp_seed v (mv σ)) σ) := by
  refine xOi_of (own := RX8) (by decide +kernel) rfl (Nat.le_of_ble_eq_true rfl) ?_
  intro zp ze zs zm za zb zh zc C
  refine WM.to (lv1 := [(0, .ref (xad E (81))), (1, .int (v))]) (st1 := []) (σ1 := σ) (τ1 := τ) ?_ rfl rfl rfl rfl
  have hg : gI (σ 10) := hI.g
  have hgT : gT (σ 10) T := hI.t
  have h0 : 0 ≤ (σ 10 10).toInt := hI.h0
  refine x_aload_n C 0 dX8_seed_0 rfl rfl ?_
  refine x_get C (Nat.le_of_ble_eq_true rfl) xd_81 fl_X8_9 (q := (0, 82, 0)) (v := .ref (xad E (82))) rfl rfl dX8_seed_1 ?_
  refine x_bipush C (v := 12) dX8_seed_4 (by decide) ?_
  refine x_ald C (Nat.le_of_ble_eq_true rfl) xd_82 (v := σ 10 12) (vp_in_nI (show 12 < 284 by omega) (by decide)) (by rw [(show (12 : Int32).toNatClampNeg = 12 from by decide), Nat.zero_add, Nat.one_mul]) dX8_seed_6 ?_
  refine x_istore_n C (lv1 := [(2, .int (σ 10 12)), (0, .ref (xad E (81))), (1, .int (v))]) dX8_seed_7 rfl (by decide) rfl ?_
  refine x_aload_n C 1 dX8_seed_8 rfl rfl ?_
  refine x_get C (Nat.le_of_ble_eq_true rfl) xd_81 fl_X8_9 (q := (0, 82, 0)) (v := .ref (xad E (82))) rfl rfl dX8_seed_9 ?_
  refine x_bipush C (v := 12) dX8_seed_12 (by decide) ?_
  refine x_iload_n C 2 dX8_seed_14 rfl rfl ?_
  refine x_ast C (σ' := u2 σ 10 12 (v)) (Nat.le_of_ble_eq_true rfl) xd_82 (by decide) (vp_in_nI (show 12 < 284 by omega) (by decide)) (by rw [(show (12 : Int32).toNatClampNeg = 12 from by decide), Nat.zero_add, Nat.one_mul]) dX8_seed_15 ?_
  refine x_iload_n C 0 dX8_seed_16 rfl rfl ?_
  exact x_oret C (mpost_of (V := u2 (mv σ) 0 12 (v)) rfl (by rw [mv_u10]) (by rw [cv_u10]) rfl) dX8_seed_17
set_option maxHeartbeats 4000000 in
set_option maxRecDepth 100000 in
theorem k_hold (l : Launch) (E : xE) (σ : Nat → Nat → Int32) (τ : Nat → Int64) (T : Nat) (hT : T < 1073741824) (spot cup : Int32) (hI : Inv (cv σ) T) : xOi l yX7_hold cX7_hold 3 .int 2 44 E [.ref (xad E (0)), .int (spot), .int (cup)] σ τ (cpost (sp_hold spot cup (cv σ)) σ) := by
  refine xOi_of (own := RX7) (by decide +kernel) rfl (Nat.le_of_ble_eq_true rfl) ?_
  intro zp ze zs zm za zb zh zc C
  refine WM.to (lv1 := [(0, .ref (xad E (0))), (1, .int (spot)), (2, .int (cup))]) (st1 := []) (σ1 := σ) (τ1 := τ) ?_ rfl rfl rfl rfl
  have hg : gI (σ 0) := hI.g
  have hgT : gT (σ 0) T := hI.t
  have h0 : 0 ≤ (σ 0 10).toInt := hI.h0
  refine x_iload_n C 1 dX7_hold_0 rfl rfl ?_
  refine x_callSi C (As := [.int (spot)]) (rest := []) (c_isSpot l E σ τ spot) ks_X7_250 ⟨Nat.le_of_ble_eq_true rfl, Nat.le_of_ble_eq_true rfl⟩ rfl rfl (Nat.le_of_ble_eq_true rfl) dX7_hold_1 ?_
  refine x_ifeqB C (tgt := 19) dX7_hold_4 (by decide) (fun h1 => ?_) (fun h1 => ?_)
  · refine x_aload_n C 0 dX7_hold_19 rfl rfl ?_
    refine x_ldc C dX7_hold_20 kc_X7_63 ?_
    refine x_callVi C (As := [.int ((-1000001))]) (rest := []) (c_finding l E σ τ 0 (by decide) (-1000001) (by decide)) kv_X7_64 (x_recv C (Nat.le_of_ble_eq_true rfl) xd_0 rfl) ⟨Nat.le_of_ble_eq_true rfl, Nat.le_of_ble_eq_true rfl⟩ rfl rfl (Nat.le_of_ble_eq_true rfl) dX7_hold_22 ?_
    exact x_oret C (cpost_of (V := u2 (cv σ) 2 0 (σ 4 0 + 1)) (if_neg (by first | assumption | ((try simp only [rng, mayQ, tI_lt, tI_eq, cvr_0, mvr_0, cvr_c, mvr_c, tl_0, tl_1, tl_2, tl_3, tl_4, tl_5, tl_6, tl_7, tl_8, tl_9, tl_10, tl_11, tl_12, tl_13, tl_99, tn_1] at h1 ⊢) <;> omega))) (by rw [cv_u4]) (by rw [mv_u4]) rfl) dX7_hold_25
  · refine x_iload_n C 2 dX7_hold_7 rfl rfl ?_
    refine x_iconst C (v := -1) dX7_hold_8 (by decide) ?_
    refine x_icmp_eq C (tgt := 26) dX7_hold_9 (by decide) (fun h2 => ?_) (fun h2 => ?_)
    · obtain ⟨q, hqa, hqb, rfl⟩ := rngN (a := 0) (b := 9) h1 (by decide) (by decide) (by decide)
      refine x_aload_n C 0 dX7_hold_26 rfl rfl ?_
      refine x_get C (Nat.le_of_ble_eq_true rfl) xd_0 fl_X7_12 (q := (0, 1, 0)) (v := .ref (xad E (1))) rfl rfl dX7_hold_27 ?_
      refine x_get C (Nat.le_of_ble_eq_true rfl) xd_1 fl_X7_253 (q := (0, 9, 0)) (v := .ref (xad E (9))) rfl rfl dX7_hold_30 ?_
      refine x_iload_n C 1 dX7_hold_33 rfl rfl ?_
      refine x_iload_n C 2 dX7_hold_34 rfl rfl ?_
      refine x_ast C (σ' := u2 σ 0 (124 + q) (cup)) (Nat.le_of_ble_eq_true rfl) xd_9 (by decide) (vp_in_nI (show q < 10 by omega) (by decide)) (by rw [(nI_clamp (show q < 2 ^ 31 by omega)), Nat.one_mul]) dX7_hold_35 ?_
      refine x_iconst C (v := 1) dX7_hold_36 (by decide) ?_
      exact x_oret C (cpost_of (V := u2 (cv σ) 0 (124 + q) (cup)) (Eq.trans (if_pos (by first | assumption | ((try simp only [rng, mayQ, tI_lt, tI_eq, cvr_0, mvr_0, cvr_c, mvr_c, tl_0, tl_1, tl_2, tl_3, tl_4, tl_5, tl_6, tl_7, tl_8, tl_9, tl_10, tl_11, tl_12, tl_13, tl_99, tn_1] at h1 h2 ⊢) <;> omega))) (congrArg (fun z => ((1 : Int32), u2 (cv σ) 0 (124 + z) cup)) (nI_clamp (by omega)))) (by rw [cv_u0]) (by rw [mv_u0]) rfl) dX7_hold_37
    · refine x_iload_n C 2 dX7_hold_12 rfl rfl ?_
      refine x_callSi C (As := [.int (cup)]) (rest := []) (c_isCup l E σ τ cup) ks_X7_74 ⟨Nat.le_of_ble_eq_true rfl, Nat.le_of_ble_eq_true rfl⟩ rfl rfl (Nat.le_of_ble_eq_true rfl) dX7_hold_13 ?_
      refine x_ifneB C (tgt := 26) dX7_hold_16 (by decide) (fun h3 => ?_) (fun h3 => ?_)
      · obtain ⟨q, hqa, hqb, rfl⟩ := rngN (a := 0) (b := 9) h1 (by decide) (by decide) (by decide)
        refine x_aload_n C 0 dX7_hold_26 rfl rfl ?_
        refine x_get C (Nat.le_of_ble_eq_true rfl) xd_0 fl_X7_12 (q := (0, 1, 0)) (v := .ref (xad E (1))) rfl rfl dX7_hold_27 ?_
        refine x_get C (Nat.le_of_ble_eq_true rfl) xd_1 fl_X7_253 (q := (0, 9, 0)) (v := .ref (xad E (9))) rfl rfl dX7_hold_30 ?_
        refine x_iload_n C 1 dX7_hold_33 rfl rfl ?_
        refine x_iload_n C 2 dX7_hold_34 rfl rfl ?_
        refine x_ast C (σ' := u2 σ 0 (124 + q) (cup)) (Nat.le_of_ble_eq_true rfl) xd_9 (by decide) (vp_in_nI (show q < 10 by omega) (by decide)) (by rw [(nI_clamp (show q < 2 ^ 31 by omega)), Nat.one_mul]) dX7_hold_35 ?_
        refine x_iconst C (v := 1) dX7_hold_36 (by decide) ?_
        exact x_oret C (cpost_of (V := u2 (cv σ) 0 (124 + q) (cup)) (Eq.trans (if_pos (by first | assumption | ((try simp only [rng, mayQ, tI_lt, tI_eq, cvr_0, mvr_0, cvr_c, mvr_c, tl_0, tl_1, tl_2, tl_3, tl_4, tl_5, tl_6, tl_7, tl_8, tl_9, tl_10, tl_11, tl_12, tl_13, tl_99, tn_1] at h1 h2 h3 ⊢) <;> omega))) (congrArg (fun z => ((1 : Int32), u2 (cv σ) 0 (124 + z) cup)) (nI_clamp (by omega)))) (by rw [cv_u0]) (by rw [mv_u0]) rfl) dX7_hold_37
      · refine x_aload_n C 0 dX7_hold_19 rfl rfl ?_
        refine x_ldc C dX7_hold_20 kc_X7_63 ?_
        refine x_callVi C (As := [.int ((-1000001))]) (rest := []) (c_finding l E σ τ 0 (by decide) (-1000001) (by decide)) kv_X7_64 (x_recv C (Nat.le_of_ble_eq_true rfl) xd_0 rfl) ⟨Nat.le_of_ble_eq_true rfl, Nat.le_of_ble_eq_true rfl⟩ rfl rfl (Nat.le_of_ble_eq_true rfl) dX7_hold_22 ?_
        exact x_oret C (cpost_of (V := u2 (cv σ) 2 0 (σ 4 0 + 1)) (if_neg (by first | assumption | ((try simp only [rng, mayQ, tI_lt, tI_eq, cvr_0, mvr_0, cvr_c, mvr_c, tl_0, tl_1, tl_2, tl_3, tl_4, tl_5, tl_6, tl_7, tl_8, tl_9, tl_10, tl_11, tl_12, tl_13, tl_99, tn_1] at h1 h2 h3 ⊢) <;> omega))) (by rw [cv_u4]) (by rw [mv_u4]) rfl) dX7_hold_25
set_option maxHeartbeats 4000000 in
set_option maxRecDepth 100000 in
theorem m_hold (l : Launch) (E : xE) (σ : Nat → Nat → Int32) (τ : Nat → Int64) (T : Nat) (hT : T < 1073741824) (spot cup : Int32) (hI : Inv (mv σ) T) (hlv : ∀ j, j < 12 → σ 15 j = (xzl 1).getD j 0) : xOi l yX8_hold cX8_hold 3 .int 2 45 E [.ref (xad E (81)), .int (spot), .int (cup)] σ τ (mpost (sp_hold spot cup (mv σ)) σ) := by
  refine xOi_of (own := RX8) (by decide +kernel) rfl (Nat.le_of_ble_eq_true rfl) ?_
  intro zp ze zs zm za zb zh zc C
  refine WM.to (lv1 := [(0, .ref (xad E (81))), (1, .int (spot)), (2, .int (cup))]) (st1 := []) (σ1 := σ) (τ1 := τ) ?_ rfl rfl rfl rfl
  have hg : gI (σ 10) := hI.g
  have hgT : gT (σ 10) T := hI.t
  have h0 : 0 ≤ (σ 10 10).toInt := hI.h0
  refine x_iload_n C 1 dX8_hold_0 rfl rfl ?_
  refine x_i2l C dX8_hold_1 ?_
  refine x_lconst C (v := 0) dX8_hold_2 (by decide) ?_
  refine x_ldc2 C dX8_hold_3 kc_X8_277 ?_
  refine x_callSi C (As := [.long (Int32.toInt64 spot), .long (0), .long (9)]) (rest := []) (c_in l E σ τ (Int32.toInt64 spot) 0 9) ks_X8_49 ⟨Nat.le_of_ble_eq_true rfl, Nat.le_of_ble_eq_true rfl⟩ rfl rfl (Nat.le_of_ble_eq_true rfl) dX8_hold_6 ?_
  refine WM.topi (y := if rng spot 0 9 then 1 else 0) (in_eq spot 0 9 (by decide) (by decide)) ?_
  refine x_ifeqB C (tgt := 24) dX8_hold_9 (by decide) (fun h1 => ?_) (fun h1 => ?_)
  · refine x_aload_n C 0 dX8_hold_24 rfl rfl ?_
    refine x_ldc C dX8_hold_25 kc_X8_46 ?_
    refine x_callVi C (As := [.int ((-1000001))]) (rest := []) (c_finds l E σ τ 0 (by decide) (-1000001) (by decide)) kv_X8_61 (x_recv C (Nat.le_of_ble_eq_true rfl) xd_81 rfl) ⟨Nat.le_of_ble_eq_true rfl, Nat.le_of_ble_eq_true rfl⟩ rfl rfl (Nat.le_of_ble_eq_true rfl) dX8_hold_27 ?_
    exact x_oret C (mpost_of (V := u2 (mv σ) 2 0 (σ 14 0 + 1)) (if_neg (by first | assumption | ((try simp only [rng, mayQ, tI_lt, tI_eq, cvr_0, mvr_0, cvr_c, mvr_c, tl_0, tl_1, tl_2, tl_3, tl_4, tl_5, tl_6, tl_7, tl_8, tl_9, tl_10, tl_11, tl_12, tl_13, tl_99, tn_1] at h1 ⊢) <;> omega))) (by rw [mv_u14]) (by rw [cv_u14]) rfl) dX8_hold_30
  · refine x_iload_n C 2 dX8_hold_12 rfl rfl ?_
    refine x_iconst C (v := -1) dX8_hold_13 (by decide) ?_
    refine x_icmp_eq C (tgt := 31) dX8_hold_14 (by decide) (fun h2 => ?_) (fun h2 => ?_)
    · obtain ⟨q, hqa, hqb, rfl⟩ := rngN (a := 0) (b := 9) h1 (by decide) (by decide) (by decide)
      refine x_aload_n C 0 dX8_hold_31 rfl rfl ?_
      refine x_get C (Nat.le_of_ble_eq_true rfl) xd_81 fl_X8_9 (q := (0, 82, 0)) (v := .ref (xad E (82))) rfl rfl dX8_hold_32 ?_
      refine x_bipush C (v := 124) dX8_hold_35 (by decide) ?_
      refine x_iload_n C 1 dX8_hold_37 rfl rfl ?_
      refine x_iadd C dX8_hold_38 ?_
      refine WM.topi (y := nI (124 + q)) (nI_add 124 q) ?_
      refine x_iload_n C 2 dX8_hold_39 rfl rfl ?_
      refine x_ast C (σ' := u2 σ 10 (124 + q) (cup)) (Nat.le_of_ble_eq_true rfl) xd_82 (by decide) (vp_in_nI (show 124 + q < 284 by omega) (by decide)) (by rw [(nI_clamp (show 124 + q < 2 ^ 31 by omega)), Nat.zero_add, Nat.one_mul]) dX8_hold_40 ?_
      refine x_iconst C (v := 1) dX8_hold_41 (by decide) ?_
      exact x_oret C (mpost_of (V := u2 (mv σ) 0 (124 + q) (cup)) (Eq.trans (if_pos (by first | assumption | ((try simp only [rng, mayQ, tI_lt, tI_eq, cvr_0, mvr_0, cvr_c, mvr_c, tl_0, tl_1, tl_2, tl_3, tl_4, tl_5, tl_6, tl_7, tl_8, tl_9, tl_10, tl_11, tl_12, tl_13, tl_99, tn_1] at h1 h2 ⊢) <;> omega))) (congrArg (fun z => ((1 : Int32), u2 (mv σ) 0 (124 + z) cup)) (nI_clamp (by omega)))) (by rw [mv_u10]) (by rw [cv_u10]) rfl) dX8_hold_42
    · refine x_iload_n C 2 dX8_hold_17 rfl rfl ?_
      refine x_callSi C (As := [.int (cup)]) (rest := []) (c_misCup l E σ τ cup) ks_X8_65 ⟨Nat.le_of_ble_eq_true rfl, Nat.le_of_ble_eq_true rfl⟩ rfl rfl (Nat.le_of_ble_eq_true rfl) dX8_hold_18 ?_
      refine x_ifneB C (tgt := 31) dX8_hold_21 (by decide) (fun h3 => ?_) (fun h3 => ?_)
      · obtain ⟨q, hqa, hqb, rfl⟩ := rngN (a := 0) (b := 9) h1 (by decide) (by decide) (by decide)
        refine x_aload_n C 0 dX8_hold_31 rfl rfl ?_
        refine x_get C (Nat.le_of_ble_eq_true rfl) xd_81 fl_X8_9 (q := (0, 82, 0)) (v := .ref (xad E (82))) rfl rfl dX8_hold_32 ?_
        refine x_bipush C (v := 124) dX8_hold_35 (by decide) ?_
        refine x_iload_n C 1 dX8_hold_37 rfl rfl ?_
        refine x_iadd C dX8_hold_38 ?_
        refine WM.topi (y := nI (124 + q)) (nI_add 124 q) ?_
        refine x_iload_n C 2 dX8_hold_39 rfl rfl ?_
        refine x_ast C (σ' := u2 σ 10 (124 + q) (cup)) (Nat.le_of_ble_eq_true rfl) xd_82 (by decide) (vp_in_nI (show 124 + q < 284 by omega) (by decide)) (by rw [(nI_clamp (show 124 + q < 2 ^ 31 by omega)), Nat.zero_add, Nat.one_mul]) dX8_hold_40 ?_
        refine x_iconst C (v := 1) dX8_hold_41 (by decide) ?_
        exact x_oret C (mpost_of (V := u2 (mv σ) 0 (124 + q) (cup)) (Eq.trans (if_pos (by first | assumption | ((try simp only [rng, mayQ, tI_lt, tI_eq, cvr_0, mvr_0, cvr_c, mvr_c, tl_0, tl_1, tl_2, tl_3, tl_4, tl_5, tl_6, tl_7, tl_8, tl_9, tl_10, tl_11, tl_12, tl_13, tl_99, tn_1] at h1 h2 h3 ⊢) <;> omega))) (congrArg (fun z => ((1 : Int32), u2 (mv σ) 0 (124 + z) cup)) (nI_clamp (by omega)))) (by rw [mv_u10]) (by rw [cv_u10]) rfl) dX8_hold_42
      · refine x_aload_n C 0 dX8_hold_24 rfl rfl ?_
        refine x_ldc C dX8_hold_25 kc_X8_46 ?_
        refine x_callVi C (As := [.int ((-1000001))]) (rest := []) (c_finds l E σ τ 0 (by decide) (-1000001) (by decide)) kv_X8_61 (x_recv C (Nat.le_of_ble_eq_true rfl) xd_81 rfl) ⟨Nat.le_of_ble_eq_true rfl, Nat.le_of_ble_eq_true rfl⟩ rfl rfl (Nat.le_of_ble_eq_true rfl) dX8_hold_27 ?_
        exact x_oret C (mpost_of (V := u2 (mv σ) 2 0 (σ 14 0 + 1)) (if_neg (by first | assumption | ((try simp only [rng, mayQ, tI_lt, tI_eq, cvr_0, mvr_0, cvr_c, mvr_c, tl_0, tl_1, tl_2, tl_3, tl_4, tl_5, tl_6, tl_7, tl_8, tl_9, tl_10, tl_11, tl_12, tl_13, tl_99, tn_1] at h1 h2 h3 ⊢) <;> omega))) (by rw [mv_u14]) (by rw [cv_u14]) rfl) dX8_hold_30
set_option maxHeartbeats 4000000 in
set_option maxRecDepth 100000 in
theorem k_wipe (l : Launch) (E : xE) (σ : Nat → Nat → Int32) (τ : Nat → Int64) (T : Nat) (hT : T < 1073741824)  (hI : Inv (cv σ) T) : xOi l yX7_wipe cX7_wipe 2 .int 0 0 E [.ref (xad E (0))] σ τ (cpost (sp_wipe (cv σ)) σ) := by
  refine xOi_of (own := RX7) (by decide +kernel) rfl (Nat.le_of_ble_eq_true rfl) ?_
  intro zp ze zs zm za zb zh zc C
  refine WM.to (lv1 := [(0, .ref (xad E (0)))]) (st1 := []) (σ1 := σ) (τ1 := τ) ?_ rfl rfl rfl rfl
  have hg : gI (σ 0) := hI.g
  have hgT : gT (σ 0) T := hI.t
  have h0 : 0 ≤ (σ 0 10).toInt := hI.h0
  refine x_aload_n C 0 dX7_wipe_0 rfl rfl ?_
  refine x_get C (Nat.le_of_ble_eq_true rfl) xd_0 fl_X7_30 (q := (0, 55, 0)) (v := .ref (xad E (55))) rfl rfl dX7_wipe_1 ?_
  refine x_get C (Nat.le_of_ble_eq_true rfl) xd_55 fl_X7_155 (q := (1, 6, 1)) (v := .int (σ 6 1)) rfl rfl dX7_wipe_4 ?_
  refine x_istore_n C (lv1 := [(1, .int (σ 6 1)), (0, .ref (xad E (0)))]) dX7_wipe_7 rfl (by decide) rfl ?_
  refine x_aload_n C 1 dX7_wipe_8 rfl rfl ?_
  refine x_get C (Nat.le_of_ble_eq_true rfl) xd_0 fl_X7_30 (q := (0, 55, 0)) (v := .ref (xad E (55))) rfl rfl dX7_wipe_9 ?_
  refine x_iconst C (v := 0) dX7_wipe_12 (by decide) ?_
  refine x_put C (σ' := u2 σ 6 1 (0)) (Nat.le_of_ble_eq_true rfl) xd_55 fp_X7_155 rfl rfl rfl rfl dX7_wipe_13 ?_
  refine x_iload_n C 0 dX7_wipe_16 rfl rfl ?_
  exact x_oret C (cpost_of (V := u2 (cv σ) 4 1 (0)) rfl (by rw [cv_u6_1]) (by rw [mv_u6]) rfl) dX7_wipe_17
set_option maxHeartbeats 4000000 in
set_option maxRecDepth 100000 in
theorem m_wipe (l : Launch) (E : xE) (σ : Nat → Nat → Int32) (τ : Nat → Int64) (T : Nat) (hT : T < 1073741824)  (hI : Inv (mv σ) T) (hlv : ∀ j, j < 12 → σ 15 j = (xzl 1).getD j 0) : xOi l yX8_wipe cX8_wipe 2 .int 0 0 E [.ref (xad E (81))] σ τ (mpost (sp_wipe (mv σ)) σ) := by
  refine xOi_of (own := RX8) (by decide +kernel) rfl (Nat.le_of_ble_eq_true rfl) ?_
  intro zp ze zs zm za zb zh zc C
  refine WM.to (lv1 := [(0, .ref (xad E (81)))]) (st1 := []) (σ1 := σ) (τ1 := τ) ?_ rfl rfl rfl rfl
  have hg : gI (σ 10) := hI.g
  have hgT : gT (σ 10) T := hI.t
  have h0 : 0 ≤ (σ 10 10).toInt := hI.h0
  refine x_aload_n C 0 dX8_wipe_0 rfl rfl ?_
  refine x_get C (Nat.le_of_ble_eq_true rfl) xd_81 fl_X8_129 (q := (1, 17, 1)) (v := .int (σ 17 1)) rfl rfl dX8_wipe_1 ?_
  refine x_istore_n C (lv1 := [(1, .int (σ 17 1)), (0, .ref (xad E (81)))]) dX8_wipe_4 rfl (by decide) rfl ?_
  refine x_aload_n C 1 dX8_wipe_5 rfl rfl ?_
  refine x_iconst C (v := 0) dX8_wipe_6 (by decide) ?_
  refine x_put C (σ' := u2 σ 17 1 (0)) (Nat.le_of_ble_eq_true rfl) xd_81 fp_X8_129 rfl rfl rfl rfl dX8_wipe_7 ?_
  refine x_iload_n C 0 dX8_wipe_10 rfl rfl ?_
  exact x_oret C (mpost_of (V := u2 (mv σ) 4 1 (0)) rfl (by rw [mv_u17_1]) (by rw [cv_u17]) rfl) dX8_wipe_11
