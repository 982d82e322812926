/-! programs: program -/
abbrev rdR (s : xV) (n q : Nat) : Int32 × Nat × (Nat → Int32) := rdP (s 3) n q 12 0 0 (upd (s 0) (134 + 25 * q) 0)
def prgS (q n : Nat) (s : xV) : Int32 × xV := if (rdR s n q).1 = -1 then ((rdR s n q).2.2 13 + 1 - 1, u2 (u2 (va_up s 0 (rdR s n q).2.2) 4 1 0) 0 13 ((rdR s n q).2.2 13 + 1)) else (-1 - (rdR s n q).1, u2 (va_up s 0 (rdR s n q).2.2) 4 1 0)
def sp_program (s : xV) : Int32 × xV := if rng (s 0 13) 0 5 then prgS (s 0 13).toNatClampNeg (s 4 1).toNatClampNeg s else full s
theorem prg_1 {s : xV} {q n : Nat} (hq : s 0 13 = nI q) (hq2 : q ≤ 5) (hn : s 4 1 = nI n) (hn2 : n ≤ 100) (h : (rdR s n q).1 = -1) : prgS (s 0 13).toNatClampNeg (s 4 1).toNatClampNeg s = ((rdR s n q).2.2 13 + 1 - 1, u2 (u2 (va_up s 0 (rdR s n q).2.2) 4 1 0) 0 13 ((rdR s n q).2.2 13 + 1)) := by
  rw [hq, hn, nI_clamp (by omega), nI_clamp (by omega)]
  exact if_pos h
theorem prg_0 {s : xV} {q n : Nat} (hq : s 0 13 = nI q) (hq2 : q ≤ 5) (hn : s 4 1 = nI n) (hn2 : n ≤ 100) (h : ¬ (rdR s n q).1 = -1) : prgS (s 0 13).toNatClampNeg (s 4 1).toNatClampNeg s = (-1 - (rdR s n q).1, u2 (va_up s 0 (rdR s n q).2.2) 4 1 0) := by
  rw [hq, hn, nI_clamp (by omega), nI_clamp (by omega)]
  exact if_neg h
theorem cv_rd (σ : xV) (G g : Nat → Int32) (n e : Nat) : cv (va_up (va_up σ 0 G) 6 (upd (rdT g n e (σ 6)) 1 0)) = u2 (va_up (cv σ) 0 G) 4 1 0 := by
  have h : va_up (va_up σ 0 G) 6 (upd (rdT g n e (σ 6)) 1 0) = u2 (u2 (u2 (u2 (u2 (va_up σ 0 G) 6 2 (tkT g n (nB g n e))) 6 3 (nI (nB g n e))) 6 4 (nI (tkE g n (nB g n e)))) 6 5 (tkV g n (nB g n e))) 6 1 0 := by
    rw [u6_1 (va_up σ 0 G), u2_bank, u2_bank, u2_bank, u2_bank]
    refine b6_eq fun j => ?_
    rw [va_up_ne (j := 6) (k := 0) _ _ (by decide)]
    by_cases h1 : j = 1
    · subst h1; rw [upd_at, upd_at]
    rw [upd_ne h1, upd_ne h1]
    unfold rdT rd6
    by_cases e5 : j = 5
    · subst e5; rw [upd_at]; rfl
    rw [upd_ne e5]
    by_cases e4 : j = 4
    · subst e4; rw [upd_at]; rfl
    rw [upd_ne e4]
    by_cases e3 : j = 3
    · subst e3; rw [upd_at]; rfl
    rw [upd_ne e3]
    by_cases e2 : j = 2
    · subst e2; rw [upd_at]; rfl
    rw [upd_ne e2, if_neg e2, if_neg e3, if_neg e4, if_neg e5]
  rw [h, cv_u6_1, cv_u6_5, cv_u6_4, cv_u6_3, cv_u6_2, cv_v0]
set_option maxHeartbeats 4000000 in
set_option maxRecDepth 100000 in
theorem k_program (l : Launch) (E : xE) (σ : Nat → Nat → Int32) (τ : Nat → Int64) (T : Nat) (hT : T < 1073741824)  (hI : Inv (cv σ) T) : xOi l yX7_program cX7_program 2 .int 9 195 E [.ref (xad E (0))] σ τ (cpost (sp_program (cv σ)) σ) := by
  refine xOi_of (own := RX7) (by decide +kernel) rfl (Nat.le_of_ble_eq_true rfl) ?_
  intro zp ze zs zm za zb zh zc C
  refine WM.to (lv1 := [(0, .ref (xad E (0)))]) (st1 := []) (σ1 := σ) (τ1 := τ) ?_ rfl rfl rfl rfl
  have hg : gI (σ 0) := hI.g
  have hgT : gT (σ 0) T := hI.t
  have h0 : 0 ≤ (σ 0 10).toInt := hI.h0
  obtain ⟨n, hn, ht⟩ := nI_is (x := σ 6 1) hI.2.2.1.1 (n := 100) hI.2.2.1.2 (by decide)
  have hk0 : 0 < 2 := by decide
  refine x_aload_n C 0 dX7_program_0 rfl rfl ?_
  refine x_get C (Nat.le_of_ble_eq_true rfl) xd_0 fl_X7_12 (q := (0, 1, 0)) (v := .ref (xad E (1))) rfl rfl dX7_program_1 ?_
  refine x_get C (Nat.le_of_ble_eq_true rfl) xd_1 fl_X7_163 (q := (1, 0, 13)) (v := .int (σ 0 13)) rfl rfl dX7_program_4 ?_
  refine x_iconst C (v := 0) dX7_program_7 (by decide) ?_
  refine x_iconst C (v := 5) dX7_program_8 (by decide) ?_
  refine x_callSi C (As := [.int (σ 0 13), .int (0), .int (5)]) (rest := []) (c_within l E σ τ (σ 0 13) 0 5) ks_X7_59 ⟨Nat.le_of_ble_eq_true rfl, Nat.le_of_ble_eq_true rfl⟩ rfl rfl (Nat.le_of_ble_eq_true rfl) dX7_program_9 ?_
  refine x_ifneB C (tgt := 22) dX7_program_12 (by decide) (fun h1 => ?_) (fun h1 => ?_)
  · obtain ⟨q, hqa, hqb, hq⟩ := rngN (a := 0) (b := 5) h1 (by decide) (by decide) (by decide)
    refine x_aload_n C 0 dX7_program_22 rfl rfl ?_
    refine x_get C (Nat.le_of_ble_eq_true rfl) xd_0 fl_X7_22 (q := (0, 57, 0)) (v := .ref (xad E (57))) rfl rfl dX7_program_23 ?_
    refine x_aload_n C 0 dX7_program_26 rfl rfl ?_
    refine x_get C (Nat.le_of_ble_eq_true rfl) xd_0 fl_X7_12 (q := (0, 1, 0)) (v := .ref (xad E (1))) rfl rfl dX7_program_27 ?_
    refine x_get C (Nat.le_of_ble_eq_true rfl) xd_1 fl_X7_166 (q := (0, 8, 0)) (v := .ref (xad E (8))) rfl rfl dX7_program_30 ?_
    refine x_aload_n C 0 dX7_program_33 rfl rfl ?_
    refine x_get C (Nat.le_of_ble_eq_true rfl) xd_0 fl_X7_12 (q := (0, 1, 0)) (v := .ref (xad E (1))) rfl rfl dX7_program_34 ?_
    refine x_get C (Nat.le_of_ble_eq_true rfl) xd_1 fl_X7_163 (q := (1, 0, 13)) (v := .int (nI q)) rfl (congrArg Value.int hq) dX7_program_37 ?_
    refine x_aldq C (Nat.le_of_ble_eq_true rfl) (t := 1) (Or.inl rfl) (z := sc 0 + 9 + 3 * q) xd_8 rfl (vp_in_nI (show q < 6 by omega) (by decide)) (by rw [nI_clamp (by omega)]; rfl) dX7_program_40 ?_
    refine x_callVi C (As := [.ref (xad E (sc 0 + 9 + 3 * q))]) (rest := []) (c_read l E σ τ q (by omega) (σ 5) n hn rfl ht) kv_X7_170 (x_recv C (Nat.le_of_ble_eq_true rfl) xd_57 rfl) ⟨Nat.le_of_ble_eq_true rfl, Nat.le_of_ble_eq_true rfl⟩ rfl rfl (Nat.le_of_ble_eq_true rfl) dX7_program_41 ?_
    refine x_istore_n C (lv1 := [(1, .int ((rdR (cv σ) n q).1)), (0, .ref (xad E (0)))]) dX7_program_44 rfl (by decide) rfl ?_
    refine x_aload_n C 1 dX7_program_45 rfl rfl ?_
    refine x_get C (Nat.le_of_ble_eq_true rfl) xd_0 fl_X7_30 (q := (0, 55, 0)) (v := .ref (xad E (55))) rfl rfl dX7_program_46 ?_
    refine x_iconst C (v := 0) dX7_program_49 (by decide) ?_
    refine x_put C (σ' := va_up (va_up σ 0 (rdR (cv σ) n q).2.2) 6 (upd (rdT (σ 5) n (rdR (cv σ) n q).2.1 (σ 6)) 1 (0))) (Nat.le_of_ble_eq_true rfl) xd_55 fp_X7_155 rfl rfl rfl (u2_bank _ _ _ _ _) dX7_program_50 ?_
    refine x_iload_n C 0 dX7_program_53 rfl rfl ?_
    refine x_iconst C (v := -1) dX7_program_54 (by decide) ?_
    refine x_icmp_eq C (tgt := 62) dX7_program_55 (by decide) (fun h2 => ?_) (fun h2 => ?_)
    · refine x_aload_n C 1 dX7_program_62 rfl rfl ?_
      refine x_get C (Nat.le_of_ble_eq_true rfl) xd_0 fl_X7_12 (q := (0, 1, 0)) (v := .ref (xad E (1))) rfl rfl dX7_program_63 ?_
      refine x_dup C dX7_program_66 rfl ?_
      refine x_get C (Nat.le_of_ble_eq_true rfl) xd_1 fl_X7_163 (q := (1, 0, 13)) (v := .int ((va_up σ 0 (rdR (cv σ) n q).2.2) 0 13)) rfl (congrArg Value.int (congrFun (va_up_ne _ (j := 0) (k := 6) _ (by decide)) _)) dX7_program_67 ?_
      refine x_iconst C (v := 1) dX7_program_70 (by decide) ?_
      refine x_iadd C dX7_program_71 ?_
      refine x_put C (σ' := u2 (va_up (va_up σ 0 (rdR (cv σ) n q).2.2) 6 (upd (rdT (σ 5) n (rdR (cv σ) n q).2.1 (σ 6)) 1 (0))) 0 13 (((va_up σ 0 (rdR (cv σ) n q).2.2) 0 13) + 1)) (Nat.le_of_ble_eq_true rfl) xd_1 fp_X7_163 rfl rfl rfl rfl dX7_program_72 ?_
      refine x_aload_n C 1 dX7_program_75 rfl rfl ?_
      refine x_get C (Nat.le_of_ble_eq_true rfl) xd_0 fl_X7_12 (q := (0, 1, 0)) (v := .ref (xad E (1))) rfl rfl dX7_program_76 ?_
      refine x_get C (Nat.le_of_ble_eq_true rfl) xd_1 fl_X7_163 (q := (1, 0, 13)) (v := .int (((va_up σ 0 (rdR (cv σ) n q).2.2) 0 13) + 1)) rfl (congrArg Value.int (u2_at _ _ _ _)) dX7_program_79 ?_
      refine x_iconst C (v := 1) dX7_program_82 (by decide) ?_
      refine x_isub C dX7_program_83 ?_
      exact x_oret C (cpost_of (V := u2 (u2 (va_up (cv σ) 0 (rdR (cv σ) n q).2.2) 4 1 0) 0 13 ((rdR (cv σ) n q).2.2 13 + 1)) (Eq.trans (if_pos (by first | assumption | ((try simp only [rng, mayQ, tI_lt, tI_eq, cvr_0, mvr_0, cvr_c, mvr_c, ruleQ, tn_999, tl_200, tl_999, bitsQ, tl_16, tl_32, tl_40, hasQ, tl_0, tl_1, tl_2, tl_3, tl_4, tl_5, tl_6, tl_7, tl_8, tl_9, tl_10, tl_11, tl_12, tl_13, tl_99, tn_1] at h1 ⊢) <;> omega))) (prg_1 (s := cv σ) hq (by omega) ht hn h2)) (by rw [cv_u0, cv_rd]; rfl) (by rw [mv_u0, mv_v6, mv_v0]) rfl) dX7_program_84
    · refine x_iconst C (v := -1) dX7_program_58 (by decide) ?_
      refine x_iload_n C 0 dX7_program_59 rfl rfl ?_
      refine x_isub C dX7_program_60 ?_
      exact x_oret C (cpost_of (V := u2 (va_up (cv σ) 0 (rdR (cv σ) n q).2.2) 4 1 0) (Eq.trans (if_pos (by first | assumption | ((try simp only [rng, mayQ, tI_lt, tI_eq, cvr_0, mvr_0, cvr_c, mvr_c, ruleQ, tn_999, tl_200, tl_999, bitsQ, tl_16, tl_32, tl_40, hasQ, tl_0, tl_1, tl_2, tl_3, tl_4, tl_5, tl_6, tl_7, tl_8, tl_9, tl_10, tl_11, tl_12, tl_13, tl_99, tn_1] at h1 ⊢) <;> omega))) (prg_0 (s := cv σ) hq (by omega) ht hn h2)) (cv_rd _ _ _ _ _) (by rw [mv_v6, mv_v0]) rfl) dX7_program_61
  · refine x_aload_n C 0 dX7_program_15 rfl rfl ?_
    refine x_ldc C dX7_program_16 kc_X7_96 ?_
    refine x_callVi C (As := [.int ((-1000002))]) (rest := []) (c_finding l E σ τ 1 (by decide) (-1000002) (by decide)) kv_X7_64 (x_recv C (Nat.le_of_ble_eq_true rfl) xd_0 rfl) ⟨Nat.le_of_ble_eq_true rfl, Nat.le_of_ble_eq_true rfl⟩ rfl rfl (Nat.le_of_ble_eq_true rfl) dX7_program_18 ?_
    exact x_oret C (cpost_of (V := u2 (cv σ) 2 1 (σ 4 1 + 1)) (if_neg (by first | assumption | ((try simp only [rng, mayQ, tI_lt, tI_eq, cvr_0, mvr_0, cvr_c, mvr_c, ruleQ, tn_999, tl_200, tl_999, bitsQ, tl_16, tl_32, tl_40, hasQ, tl_0, tl_1, tl_2, tl_3, tl_4, tl_5, tl_6, tl_7, tl_8, tl_9, tl_10, tl_11, tl_12, tl_13, tl_99, tn_1] at h1 ⊢) <;> omega))) (by rw [cv_u4]) (by rw [mv_u4]) rfl) dX7_program_21
