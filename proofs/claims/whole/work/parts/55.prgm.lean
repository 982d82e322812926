theorem eK_0 {g : Nat → Int32} {n : Nat} : eK g n 0 = 0 := rfl
theorem GK_0 {g : Nat → Int32} {n q : Nat} {G : Nat → Int32} : GK g n q G 0 = G := rfl
theorem GK_s {g : Nat → Int32} {n q k : Nat} {G : Nat → Int32} : GK g n q G (k + 1) = rdG q k (tV g n (eK g n k)) (nmD g n (eK g n k)) (GK g n q G k) := rfl
theorem rd_h0 {g : Nat → Int32} {n q : Nat} {G : Nat → Int32} : rdH g n q G 0 := rfl
theorem aftR_le {g : Nat → Int32} {n c e : Nat} (h : e ≤ n) : aftR g n c e ≤ n := by
  unfold aftR
  split
  · exact aft_le h
  · exact h
theorem rd_lim {g : Nat → Int32} {n q : Nat} {G : Nat → Int32} {k : Nat} (hk : k ≤ 12) (h : rdH g n q G k) (h1 : ¬ (k < 12 ∧ okD g n (eK g n k))) : rdP g n q 12 0 0 G = (nI (nB g n (aftR g n k (eK g n k))), aftR g n k (eK g n k), GK g n q G k) := by
  by_cases h12 : k < 12
  · rw [aftR_in h12]
    exact rd_no h12 h (fun z => h1 ⟨h12, z⟩)
  · rw [aftR_12 h12]
    exact rd_12 (by omega) h
set_option maxHeartbeats 4000000 in
set_option maxRecDepth 100000 in
theorem m_program (l : Launch) (E : xE) (σ : Nat → Nat → Int32) (τ : Nat → Int64) (T : Nat) (hT : T < 1073741824)  (hI : Inv (mv σ) T) (hlv : ∀ j, j < 12 → σ 15 j = (xzl 1).getD j 0) : xOi l yX8_program cX8_program 2 .int 7 152 E [.ref (xad E (81))] σ τ (mpost (sp_program (mv σ)) σ) := by
  refine xOi_of (own := RX8) (by decide +kernel) rfl (Nat.le_of_ble_eq_true rfl) ?_
  intro zp ze zs zm za zb zh zc C
  refine WM.to (lv1 := [(0, .ref (xad E (81)))]) (st1 := []) (σ1 := σ) (τ1 := τ) ?_ rfl rfl rfl rfl
  have hg : gI (σ 10) := hI.g
  have hgT : gT (σ 10) T := hI.t
  have h0 : 0 ≤ (σ 10 10).toInt := hI.h0
  obtain ⟨n, hn, ht⟩ := nI_is (x := σ 17 1) hI.2.2.1.1 (n := 100) hI.2.2.1.2 (by decide)
  have hcnt : 0 ≤ (σ 10 13).toInt ∧ (σ 10 13).toInt ≤ 6 := hI.1.2.2.1
  obtain ⟨g, hg⟩ : ∃ g, σ 16 = g := ⟨_, rfl⟩
  have hg9 := hg
  refine x_aload_n C 0 dX8_program_0 rfl rfl ?_
  refine x_get C (Nat.le_of_ble_eq_true rfl) xd_81 fl_X8_9 (q := (0, 82, 0)) (v := .ref (xad E (82))) rfl rfl dX8_program_1 ?_
  refine x_bipush C (v := 13) dX8_program_4 (by decide) ?_
  refine x_ald C (Nat.le_of_ble_eq_true rfl) xd_82 (v := σ 10 13) (vp_in_nI (show 13 < 284 by omega) (by decide)) (by rw [(show (13 : Int32).toNatClampNeg = 13 from by decide), Nat.zero_add, Nat.one_mul]) dX8_program_6 ?_
  refine x_bipush C (v := 6) dX8_program_7 (by decide) ?_
  refine x_icmp_ne C (tgt := 19) dX8_program_9 (by decide) (fun h1 => ?_) (fun h1 => ?_)
  · have hq5 : (σ 10 13).toInt ≤ 5 := by have h6 := h1; rw [tI_eq, tl_6] at h6; omega
    obtain ⟨q, hqb, hq⟩ := nI_is (x := σ 10 13) hcnt.1 (n := 5) hq5 (by decide)
    have hG0 : (upd (σ 10) (134 + 25 * q) 0) (134 + 25 * q) = nI 0 := upd_at _ _ _
    refine x_sipush C (v := 134) dX8_program_19 (by decide) ?_
    refine x_bipush C (v := 25) dX8_program_22 (by decide) ?_
    refine x_aload_n C 0 dX8_program_24 rfl rfl ?_
    refine x_get C (Nat.le_of_ble_eq_true rfl) xd_81 fl_X8_9 (q := (0, 82, 0)) (v := .ref (xad E (82))) rfl rfl dX8_program_25 ?_
    refine x_bipush C (v := 13) dX8_program_28 (by decide) ?_
    refine x_ald C (Nat.le_of_ble_eq_true rfl) xd_82 (v := nI q) (vp_in_nI (show 13 < 284 by omega) (by decide)) hq dX8_program_30 ?_
    refine x_imul C dX8_program_31 ?_
    refine WM.topi (y := nI (25 * q)) (pk_mul 25 q) ?_
    refine x_iadd C dX8_program_32 ?_
    refine WM.topi (y := nI (134 + (25 * q))) (nI_add 134 (25 * q)) ?_
    refine x_istore_n C (lv1 := [(1, .int (nI (134 + (25 * q)))), (0, .ref (xad E (81)))]) dX8_program_33 rfl (by decide) rfl ?_
    refine x_aload_n C 1 dX8_program_34 rfl rfl ?_
    refine x_get C (Nat.le_of_ble_eq_true rfl) xd_81 fl_X8_9 (q := (0, 82, 0)) (v := .ref (xad E (82))) rfl rfl dX8_program_35 ?_
    refine x_iload_n C 0 dX8_program_38 rfl rfl ?_
    refine x_iconst C (v := 0) dX8_program_39 (by decide) ?_
    refine x_ast C (σ' := u2 σ 10 (134 + (25 * q)) (0)) (Nat.le_of_ble_eq_true rfl) xd_82 (by decide) (vp_in_nI (show 134 + (25 * q) < 284 by omega) (by decide)) (by rw [(nI_clamp (show 134 + (25 * q) < 2 ^ 31 by omega)), Nat.zero_add, Nat.one_mul]) dX8_program_40 ?_
    refine x_aload_n C 1 dX8_program_41 rfl rfl ?_
    refine x_iconst C (v := 0) dX8_program_42 (by decide) ?_
    refine x_put C (σ' := u2 (u2 σ 10 (134 + (25 * q)) (0)) 17 2 (0)) (Nat.le_of_ble_eq_true rfl) xd_81 fp_X8_133 rfl rfl rfl rfl dX8_program_43 ?_
    refine x_aload_n C 1 dX8_program_46 rfl rfl ?_
    refine x_iconst C (v := 0) dX8_program_47 (by decide) ?_
    refine x_put C (σ' := u2 (u2 (u2 σ 10 (134 + (25 * q)) (0)) 17 2 (0)) 17 6 (0)) (Nat.le_of_ble_eq_true rfl) xd_81 fp_X8_200 rfl rfl rfl rfl dX8_program_48 ?_
    refine x_aload_n C 1 dX8_program_51 rfl rfl ?_
    refine x_callVv C (As := []) (rest := []) (c_look l E (u2 (u2 (u2 σ 10 (134 + (25 * q)) (0)) 17 2 (0)) 17 6 (0)) τ (0) g n hn (Eq.trans (Eq.trans (u2_bk_ne _ (c := 16) (b := 17) _ _ (by decide)) (Eq.trans (u2_bk_ne _ (c := 16) (b := 17) _ _ (by decide)) (u2_bk_ne _ (c := 16) (b := 10) _ _ (by decide)))) hg) (Eq.trans (Eq.trans (u2_ne (b := 17) (i := 6) (c := 17) (j := 1) (by decide)) (Eq.trans (u2_ne (b := 17) (i := 2) (c := 17) (j := 1) (by decide)) (u2_ne (b := 10) (i := 134 + (25 * q)) (c := 17) (j := 1) (by omega)))) ht) (Nat.zero_le _) (Eq.trans (u2_ne (b := 17) (i := 6) (c := 17) (j := 2) (by decide)) (u2_at _ _ _ _))) kv_X8_211 (x_recv C (Nat.le_of_ble_eq_true rfl) xd_81 rfl) ⟨Nat.le_of_ble_eq_true rfl, Nat.le_of_ble_eq_true rfl⟩ rfl rfl (Nat.le_of_ble_eq_true rfl) dX8_program_52 ?_
    refine WM.to (σ1 := va_up (va_up σ 10 (GK g n q (upd (σ 10) (134 + 25 * q) 0) 0)) 17 (lkT g n (eK g n 0) 0 (σ 17))) (τ1 := va_up τ 3 (ltW g n (eK g n 0))) ?_ (by rw [eK_0, GK_0]; exact lk0_n _ _ _ _) (by rw [eK_0]) rfl rfl
    refine x_aload_n C 1 dX8_program_55 rfl rfl ?_
    refine x_iload_n C 0 dX8_program_56 rfl rfl ?_
    refine x_callVv C (As := [.int (nI (134 + (25 * q)))]) (rest := []) (c_reads l E σ τ q (0) (eK g n 0) (by omega) (GK g n q (upd (σ 10) (134 + 25 * q) 0) 0) g n hn hg ht (eK_le g n 0) (GK_c hG0 0) (by omega)) kv_X8_220 (x_recv C (Nat.le_of_ble_eq_true rfl) xd_81 rfl) ⟨Nat.le_of_ble_eq_true rfl, Nat.le_of_ble_eq_true rfl⟩ rfl rfl (Nat.le_of_ble_eq_true rfl) dX8_program_57 ?_
    by_cases hr : 0 < 12 ∧ okD g n (eK g n 0)
    · refine WM.to (σ1 := va_up (va_up σ 10 (GK g n q (upd (σ 10) (134 + 25 * q) 0) (0 + 1))) 17 (lkT g n (aft g n (eK g n 0)) 0 (σ 17))) (τ1 := va_up τ 3 (ltW g n (aft g n (eK g n 0)))) ?_ (by rw [if_pos hr, if_pos hr, aftR_in (by decide), GK_s]) (by rw [aftR_in (by decide)]) rfl rfl
      have loop : ∀ (j k : Nat), j + k = 11 → (rdH g n q (upd (σ 10) (134 + 25 * q) 0) k ∧ okD g n (eK g n k)) → WM zp l ze { frames := 7, cells := 0, slots := 0, locals := 152 } zs zm za zb zh zc 0 0 (MQ zb (va_Qi (fun r (u : xV × (Nat → Int64)) => (mpost (sp_program (mv σ)) σ) r u.1) (fun u t => xP E u.1 u.2 t.heap) (xA E)) za zs 0 0 (xA E)) E (xA E) 2 (va_up (va_up σ 10 (GK g n q (upd (σ 10) (134 + 25 * q) 0) (k + 1))) 17 (lkT g n (aft g n (eK g n k)) 0 (σ 17))) (va_up τ 3 (ltW g n (aft g n (eK g n k)))) 60 [(0, .ref (xad E (81))), (1, .int (nI (134 + 25 * q)))] [] := by
        intro j
        induction j with
        | zero =>
          intro k hk hnf
          refine x_aload_n C 0 dX8_program_60 rfl rfl ?_
          refine x_get C (Nat.le_of_ble_eq_true rfl) xd_81 fl_X8_200 (q := (1, 17, 6)) (v := .int (0)) rfl (congrArg Value.int (congrFun (va_up_self _ _ _) _)) dX8_program_61 ?_
          refine x_if_ne C (tgt := 119) dX8_program_64 (by decide) (fun h2 => absurd h2 (by decide)) (fun h2 => ?_)
          refine x_aload_n C 0 dX8_program_67 rfl rfl ?_
          refine x_get C (Nat.le_of_ble_eq_true rfl) xd_81 fl_X8_146 (q := (1, 17, 4)) (v := .int (lkK g n (nB g n (aft g n (eK g n k))))) rfl (congrArg Value.int (congrFun (va_up_self _ _ _) _)) dX8_program_68 ?_
          have hal : aft g n (eK g n k) ≤ n := aft_le (eK_le g n k)
          have hbl := (nB_le (g := g) hal).2
          refine x_if_eq C (tgt := 119) dX8_program_71 (by decide) (fun h3 => ?_) (fun h3 => ?_)
          · refine x_aload_n C 0 dX8_program_119 rfl rfl ?_
            refine x_iconst C (v := 0) dX8_program_120 (by decide) ?_
            refine x_put C (σ' := va_up (va_up σ 10 (GK g n q (upd (σ 10) (134 + 25 * q) 0) (k + 1))) 17 (upd (lkT g n (aft g n (eK g n k)) 0 (σ 17)) 1 (0))) (Nat.le_of_ble_eq_true rfl) xd_81 fp_X8_129 rfl rfl rfl (u2_bank _ _ _ _ _) dX8_program_121 ?_
            refine x_aload_n C 0 dX8_program_124 rfl rfl ?_
            refine x_get C (Nat.le_of_ble_eq_true rfl) xd_81 fl_X8_200 (q := (1, 17, 6)) (v := .int (0)) rfl (congrArg Value.int (Eq.trans (congrFun (va_up_self _ _ _) _) (upd_ne (j := 6) (k := 1) (by decide)))) dX8_program_125 ?_
            refine x_if_eq C (tgt := 138) dX8_program_128 (by decide) (fun h4 => ?_) (fun h4 => absurd h4 (by decide))
            refine x_aload_n C 0 dX8_program_138 rfl rfl ?_
            refine x_get C (Nat.le_of_ble_eq_true rfl) xd_81 fl_X8_9 (q := (0, 82, 0)) (v := .ref (xad E (82))) rfl rfl dX8_program_139 ?_
            refine x_bipush C (v := 13) dX8_program_142 (by decide) ?_
            refine x_dup2 C dX8_program_144 rfl rfl ?_
            refine x_ald C (Nat.le_of_ble_eq_true rfl) xd_82 (v := (GK g n q (upd (σ 10) (134 + 25 * q) 0) (k + 1)) 13) (vp_in_nI (show 13 < 284 by omega) (by decide)) (by rw [(show (13 : Int32).toNatClampNeg = 13 from by decide), Nat.zero_add, Nat.one_mul]; exact (Eq.trans (congrFun (va_up_ne _ (j := 10) (k := 17) _ (by decide)) _) (congrFun (va_up_self _ _ _) _))) dX8_program_145 ?_
            refine x_iconst C (v := 1) dX8_program_146 (by decide) ?_
            refine x_iadd C dX8_program_147 ?_
            refine x_ast C (σ' := u2 (va_up (va_up σ 10 (GK g n q (upd (σ 10) (134 + 25 * q) 0) (k + 1))) 17 (upd (lkT g n (aft g n (eK g n k)) 0 (σ 17)) 1 (0))) 10 13 (((GK g n q (upd (σ 10) (134 + 25 * q) 0) (k + 1)) 13) + 1)) (Nat.le_of_ble_eq_true rfl) xd_82 (by decide) (vp_in_nI (show 13 < 284 by omega) (by decide)) (by rw [(show (13 : Int32).toNatClampNeg = 13 from by decide), Nat.zero_add, Nat.one_mul]) dX8_program_148 ?_
            refine x_aload_n C 0 dX8_program_149 rfl rfl ?_
            refine x_get C (Nat.le_of_ble_eq_true rfl) xd_81 fl_X8_9 (q := (0, 82, 0)) (v := .ref (xad E (82))) rfl rfl dX8_program_150 ?_
            refine x_bipush C (v := 13) dX8_program_153 (by decide) ?_
            refine x_ald C (Nat.le_of_ble_eq_true rfl) xd_82 (v := ((GK g n q (upd (σ 10) (134 + 25 * q) 0) (k + 1)) 13) + 1) (vp_in_nI (show 13 < 284 by omega) (by decide)) (by rw [(show (13 : Int32).toNatClampNeg = 13 from by decide), Nat.zero_add, Nat.one_mul]; exact (u2_at _ _ _ _)) dX8_program_155 ?_
            refine x_iconst C (v := 1) dX8_program_156 (by decide) ?_
            refine x_isub C dX8_program_157 ?_
            exact x_oret C (mpost_of (V := u2 (u2 (va_up (mv σ) 0 (GK g n q (upd (σ 10) (134 + 25 * q) 0) (k + 1))) 4 1 0) 0 13 ((GK g n q (upd (σ 10) (134 + 25 * q) 0) (k + 1)) 13 + 1)) (Eq.trans (if_pos (by first | assumption | ((try simp only [rng, mayQ, tI_lt, tI_eq, cvr_0, mvr_0, cvr_c, mvr_c, ruleQ, tn_999, tl_200, tl_999, bitsQ, tl_16, tl_32, tl_40, hasQ, tl_0, tl_1, tl_2, tl_3, tl_4, tl_5, tl_6, tl_7, tl_8, tl_9, tl_10, tl_11, tl_12, tl_13, tl_59, tl_99, tn_1] at h1 h3 ⊢) <;> omega))) (prg_1' (s := mv σ) hq hqb ht hn (by rw [show rdR (mv σ) n q = rdP g n q 12 0 0 (upd (σ 10) (134 + 25 * q) 0) from by rw [← hg9]; rfl]; exact rd_end (by omega) hnf.1 hnf.2 ((lk_0 hbl).mp h3)))) (by rw [mv_u10, mv_rd]) (by rw [cv_u10, cv_v17, cv_v10]) rfl) dX8_program_158
          · refine x_aload_n C 0 dX8_program_74 rfl rfl ?_
            refine x_aload_n C 0 dX8_program_75 rfl rfl ?_
            refine x_get C (Nat.le_of_ble_eq_true rfl) xd_81 fl_X8_146 (q := (1, 17, 4)) (v := .int (lkK g n (nB g n (aft g n (eK g n k))))) rfl (congrArg Value.int (congrFun (va_up_self _ _ _) _)) dX8_program_76 ?_
            refine x_iconst C (v := 3) dX8_program_79 (by decide) ?_
            refine x_icmp_ne C (tgt := 96) dX8_program_80 (by decide) (fun h5 => ?_) (fun h5 => ?_)
            · refine x_iconst C (v := 0) dX8_program_96 (by decide) ?_
              refine x_callVv C (As := [.int (0)]) (rest := []) (c_must0 l E (va_up (va_up σ 10 (GK g n q (upd (σ 10) (134 + 25 * q) 0) (k + 1))) 17 (lkT g n (aft g n (eK g n k)) 0 (σ 17))) (va_up τ 3 (ltW g n (aft g n (eK g n k))))) kv_X8_207 (x_recv C (Nat.le_of_ble_eq_true rfl) xd_81 rfl) ⟨Nat.le_of_ble_eq_true rfl, Nat.le_of_ble_eq_true rfl⟩ rfl rfl (Nat.le_of_ble_eq_true rfl) dX8_program_97 ?_
              refine WM.to (σ1 := va_up (va_up σ 10 (GK g n q (upd (σ 10) (134 + 25 * q) 0) (k + 1))) 17 (lkT g n (aft g n (eK g n k)) 1 (σ 17))) ?_ (lkT_w _ _ _ _ _ _ _) rfl rfl rfl
              refine x_aload_n C 0 dX8_program_100 rfl rfl ?_
              refine x_get C (Nat.le_of_ble_eq_true rfl) xd_81 fl_X8_200 (q := (1, 17, 6)) (v := .int (1)) rfl (congrArg Value.int (congrFun (va_up_self _ _ _) _)) dX8_program_101 ?_
              refine x_if_ne C (tgt := 60) dX8_program_104 (by decide) (fun h6 => ?_) (fun h6 => absurd h6 (by decide))
              refine x_aload_n C 0 dX8_program_60 rfl rfl ?_
              refine x_get C (Nat.le_of_ble_eq_true rfl) xd_81 fl_X8_200 (q := (1, 17, 6)) (v := .int (1)) rfl (congrArg Value.int (congrFun (va_up_self _ _ _) _)) dX8_program_61 ?_
              refine x_if_ne C (tgt := 119) dX8_program_64 (by decide) (fun h7 => ?_) (fun h7 => absurd h7 (by decide))
              refine x_aload_n C 0 dX8_program_119 rfl rfl ?_
              refine x_iconst C (v := 0) dX8_program_120 (by decide) ?_
              refine x_put C (σ' := va_up (va_up σ 10 (GK g n q (upd (σ 10) (134 + 25 * q) 0) (k + 1))) 17 (upd (lkT g n (aft g n (eK g n k)) 1 (σ 17)) 1 (0))) (Nat.le_of_ble_eq_true rfl) xd_81 fp_X8_129 rfl rfl rfl (u2_bank _ _ _ _ _) dX8_program_121 ?_
              refine x_aload_n C 0 dX8_program_124 rfl rfl ?_
              refine x_get C (Nat.le_of_ble_eq_true rfl) xd_81 fl_X8_200 (q := (1, 17, 6)) (v := .int (1)) rfl (congrArg Value.int (Eq.trans (congrFun (va_up_self _ _ _) _) (upd_ne (j := 6) (k := 1) (by decide)))) dX8_program_125 ?_
              refine x_if_eq C (tgt := 138) dX8_program_128 (by decide) (fun h8 => absurd h8 (by decide)) (fun h8 => ?_)
              refine x_iconst C (v := -1) dX8_program_131 (by decide) ?_
              refine x_aload_n C 0 dX8_program_132 rfl rfl ?_
              refine x_get C (Nat.le_of_ble_eq_true rfl) xd_81 fl_X8_136 (q := (1, 17, 3)) (v := .int (nI (nB g n (aft g n (eK g n k))))) rfl (congrArg Value.int (Eq.trans (congrFun (va_up_self _ _ _) _) (upd_ne (j := 3) (k := 1) (by decide)))) dX8_program_133 ?_
              refine x_isub C dX8_program_136 ?_
              exact x_oret C (mpost_of (V := u2 (va_up (mv σ) 0 (GK g n q (upd (σ 10) (134 + 25 * q) 0) (k + 1))) 4 1 0) (Eq.trans (if_pos (by first | assumption | ((try simp only [rng, mayQ, tI_lt, tI_eq, cvr_0, mvr_0, cvr_c, mvr_c, ruleQ, tn_999, tl_200, tl_999, bitsQ, tl_16, tl_32, tl_40, hasQ, tl_0, tl_1, tl_2, tl_3, tl_4, tl_5, tl_6, tl_7, tl_8, tl_9, tl_10, tl_11, tl_12, tl_13, tl_59, tl_99, tn_1] at h1 h3 h5 ⊢) <;> omega))) (prg_0' (s := mv σ) hq hqb ht hn hbl (by rw [show rdR (mv σ) n q = rdP g n q 12 0 0 (upd (σ 10) (134 + 25 * q) 0) from by rw [← hg9]; rfl]; exact (rd_sg (by omega) hnf.1 hnf.2 (fun z => h3 ((lk_0 hbl).mpr z)) (fun z => h5 (lk_k.2.2.mpr z.1)))))) (mv_rd _ _ _ _ _ _) (by rw [cv_v17, cv_v10]) rfl) dX8_program_137
            · refine x_aload_n C 0 dX8_program_83 rfl rfl ?_
              refine x_get C (Nat.le_of_ble_eq_true rfl) xd_81 fl_X8_143 (q := (1, 17, 5)) (v := .int (lkV g n (nB g n (aft g n (eK g n k))))) rfl (congrArg Value.int (congrFun (va_up_self _ _ _) _)) dX8_program_84 ?_
              refine x_bipush C (v := 59) dX8_program_87 (by decide) ?_
              refine x_icmp_ne C (tgt := 96) dX8_program_89 (by decide) (fun h9 => ?_) (fun h9 => ?_)
              · refine x_iconst C (v := 0) dX8_program_96 (by decide) ?_
                refine x_callVv C (As := [.int (0)]) (rest := []) (c_must0 l E (va_up (va_up σ 10 (GK g n q (upd (σ 10) (134 + 25 * q) 0) (k + 1))) 17 (lkT g n (aft g n (eK g n k)) 0 (σ 17))) (va_up τ 3 (ltW g n (aft g n (eK g n k))))) kv_X8_207 (x_recv C (Nat.le_of_ble_eq_true rfl) xd_81 rfl) ⟨Nat.le_of_ble_eq_true rfl, Nat.le_of_ble_eq_true rfl⟩ rfl rfl (Nat.le_of_ble_eq_true rfl) dX8_program_97 ?_
                refine WM.to (σ1 := va_up (va_up σ 10 (GK g n q (upd (σ 10) (134 + 25 * q) 0) (k + 1))) 17 (lkT g n (aft g n (eK g n k)) 1 (σ 17))) ?_ (lkT_w _ _ _ _ _ _ _) rfl rfl rfl
                refine x_aload_n C 0 dX8_program_100 rfl rfl ?_
                refine x_get C (Nat.le_of_ble_eq_true rfl) xd_81 fl_X8_200 (q := (1, 17, 6)) (v := .int (1)) rfl (congrArg Value.int (congrFun (va_up_self _ _ _) _)) dX8_program_101 ?_
                refine x_if_ne C (tgt := 60) dX8_program_104 (by decide) (fun h10 => ?_) (fun h10 => absurd h10 (by decide))
                refine x_aload_n C 0 dX8_program_60 rfl rfl ?_
                refine x_get C (Nat.le_of_ble_eq_true rfl) xd_81 fl_X8_200 (q := (1, 17, 6)) (v := .int (1)) rfl (congrArg Value.int (congrFun (va_up_self _ _ _) _)) dX8_program_61 ?_
                refine x_if_ne C (tgt := 119) dX8_program_64 (by decide) (fun h11 => ?_) (fun h11 => absurd h11 (by decide))
                refine x_aload_n C 0 dX8_program_119 rfl rfl ?_
                refine x_iconst C (v := 0) dX8_program_120 (by decide) ?_
                refine x_put C (σ' := va_up (va_up σ 10 (GK g n q (upd (σ 10) (134 + 25 * q) 0) (k + 1))) 17 (upd (lkT g n (aft g n (eK g n k)) 1 (σ 17)) 1 (0))) (Nat.le_of_ble_eq_true rfl) xd_81 fp_X8_129 rfl rfl rfl (u2_bank _ _ _ _ _) dX8_program_121 ?_
                refine x_aload_n C 0 dX8_program_124 rfl rfl ?_
                refine x_get C (Nat.le_of_ble_eq_true rfl) xd_81 fl_X8_200 (q := (1, 17, 6)) (v := .int (1)) rfl (congrArg Value.int (Eq.trans (congrFun (va_up_self _ _ _) _) (upd_ne (j := 6) (k := 1) (by decide)))) dX8_program_125 ?_
                refine x_if_eq C (tgt := 138) dX8_program_128 (by decide) (fun h12 => absurd h12 (by decide)) (fun h12 => ?_)
                refine x_iconst C (v := -1) dX8_program_131 (by decide) ?_
                refine x_aload_n C 0 dX8_program_132 rfl rfl ?_
                refine x_get C (Nat.le_of_ble_eq_true rfl) xd_81 fl_X8_136 (q := (1, 17, 3)) (v := .int (nI (nB g n (aft g n (eK g n k))))) rfl (congrArg Value.int (Eq.trans (congrFun (va_up_self _ _ _) _) (upd_ne (j := 3) (k := 1) (by decide)))) dX8_program_133 ?_
                refine x_isub C dX8_program_136 ?_
                exact x_oret C (mpost_of (V := u2 (va_up (mv σ) 0 (GK g n q (upd (σ 10) (134 + 25 * q) 0) (k + 1))) 4 1 0) (Eq.trans (if_pos (by first | assumption | ((try simp only [rng, mayQ, tI_lt, tI_eq, cvr_0, mvr_0, cvr_c, mvr_c, ruleQ, tn_999, tl_200, tl_999, bitsQ, tl_16, tl_32, tl_40, hasQ, tl_0, tl_1, tl_2, tl_3, tl_4, tl_5, tl_6, tl_7, tl_8, tl_9, tl_10, tl_11, tl_12, tl_13, tl_59, tl_99, tn_1] at h1 h3 h5 h9 ⊢) <;> omega))) (prg_0' (s := mv σ) hq hqb ht hn hbl (by rw [show rdR (mv σ) n q = rdP g n q 12 0 0 (upd (σ 10) (134 + 25 * q) 0) from by rw [← hg9]; rfl]; exact (rd_sg (by omega) hnf.1 hnf.2 (fun z => h3 ((lk_0 hbl).mpr z)) (fun z => h9 (Eq.trans (lk_s z.1) z.2)))))) (mv_rd _ _ _ _ _ _) (by rw [cv_v17, cv_v10]) rfl) dX8_program_137
              · refine x_iconst C (v := 1) dX8_program_92 (by decide) ?_
                refine x_goto2 C (tgt := 97) dX8_program_93 (by decide) ?_
                refine x_callVv C (As := [.int (1)]) (rest := []) (c_must1 l E (va_up (va_up σ 10 (GK g n q (upd (σ 10) (134 + 25 * q) 0) (k + 1))) 17 (lkT g n (aft g n (eK g n k)) 0 (σ 17))) (va_up τ 3 (ltW g n (aft g n (eK g n k)))) (congrFun (va_up_self _ _ _) _)) kv_X8_207 (x_recv C (Nat.le_of_ble_eq_true rfl) xd_81 rfl) ⟨Nat.le_of_ble_eq_true rfl, Nat.le_of_ble_eq_true rfl⟩ rfl rfl (Nat.le_of_ble_eq_true rfl) dX8_program_97 ?_
                refine x_aload_n C 0 dX8_program_100 rfl rfl ?_
                refine x_get C (Nat.le_of_ble_eq_true rfl) xd_81 fl_X8_200 (q := (1, 17, 6)) (v := .int (0)) rfl (congrArg Value.int (congrFun (va_up_self _ _ _) _)) dX8_program_101 ?_
                refine x_if_ne C (tgt := 60) dX8_program_104 (by decide) (fun h13 => absurd h13 (by decide)) (fun h13 => ?_)
                refine x_aload_n C 0 dX8_program_107 rfl rfl ?_
                refine x_callVv C (As := []) (rest := []) (c_look l E (va_up (va_up σ 10 (GK g n q (upd (σ 10) (134 + 25 * q) 0) (k + 1))) 17 (lkT g n (aft g n (eK g n k)) 0 (σ 17))) (va_up τ 3 (ltW g n (aft g n (eK g n k)))) (nx g n (aft g n (eK g n k))) g n hn (Eq.trans (Eq.trans (va_up_ne _ (j := 16) (k := 17) _ (by decide)) (va_up_ne _ (j := 16) (k := 10) _ (by decide))) hg) (Eq.trans (congrFun (va_up_self _ _ _) _) ht) (nx_le hal) (Eq.trans (congrFun (va_up_self _ _ _) _) (congrArg nI (lk_a (by rw [show tkT g n (nB g n (aft g n (eK g n k))) = 2 from lk_k.2.2.mp h5]; decide))))) kv_X8_211 (x_recv C (Nat.le_of_ble_eq_true rfl) xd_81 rfl) ⟨Nat.le_of_ble_eq_true rfl, Nat.le_of_ble_eq_true rfl⟩ rfl rfl (Nat.le_of_ble_eq_true rfl) dX8_program_108 ?_
                refine WM.to (σ1 := va_up (va_up σ 10 (GK g n q (upd (σ 10) (134 + 25 * q) 0) (k + 1))) 17 (lkT g n (nx g n (aft g n (eK g n k))) 0 (σ 17))) (τ1 := va_up τ 3 (ltW g n (nx g n (aft g n (eK g n k))))) ?_ (lkT_lkT _ _ _ _ _ _ _) (lkU _ _ _ _) rfl rfl
                refine x_aload_n C 0 dX8_program_111 rfl rfl ?_
                refine x_iload_n C 1 dX8_program_112 rfl rfl ?_
                refine x_callVv C (As := [.int (nI (134 + 25 * q))]) (rest := []) (c_reads l E σ τ q (k + 1) (eK g n (k + 1)) (by omega) (GK g n q (upd (σ 10) (134 + 25 * q) 0) (k + 1)) g n hn hg ht (eK_le g n (k + 1)) (GK_c hG0 (k + 1)) (by omega)) kv_X8_220 (x_recv C (Nat.le_of_ble_eq_true rfl) xd_81 rfl) ⟨Nat.le_of_ble_eq_true rfl, Nat.le_of_ble_eq_true rfl⟩ rfl rfl (Nat.le_of_ble_eq_true rfl) dX8_program_113 ?_
                by_cases hr : k + 1 < 12 ∧ okD g n (eK g n (k + 1))
                · exact absurd hr.1 (by omega)
                · have hHn := rdH_s (by omega) hnf.1 hnf.2 (fun z => h3 ((lk_0 hbl).mpr z)) ⟨lk_k.2.2.mp h5, Eq.trans (lk_s (lk_k.2.2.mp h5)).symm h9⟩
                  have hrd := rd_lim (by omega) hHn hr
                  refine WM.to (σ1 := va_up (va_up σ 10 (GK g n q (upd (σ 10) (134 + 25 * q) 0) (k + 1))) 17 (lkT g n (aftR g n (k + 1) (eK g n (k + 1))) 1 (σ 17))) (τ1 := va_up τ 3 (ltW g n (aftR g n (k + 1) (eK g n (k + 1))))) ?_ (by rw [if_neg hr, if_neg hr]) rfl rfl rfl
                  refine x_goto2 C (tgt := 60) dX8_program_116 (by decide) ?_
                  refine x_aload_n C 0 dX8_program_60 rfl rfl ?_
                  refine x_get C (Nat.le_of_ble_eq_true rfl) xd_81 fl_X8_200 (q := (1, 17, 6)) (v := .int (1)) rfl (congrArg Value.int (congrFun (va_up_self _ _ _) _)) dX8_program_61 ?_
                  refine x_if_ne C (tgt := 119) dX8_program_64 (by decide) (fun h14 => ?_) (fun h14 => absurd h14 (by decide))
                  refine x_aload_n C 0 dX8_program_119 rfl rfl ?_
                  refine x_iconst C (v := 0) dX8_program_120 (by decide) ?_
                  refine x_put C (σ' := va_up (va_up σ 10 (GK g n q (upd (σ 10) (134 + 25 * q) 0) (k + 1))) 17 (upd (lkT g n (aftR g n (k + 1) (eK g n (k + 1))) 1 (σ 17)) 1 (0))) (Nat.le_of_ble_eq_true rfl) xd_81 fp_X8_129 rfl rfl rfl (u2_bank _ _ _ _ _) dX8_program_121 ?_
                  refine x_aload_n C 0 dX8_program_124 rfl rfl ?_
                  refine x_get C (Nat.le_of_ble_eq_true rfl) xd_81 fl_X8_200 (q := (1, 17, 6)) (v := .int (1)) rfl (congrArg Value.int (Eq.trans (congrFun (va_up_self _ _ _) _) (upd_ne (j := 6) (k := 1) (by decide)))) dX8_program_125 ?_
                  refine x_if_eq C (tgt := 138) dX8_program_128 (by decide) (fun h15 => absurd h15 (by decide)) (fun h15 => ?_)
                  refine x_iconst C (v := -1) dX8_program_131 (by decide) ?_
                  refine x_aload_n C 0 dX8_program_132 rfl rfl ?_
                  refine x_get C (Nat.le_of_ble_eq_true rfl) xd_81 fl_X8_136 (q := (1, 17, 3)) (v := .int (nI (nB g n (aftR g n (k + 1) (eK g n (k + 1)))))) rfl (congrArg Value.int (Eq.trans (congrFun (va_up_self _ _ _) _) (upd_ne (j := 3) (k := 1) (by decide)))) dX8_program_133 ?_
                  refine x_isub C dX8_program_136 ?_
                  exact x_oret C (mpost_of (V := u2 (va_up (mv σ) 0 (GK g n q (upd (σ 10) (134 + 25 * q) 0) (k + 1))) 4 1 0) (Eq.trans (if_pos (by first | assumption | ((try simp only [rng, mayQ, tI_lt, tI_eq, cvr_0, mvr_0, cvr_c, mvr_c, ruleQ, tn_999, tl_200, tl_999, bitsQ, tl_16, tl_32, tl_40, hasQ, tl_0, tl_1, tl_2, tl_3, tl_4, tl_5, tl_6, tl_7, tl_8, tl_9, tl_10, tl_11, tl_12, tl_13, tl_59, tl_99, tn_1] at h1 h3 h5 h9 ⊢) <;> omega))) (prg_0' (s := mv σ) hq hqb ht hn (nB_le (aftR_le (eK_le _ _ _))).2 (by rw [show rdR (mv σ) n q = rdP g n q 12 0 0 (upd (σ 10) (134 + 25 * q) 0) from by rw [← hg9]; rfl]; exact hrd))) (mv_rd _ _ _ _ _ _) (by rw [cv_v17, cv_v10]) rfl) dX8_program_137
        | succ j ih =>
          intro k hk hnf
          refine x_aload_n C 0 dX8_program_60 rfl rfl ?_
          refine x_get C (Nat.le_of_ble_eq_true rfl) xd_81 fl_X8_200 (q := (1, 17, 6)) (v := .int (0)) rfl (congrArg Value.int (congrFun (va_up_self _ _ _) _)) dX8_program_61 ?_
          refine x_if_ne C (tgt := 119) dX8_program_64 (by decide) (fun h16 => absurd h16 (by decide)) (fun h16 => ?_)
          refine x_aload_n C 0 dX8_program_67 rfl rfl ?_
          refine x_get C (Nat.le_of_ble_eq_true rfl) xd_81 fl_X8_146 (q := (1, 17, 4)) (v := .int (lkK g n (nB g n (aft g n (eK g n k))))) rfl (congrArg Value.int (congrFun (va_up_self _ _ _) _)) dX8_program_68 ?_
          have hal : aft g n (eK g n k) ≤ n := aft_le (eK_le g n k)
          have hbl := (nB_le (g := g) hal).2
          refine x_if_eq C (tgt := 119) dX8_program_71 (by decide) (fun h17 => ?_) (fun h17 => ?_)
          · refine x_aload_n C 0 dX8_program_119 rfl rfl ?_
            refine x_iconst C (v := 0) dX8_program_120 (by decide) ?_
            refine x_put C (σ' := va_up (va_up σ 10 (GK g n q (upd (σ 10) (134 + 25 * q) 0) (k + 1))) 17 (upd (lkT g n (aft g n (eK g n k)) 0 (σ 17)) 1 (0))) (Nat.le_of_ble_eq_true rfl) xd_81 fp_X8_129 rfl rfl rfl (u2_bank _ _ _ _ _) dX8_program_121 ?_
            refine x_aload_n C 0 dX8_program_124 rfl rfl ?_
            refine x_get C (Nat.le_of_ble_eq_true rfl) xd_81 fl_X8_200 (q := (1, 17, 6)) (v := .int (0)) rfl (congrArg Value.int (Eq.trans (congrFun (va_up_self _ _ _) _) (upd_ne (j := 6) (k := 1) (by decide)))) dX8_program_125 ?_
            refine x_if_eq C (tgt := 138) dX8_program_128 (by decide) (fun h18 => ?_) (fun h18 => absurd h18 (by decide))
            refine x_aload_n C 0 dX8_program_138 rfl rfl ?_
            refine x_get C (Nat.le_of_ble_eq_true rfl) xd_81 fl_X8_9 (q := (0, 82, 0)) (v := .ref (xad E (82))) rfl rfl dX8_program_139 ?_
            refine x_bipush C (v := 13) dX8_program_142 (by decide) ?_
            refine x_dup2 C dX8_program_144 rfl rfl ?_
            refine x_ald C (Nat.le_of_ble_eq_true rfl) xd_82 (v := (GK g n q (upd (σ 10) (134 + 25 * q) 0) (k + 1)) 13) (vp_in_nI (show 13 < 284 by omega) (by decide)) (by rw [(show (13 : Int32).toNatClampNeg = 13 from by decide), Nat.zero_add, Nat.one_mul]; exact (Eq.trans (congrFun (va_up_ne _ (j := 10) (k := 17) _ (by decide)) _) (congrFun (va_up_self _ _ _) _))) dX8_program_145 ?_
            refine x_iconst C (v := 1) dX8_program_146 (by decide) ?_
            refine x_iadd C dX8_program_147 ?_
            refine x_ast C (σ' := u2 (va_up (va_up σ 10 (GK g n q (upd (σ 10) (134 + 25 * q) 0) (k + 1))) 17 (upd (lkT g n (aft g n (eK g n k)) 0 (σ 17)) 1 (0))) 10 13 (((GK g n q (upd (σ 10) (134 + 25 * q) 0) (k + 1)) 13) + 1)) (Nat.le_of_ble_eq_true rfl) xd_82 (by decide) (vp_in_nI (show 13 < 284 by omega) (by decide)) (by rw [(show (13 : Int32).toNatClampNeg = 13 from by decide), Nat.zero_add, Nat.one_mul]) dX8_program_148 ?_
            refine x_aload_n C 0 dX8_program_149 rfl rfl ?_
            refine x_get C (Nat.le_of_ble_eq_true rfl) xd_81 fl_X8_9 (q := (0, 82, 0)) (v := .ref (xad E (82))) rfl rfl dX8_program_150 ?_
            refine x_bipush C (v := 13) dX8_program_153 (by decide) ?_
            refine x_ald C (Nat.le_of_ble_eq_true rfl) xd_82 (v := ((GK g n q (upd (σ 10) (134 + 25 * q) 0) (k + 1)) 13) + 1) (vp_in_nI (show 13 < 284 by omega) (by decide)) (by rw [(show (13 : Int32).toNatClampNeg = 13 from by decide), Nat.zero_add, Nat.one_mul]; exact (u2_at _ _ _ _)) dX8_program_155 ?_
            refine x_iconst C (v := 1) dX8_program_156 (by decide) ?_
            refine x_isub C dX8_program_157 ?_
            exact x_oret C (mpost_of (V := u2 (u2 (va_up (mv σ) 0 (GK g n q (upd (σ 10) (134 + 25 * q) 0) (k + 1))) 4 1 0) 0 13 ((GK g n q (upd (σ 10) (134 + 25 * q) 0) (k + 1)) 13 + 1)) (Eq.trans (if_pos (by first | assumption | ((try simp only [rng, mayQ, tI_lt, tI_eq, cvr_0, mvr_0, cvr_c, mvr_c, ruleQ, tn_999, tl_200, tl_999, bitsQ, tl_16, tl_32, tl_40, hasQ, tl_0, tl_1, tl_2, tl_3, tl_4, tl_5, tl_6, tl_7, tl_8, tl_9, tl_10, tl_11, tl_12, tl_13, tl_59, tl_99, tn_1] at h1 h17 ⊢) <;> omega))) (prg_1' (s := mv σ) hq hqb ht hn (by rw [show rdR (mv σ) n q = rdP g n q 12 0 0 (upd (σ 10) (134 + 25 * q) 0) from by rw [← hg9]; rfl]; exact rd_end (by omega) hnf.1 hnf.2 ((lk_0 hbl).mp h17)))) (by rw [mv_u10, mv_rd]) (by rw [cv_u10, cv_v17, cv_v10]) rfl) dX8_program_158
          · refine x_aload_n C 0 dX8_program_74 rfl rfl ?_
            refine x_aload_n C 0 dX8_program_75 rfl rfl ?_
            refine x_get C (Nat.le_of_ble_eq_true rfl) xd_81 fl_X8_146 (q := (1, 17, 4)) (v := .int (lkK g n (nB g n (aft g n (eK g n k))))) rfl (congrArg Value.int (congrFun (va_up_self _ _ _) _)) dX8_program_76 ?_
            refine x_iconst C (v := 3) dX8_program_79 (by decide) ?_
            refine x_icmp_ne C (tgt := 96) dX8_program_80 (by decide) (fun h19 => ?_) (fun h19 => ?_)
            · refine x_iconst C (v := 0) dX8_program_96 (by decide) ?_
              refine x_callVv C (As := [.int (0)]) (rest := []) (c_must0 l E (va_up (va_up σ 10 (GK g n q (upd (σ 10) (134 + 25 * q) 0) (k + 1))) 17 (lkT g n (aft g n (eK g n k)) 0 (σ 17))) (va_up τ 3 (ltW g n (aft g n (eK g n k))))) kv_X8_207 (x_recv C (Nat.le_of_ble_eq_true rfl) xd_81 rfl) ⟨Nat.le_of_ble_eq_true rfl, Nat.le_of_ble_eq_true rfl⟩ rfl rfl (Nat.le_of_ble_eq_true rfl) dX8_program_97 ?_
              refine WM.to (σ1 := va_up (va_up σ 10 (GK g n q (upd (σ 10) (134 + 25 * q) 0) (k + 1))) 17 (lkT g n (aft g n (eK g n k)) 1 (σ 17))) ?_ (lkT_w _ _ _ _ _ _ _) rfl rfl rfl
              refine x_aload_n C 0 dX8_program_100 rfl rfl ?_
              refine x_get C (Nat.le_of_ble_eq_true rfl) xd_81 fl_X8_200 (q := (1, 17, 6)) (v := .int (1)) rfl (congrArg Value.int (congrFun (va_up_self _ _ _) _)) dX8_program_101 ?_
              refine x_if_ne C (tgt := 60) dX8_program_104 (by decide) (fun h20 => ?_) (fun h20 => absurd h20 (by decide))
              refine x_aload_n C 0 dX8_program_60 rfl rfl ?_
              refine x_get C (Nat.le_of_ble_eq_true rfl) xd_81 fl_X8_200 (q := (1, 17, 6)) (v := .int (1)) rfl (congrArg Value.int (congrFun (va_up_self _ _ _) _)) dX8_program_61 ?_
              refine x_if_ne C (tgt := 119) dX8_program_64 (by decide) (fun h21 => ?_) (fun h21 => absurd h21 (by decide))
              refine x_aload_n C 0 dX8_program_119 rfl rfl ?_
              refine x_iconst C (v := 0) dX8_program_120 (by decide) ?_
              refine x_put C (σ' := va_up (va_up σ 10 (GK g n q (upd (σ 10) (134 + 25 * q) 0) (k + 1))) 17 (upd (lkT g n (aft g n (eK g n k)) 1 (σ 17)) 1 (0))) (Nat.le_of_ble_eq_true rfl) xd_81 fp_X8_129 rfl rfl rfl (u2_bank _ _ _ _ _) dX8_program_121 ?_
              refine x_aload_n C 0 dX8_program_124 rfl rfl ?_
              refine x_get C (Nat.le_of_ble_eq_true rfl) xd_81 fl_X8_200 (q := (1, 17, 6)) (v := .int (1)) rfl (congrArg Value.int (Eq.trans (congrFun (va_up_self _ _ _) _) (upd_ne (j := 6) (k := 1) (by decide)))) dX8_program_125 ?_
              refine x_if_eq C (tgt := 138) dX8_program_128 (by decide) (fun h22 => absurd h22 (by decide)) (fun h22 => ?_)
              refine x_iconst C (v := -1) dX8_program_131 (by decide) ?_
              refine x_aload_n C 0 dX8_program_132 rfl rfl ?_
              refine x_get C (Nat.le_of_ble_eq_true rfl) xd_81 fl_X8_136 (q := (1, 17, 3)) (v := .int (nI (nB g n (aft g n (eK g n k))))) rfl (congrArg Value.int (Eq.trans (congrFun (va_up_self _ _ _) _) (upd_ne (j := 3) (k := 1) (by decide)))) dX8_program_133 ?_
              refine x_isub C dX8_program_136 ?_
              exact x_oret C (mpost_of (V := u2 (va_up (mv σ) 0 (GK g n q (upd (σ 10) (134 + 25 * q) 0) (k + 1))) 4 1 0) (Eq.trans (if_pos (by first | assumption | ((try simp only [rng, mayQ, tI_lt, tI_eq, cvr_0, mvr_0, cvr_c, mvr_c, ruleQ, tn_999, tl_200, tl_999, bitsQ, tl_16, tl_32, tl_40, hasQ, tl_0, tl_1, tl_2, tl_3, tl_4, tl_5, tl_6, tl_7, tl_8, tl_9, tl_10, tl_11, tl_12, tl_13, tl_59, tl_99, tn_1] at h1 h17 h19 ⊢) <;> omega))) (prg_0' (s := mv σ) hq hqb ht hn hbl (by rw [show rdR (mv σ) n q = rdP g n q 12 0 0 (upd (σ 10) (134 + 25 * q) 0) from by rw [← hg9]; rfl]; exact (rd_sg (by omega) hnf.1 hnf.2 (fun z => h17 ((lk_0 hbl).mpr z)) (fun z => h19 (lk_k.2.2.mpr z.1)))))) (mv_rd _ _ _ _ _ _) (by rw [cv_v17, cv_v10]) rfl) dX8_program_137
            · refine x_aload_n C 0 dX8_program_83 rfl rfl ?_
              refine x_get C (Nat.le_of_ble_eq_true rfl) xd_81 fl_X8_143 (q := (1, 17, 5)) (v := .int (lkV g n (nB g n (aft g n (eK g n k))))) rfl (congrArg Value.int (congrFun (va_up_self _ _ _) _)) dX8_program_84 ?_
              refine x_bipush C (v := 59) dX8_program_87 (by decide) ?_
              refine x_icmp_ne C (tgt := 96) dX8_program_89 (by decide) (fun h23 => ?_) (fun h23 => ?_)
              · refine x_iconst C (v := 0) dX8_program_96 (by decide) ?_
                refine x_callVv C (As := [.int (0)]) (rest := []) (c_must0 l E (va_up (va_up σ 10 (GK g n q (upd (σ 10) (134 + 25 * q) 0) (k + 1))) 17 (lkT g n (aft g n (eK g n k)) 0 (σ 17))) (va_up τ 3 (ltW g n (aft g n (eK g n k))))) kv_X8_207 (x_recv C (Nat.le_of_ble_eq_true rfl) xd_81 rfl) ⟨Nat.le_of_ble_eq_true rfl, Nat.le_of_ble_eq_true rfl⟩ rfl rfl (Nat.le_of_ble_eq_true rfl) dX8_program_97 ?_
                refine WM.to (σ1 := va_up (va_up σ 10 (GK g n q (upd (σ 10) (134 + 25 * q) 0) (k + 1))) 17 (lkT g n (aft g n (eK g n k)) 1 (σ 17))) ?_ (lkT_w _ _ _ _ _ _ _) rfl rfl rfl
                refine x_aload_n C 0 dX8_program_100 rfl rfl ?_
                refine x_get C (Nat.le_of_ble_eq_true rfl) xd_81 fl_X8_200 (q := (1, 17, 6)) (v := .int (1)) rfl (congrArg Value.int (congrFun (va_up_self _ _ _) _)) dX8_program_101 ?_
                refine x_if_ne C (tgt := 60) dX8_program_104 (by decide) (fun h24 => ?_) (fun h24 => absurd h24 (by decide))
                refine x_aload_n C 0 dX8_program_60 rfl rfl ?_
                refine x_get C (Nat.le_of_ble_eq_true rfl) xd_81 fl_X8_200 (q := (1, 17, 6)) (v := .int (1)) rfl (congrArg Value.int (congrFun (va_up_self _ _ _) _)) dX8_program_61 ?_
                refine x_if_ne C (tgt := 119) dX8_program_64 (by decide) (fun h25 => ?_) (fun h25 => absurd h25 (by decide))
                refine x_aload_n C 0 dX8_program_119 rfl rfl ?_
                refine x_iconst C (v := 0) dX8_program_120 (by decide) ?_
                refine x_put C (σ' := va_up (va_up σ 10 (GK g n q (upd (σ 10) (134 + 25 * q) 0) (k + 1))) 17 (upd (lkT g n (aft g n (eK g n k)) 1 (σ 17)) 1 (0))) (Nat.le_of_ble_eq_true rfl) xd_81 fp_X8_129 rfl rfl rfl (u2_bank _ _ _ _ _) dX8_program_121 ?_
                refine x_aload_n C 0 dX8_program_124 rfl rfl ?_
                refine x_get C (Nat.le_of_ble_eq_true rfl) xd_81 fl_X8_200 (q := (1, 17, 6)) (v := .int (1)) rfl (congrArg Value.int (Eq.trans (congrFun (va_up_self _ _ _) _) (upd_ne (j := 6) (k := 1) (by decide)))) dX8_program_125 ?_
                refine x_if_eq C (tgt := 138) dX8_program_128 (by decide) (fun h26 => absurd h26 (by decide)) (fun h26 => ?_)
                refine x_iconst C (v := -1) dX8_program_131 (by decide) ?_
                refine x_aload_n C 0 dX8_program_132 rfl rfl ?_
                refine x_get C (Nat.le_of_ble_eq_true rfl) xd_81 fl_X8_136 (q := (1, 17, 3)) (v := .int (nI (nB g n (aft g n (eK g n k))))) rfl (congrArg Value.int (Eq.trans (congrFun (va_up_self _ _ _) _) (upd_ne (j := 3) (k := 1) (by decide)))) dX8_program_133 ?_
                refine x_isub C dX8_program_136 ?_
                exact x_oret C (mpost_of (V := u2 (va_up (mv σ) 0 (GK g n q (upd (σ 10) (134 + 25 * q) 0) (k + 1))) 4 1 0) (Eq.trans (if_pos (by first | assumption | ((try simp only [rng, mayQ, tI_lt, tI_eq, cvr_0, mvr_0, cvr_c, mvr_c, ruleQ, tn_999, tl_200, tl_999, bitsQ, tl_16, tl_32, tl_40, hasQ, tl_0, tl_1, tl_2, tl_3, tl_4, tl_5, tl_6, tl_7, tl_8, tl_9, tl_10, tl_11, tl_12, tl_13, tl_59, tl_99, tn_1] at h1 h17 h19 h23 ⊢) <;> omega))) (prg_0' (s := mv σ) hq hqb ht hn hbl (by rw [show rdR (mv σ) n q = rdP g n q 12 0 0 (upd (σ 10) (134 + 25 * q) 0) from by rw [← hg9]; rfl]; exact (rd_sg (by omega) hnf.1 hnf.2 (fun z => h17 ((lk_0 hbl).mpr z)) (fun z => h23 (Eq.trans (lk_s z.1) z.2)))))) (mv_rd _ _ _ _ _ _) (by rw [cv_v17, cv_v10]) rfl) dX8_program_137
              · refine x_iconst C (v := 1) dX8_program_92 (by decide) ?_
                refine x_goto2 C (tgt := 97) dX8_program_93 (by decide) ?_
                refine x_callVv C (As := [.int (1)]) (rest := []) (c_must1 l E (va_up (va_up σ 10 (GK g n q (upd (σ 10) (134 + 25 * q) 0) (k + 1))) 17 (lkT g n (aft g n (eK g n k)) 0 (σ 17))) (va_up τ 3 (ltW g n (aft g n (eK g n k)))) (congrFun (va_up_self _ _ _) _)) kv_X8_207 (x_recv C (Nat.le_of_ble_eq_true rfl) xd_81 rfl) ⟨Nat.le_of_ble_eq_true rfl, Nat.le_of_ble_eq_true rfl⟩ rfl rfl (Nat.le_of_ble_eq_true rfl) dX8_program_97 ?_
                refine x_aload_n C 0 dX8_program_100 rfl rfl ?_
                refine x_get C (Nat.le_of_ble_eq_true rfl) xd_81 fl_X8_200 (q := (1, 17, 6)) (v := .int (0)) rfl (congrArg Value.int (congrFun (va_up_self _ _ _) _)) dX8_program_101 ?_
                refine x_if_ne C (tgt := 60) dX8_program_104 (by decide) (fun h27 => absurd h27 (by decide)) (fun h27 => ?_)
                refine x_aload_n C 0 dX8_program_107 rfl rfl ?_
                refine x_callVv C (As := []) (rest := []) (c_look l E (va_up (va_up σ 10 (GK g n q (upd (σ 10) (134 + 25 * q) 0) (k + 1))) 17 (lkT g n (aft g n (eK g n k)) 0 (σ 17))) (va_up τ 3 (ltW g n (aft g n (eK g n k)))) (nx g n (aft g n (eK g n k))) g n hn (Eq.trans (Eq.trans (va_up_ne _ (j := 16) (k := 17) _ (by decide)) (va_up_ne _ (j := 16) (k := 10) _ (by decide))) hg) (Eq.trans (congrFun (va_up_self _ _ _) _) ht) (nx_le hal) (Eq.trans (congrFun (va_up_self _ _ _) _) (congrArg nI (lk_a (by rw [show tkT g n (nB g n (aft g n (eK g n k))) = 2 from lk_k.2.2.mp h19]; decide))))) kv_X8_211 (x_recv C (Nat.le_of_ble_eq_true rfl) xd_81 rfl) ⟨Nat.le_of_ble_eq_true rfl, Nat.le_of_ble_eq_true rfl⟩ rfl rfl (Nat.le_of_ble_eq_true rfl) dX8_program_108 ?_
                refine WM.to (σ1 := va_up (va_up σ 10 (GK g n q (upd (σ 10) (134 + 25 * q) 0) (k + 1))) 17 (lkT g n (nx g n (aft g n (eK g n k))) 0 (σ 17))) (τ1 := va_up τ 3 (ltW g n (nx g n (aft g n (eK g n k))))) ?_ (lkT_lkT _ _ _ _ _ _ _) (lkU _ _ _ _) rfl rfl
                refine x_aload_n C 0 dX8_program_111 rfl rfl ?_
                refine x_iload_n C 1 dX8_program_112 rfl rfl ?_
                refine x_callVv C (As := [.int (nI (134 + 25 * q))]) (rest := []) (c_reads l E σ τ q (k + 1) (eK g n (k + 1)) (by omega) (GK g n q (upd (σ 10) (134 + 25 * q) 0) (k + 1)) g n hn hg ht (eK_le g n (k + 1)) (GK_c hG0 (k + 1)) (by omega)) kv_X8_220 (x_recv C (Nat.le_of_ble_eq_true rfl) xd_81 rfl) ⟨Nat.le_of_ble_eq_true rfl, Nat.le_of_ble_eq_true rfl⟩ rfl rfl (Nat.le_of_ble_eq_true rfl) dX8_program_113 ?_
                by_cases hr : k + 1 < 12 ∧ okD g n (eK g n (k + 1))
                · have hf := hr
                  have hHn := rdH_s (by omega) hnf.1 hnf.2 (fun z => h17 ((lk_0 hbl).mpr z)) ⟨lk_k.2.2.mp h19, Eq.trans (lk_s (lk_k.2.2.mp h19)).symm h23⟩
                  refine WM.to (σ1 := va_up (va_up σ 10 (GK g n q (upd (σ 10) (134 + 25 * q) 0) (k + 1 + 1))) 17 (lkT g n (aft g n (eK g n (k + 1))) 0 (σ 17))) (τ1 := va_up τ 3 (ltW g n (aft g n (eK g n (k + 1))))) ?_ (by rw [if_pos hr, if_pos hr, aftR_in hr.1, GK_s (k := k + 1)]) (by rw [aftR_in hr.1]) rfl rfl
                  refine x_goto2 C (tgt := 60) dX8_program_116 (by decide) ?_
                  refine WM.keep [0, 1] (lv' := [(0, .ref (xad E (81))), (1, .int (nI (134 + 25 * q)))]) rfl ?_
                  exact WM.to (ih (k + 1) (by omega) ⟨hHn, hr.2⟩) rfl rfl rfl rfl
                · have hHn := rdH_s (by omega) hnf.1 hnf.2 (fun z => h17 ((lk_0 hbl).mpr z)) ⟨lk_k.2.2.mp h19, Eq.trans (lk_s (lk_k.2.2.mp h19)).symm h23⟩
                  have hrd := rd_lim (by omega) hHn hr
                  refine WM.to (σ1 := va_up (va_up σ 10 (GK g n q (upd (σ 10) (134 + 25 * q) 0) (k + 1))) 17 (lkT g n (aftR g n (k + 1) (eK g n (k + 1))) 1 (σ 17))) (τ1 := va_up τ 3 (ltW g n (aftR g n (k + 1) (eK g n (k + 1))))) ?_ (by rw [if_neg hr, if_neg hr]) rfl rfl rfl
                  refine x_goto2 C (tgt := 60) dX8_program_116 (by decide) ?_
                  refine x_aload_n C 0 dX8_program_60 rfl rfl ?_
                  refine x_get C (Nat.le_of_ble_eq_true rfl) xd_81 fl_X8_200 (q := (1, 17, 6)) (v := .int (1)) rfl (congrArg Value.int (congrFun (va_up_self _ _ _) _)) dX8_program_61 ?_
                  refine x_if_ne C (tgt := 119) dX8_program_64 (by decide) (fun h28 => ?_) (fun h28 => absurd h28 (by decide))
                  refine x_aload_n C 0 dX8_program_119 rfl rfl ?_
                  refine x_iconst C (v := 0) dX8_program_120 (by decide) ?_
                  refine x_put C (σ' := va_up (va_up σ 10 (GK g n q (upd (σ 10) (134 + 25 * q) 0) (k + 1))) 17 (upd (lkT g n (aftR g n (k + 1) (eK g n (k + 1))) 1 (σ 17)) 1 (0))) (Nat.le_of_ble_eq_true rfl) xd_81 fp_X8_129 rfl rfl rfl (u2_bank _ _ _ _ _) dX8_program_121 ?_
                  refine x_aload_n C 0 dX8_program_124 rfl rfl ?_
                  refine x_get C (Nat.le_of_ble_eq_true rfl) xd_81 fl_X8_200 (q := (1, 17, 6)) (v := .int (1)) rfl (congrArg Value.int (Eq.trans (congrFun (va_up_self _ _ _) _) (upd_ne (j := 6) (k := 1) (by decide)))) dX8_program_125 ?_
                  refine x_if_eq C (tgt := 138) dX8_program_128 (by decide) (fun h29 => absurd h29 (by decide)) (fun h29 => ?_)
                  refine x_iconst C (v := -1) dX8_program_131 (by decide) ?_
                  refine x_aload_n C 0 dX8_program_132 rfl rfl ?_
                  refine x_get C (Nat.le_of_ble_eq_true rfl) xd_81 fl_X8_136 (q := (1, 17, 3)) (v := .int (nI (nB g n (aftR g n (k + 1) (eK g n (k + 1)))))) rfl (congrArg Value.int (Eq.trans (congrFun (va_up_self _ _ _) _) (upd_ne (j := 3) (k := 1) (by decide)))) dX8_program_133 ?_
                  refine x_isub C dX8_program_136 ?_
                  exact x_oret C (mpost_of (V := u2 (va_up (mv σ) 0 (GK g n q (upd (σ 10) (134 + 25 * q) 0) (k + 1))) 4 1 0) (Eq.trans (if_pos (by first | assumption | ((try simp only [rng, mayQ, tI_lt, tI_eq, cvr_0, mvr_0, cvr_c, mvr_c, ruleQ, tn_999, tl_200, tl_999, bitsQ, tl_16, tl_32, tl_40, hasQ, tl_0, tl_1, tl_2, tl_3, tl_4, tl_5, tl_6, tl_7, tl_8, tl_9, tl_10, tl_11, tl_12, tl_13, tl_59, tl_99, tn_1] at h1 h17 h19 h23 ⊢) <;> omega))) (prg_0' (s := mv σ) hq hqb ht hn (nB_le (aftR_le (eK_le _ _ _))).2 (by rw [show rdR (mv σ) n q = rdP g n q 12 0 0 (upd (σ 10) (134 + 25 * q) 0) from by rw [← hg9]; rfl]; exact hrd))) (mv_rd _ _ _ _ _ _) (by rw [cv_v17, cv_v10]) rfl) dX8_program_137
      refine WM.keep [1, 0] rfl ?_
      exact WM.to (loop (11) 0 (by omega) ⟨rd_h0, hr.2⟩) rfl rfl rfl rfl
    · have hrd := rd_lim (Nat.zero_le _) (rd_h0 (q := q) (G := (upd (σ 10) (134 + 25 * q) 0))) hr
      refine WM.to (σ1 := va_up (va_up σ 10 (GK g n q (upd (σ 10) (134 + 25 * q) 0) (0))) 17 (lkT g n (aftR g n (0) (eK g n (0))) 1 (σ 17))) (τ1 := va_up τ 3 (ltW g n (aftR g n (0) (eK g n (0))))) ?_ (by rw [if_neg hr, if_neg hr]) rfl rfl rfl
      refine x_aload_n C 1 dX8_program_60 rfl rfl ?_
      refine x_get C (Nat.le_of_ble_eq_true rfl) xd_81 fl_X8_200 (q := (1, 17, 6)) (v := .int (1)) rfl (congrArg Value.int (congrFun (va_up_self _ _ _) _)) dX8_program_61 ?_
      refine x_if_ne C (tgt := 119) dX8_program_64 (by decide) (fun h30 => ?_) (fun h30 => absurd h30 (by decide))
      refine x_aload_n C 1 dX8_program_119 rfl rfl ?_
      refine x_iconst C (v := 0) dX8_program_120 (by decide) ?_
      refine x_put C (σ' := va_up (va_up σ 10 (GK g n q (upd (σ 10) (134 + 25 * q) 0) (0))) 17 (upd (lkT g n (aftR g n (0) (eK g n (0))) 1 (σ 17)) 1 (0))) (Nat.le_of_ble_eq_true rfl) xd_81 fp_X8_129 rfl rfl rfl (u2_bank _ _ _ _ _) dX8_program_121 ?_
      refine x_aload_n C 1 dX8_program_124 rfl rfl ?_
      refine x_get C (Nat.le_of_ble_eq_true rfl) xd_81 fl_X8_200 (q := (1, 17, 6)) (v := .int (1)) rfl (congrArg Value.int (Eq.trans (congrFun (va_up_self _ _ _) _) (upd_ne (j := 6) (k := 1) (by decide)))) dX8_program_125 ?_
      refine x_if_eq C (tgt := 138) dX8_program_128 (by decide) (fun h31 => absurd h31 (by decide)) (fun h31 => ?_)
      refine x_iconst C (v := -1) dX8_program_131 (by decide) ?_
      refine x_aload_n C 1 dX8_program_132 rfl rfl ?_
      refine x_get C (Nat.le_of_ble_eq_true rfl) xd_81 fl_X8_136 (q := (1, 17, 3)) (v := .int (nI (nB g n (aftR g n (0) (eK g n (0)))))) rfl (congrArg Value.int (Eq.trans (congrFun (va_up_self _ _ _) _) (upd_ne (j := 3) (k := 1) (by decide)))) dX8_program_133 ?_
      refine x_isub C dX8_program_136 ?_
      exact x_oret C (mpost_of (V := u2 (va_up (mv σ) 0 (GK g n q (upd (σ 10) (134 + 25 * q) 0) (0))) 4 1 0) (Eq.trans (if_pos (by first | assumption | ((try simp only [rng, mayQ, tI_lt, tI_eq, cvr_0, mvr_0, cvr_c, mvr_c, ruleQ, tn_999, tl_200, tl_999, bitsQ, tl_16, tl_32, tl_40, hasQ, tl_0, tl_1, tl_2, tl_3, tl_4, tl_5, tl_6, tl_7, tl_8, tl_9, tl_10, tl_11, tl_12, tl_13, tl_59, tl_99, tn_1] at h1 ⊢) <;> omega))) (prg_0' (s := mv σ) hq hqb ht hn (nB_le (aftR_le (eK_le _ _ _))).2 (by rw [show rdR (mv σ) n q = rdP g n q 12 0 0 (upd (σ 10) (134 + 25 * q) 0) from by rw [← hg9]; rfl]; exact hrd))) (mv_rd _ _ _ _ _ _) (by rw [cv_v17, cv_v10]) rfl) dX8_program_137
  · refine x_aload_n C 0 dX8_program_12 rfl rfl ?_
    refine x_ldc C dX8_program_13 kc_X8_85 ?_
    refine x_callVi C (As := [.int ((-1000002))]) (rest := []) (c_finds l E σ τ 1 (by decide) (-1000002) (by decide)) kv_X8_61 (x_recv C (Nat.le_of_ble_eq_true rfl) xd_81 rfl) ⟨Nat.le_of_ble_eq_true rfl, Nat.le_of_ble_eq_true rfl⟩ rfl rfl (Nat.le_of_ble_eq_true rfl) dX8_program_15 ?_
    exact x_oret C (mpost_of (V := u2 (mv σ) 2 1 (σ 14 1 + 1)) (if_neg (by first | assumption | ((try simp only [rng, mayQ, tI_lt, tI_eq, cvr_0, mvr_0, cvr_c, mvr_c, ruleQ, tn_999, tl_200, tl_999, bitsQ, tl_16, tl_32, tl_40, hasQ, tl_0, tl_1, tl_2, tl_3, tl_4, tl_5, tl_6, tl_7, tl_8, tl_9, tl_10, tl_11, tl_12, tl_13, tl_59, tl_99, tn_1] at h1 ⊢) <;> omega))) (by rw [mv_u14]) (by rw [cv_u14]) rfl) dX8_program_18
