/-! the tape takes bytes -/
def fW (bt bc : Nat) (b : Int32) (q t : Nat) (σ : xV) : Nat → xV
  | 0 => σ
  | j + 1 => u2 (u2 (fW bt bc b q t σ j) bt (t + j) (byteK b (q - 1 - j))) bc 1 (nI (t + j + 1))
theorem fW_sz {bt bc : Nat} {b : Int32} {q t : Nat} {σ : xV} (ht : σ bc 1 = nI t) : ∀ k, fW bt bc b q t σ k bc 1 = nI (t + k)
  | 0 => ht
  | k + 1 => u2_at _ _ _ _
theorem cv_fW (b : Int32) (q t : Nat) (σ : xV) : ∀ k, cv (fW 5 6 b q t σ k) = feedK b q t (cv σ) k
  | 0 => rfl
  | k + 1 => by
    unfold fW feedK
    rw [cv_u6_1, cv_u5, cv_fW b q t σ k]
theorem mv_fW (b : Int32) (q t : Nat) (σ : xV) : ∀ k, mv (fW 16 17 b q t σ k) = feedK b q t (mv σ) k
  | 0 => rfl
  | k + 1 => by
    unfold fW feedK
    rw [mv_u17_1, mv_u16, mv_fW b q t σ k]
theorem cv_fW2 (b : Int32) (q t : Nat) (σ : xV) : ∀ k, mv (fW 5 6 b q t σ k) = mv σ
  | 0 => rfl
  | k + 1 => by
    unfold fW
    rw [mv_u6, mv_u5, cv_fW2 b q t σ k]
theorem mv_fW2 (b : Int32) (q t : Nat) (σ : xV) : ∀ k, cv (fW 16 17 b q t σ k) = cv σ
  | 0 => rfl
  | k + 1 => by
    unfold fW
    rw [cv_u17, cv_u16, mv_fW2 b q t σ k]
theorem cv_fWl (b : Int32) (q t : Nat) (σ : xV) : ∀ k, (fW 5 6 b q t σ k) 15 = σ 15
  | 0 => rfl
  | k + 1 => cv_fWl b q t σ k
theorem mv_fWl (b : Int32) (q t : Nat) (σ : xV) : ∀ k, (fW 16 17 b q t σ k) 15 = σ 15
  | 0 => rfl
  | k + 1 => mv_fWl b q t σ k
def dnI (q k : Nat) : Int32 := nI q - 1 - nI k
theorem dn_nat {q k : Nat} (h : k < q) : dnI q k = nI (q - 1 - k) := by
  unfold dnI
  rw [show nI q - 1 = nI (q - 1) from pk_sub (b := 1) (by omega), pk_sub (by omega)]
theorem dn_s (q k : Nat) : dnI q k + (-1) = dnI q (k + 1) := by
  unfold dnI
  rw [← nI_add k 1, Int32.sub_eq_add_neg (nI q - 1) (nI k), Int32.sub_eq_add_neg (nI q - 1) (nI k + nI 1), Int32.neg_add, Int32.sub_eq_add_neg (-nI k), Int32.add_assoc]
  rfl
theorem dn_0 {q k : Nat} (h : k = q) : dnI q k < 0 := by
  subst h
  unfold dnI
  have e : nI k - 1 - nI k = -1 := by
    rw [Int32.sub_eq_add_neg, Int32.sub_eq_add_neg, Int32.add_comm (nI k), Int32.add_assoc, Int32.add_right_neg, Int32.add_zero]
  rw [e]
  decide
theorem dn_lt {q k : Nat} (h : k < q) (hq : q < 2 ^ 31) : ¬ dnI q k < 0 := by
  rw [dn_nat h]
  exact nI_pos (by omega)
theorem dn_mul {q k : Nat} (h : k < q) : 8 * dnI q k = nI (8 * (q - 1 - k)) := by
  rw [dn_nat h]
  exact pk_mul 8 _
theorem dn_st {q : Nat} (h : 1 ≤ q) : nI (q - 1) = dnI q 0 := by
  rw [dn_nat (by omega)]
  rfl
theorem feed_eq {b : Int32} {q t k : Nat} {s : xV} (ht : s 4 1 = nI t) (h1 : q < 2 ^ 31) (h2 : t < 2 ^ 31) (hk : k = q) : feedS b (nI q).toNatClampNeg s = (nI (t + k), feedK b q t s k) := by
  subst hk
  unfold feedS
  rw [nI_clamp h1, ht, nI_clamp h2]
set_option maxHeartbeats 4000000 in
set_option maxRecDepth 100000 in
theorem c_append (l : Launch) (E : xE) (σ : Nat → Nat → Int32) (τ : Nat → Int64) (x : Int32) (t : Nat) (htb : t < 100) (ht : σ 6 1 = nI t) : xMv l yX4_append cX4_append 2 1 22 E [.ref (xad E (55)), .int (x)] (σ) (τ) (u2 (u2 σ 5 t (x &&& 255)) 6 1 (nI (t + 1))) (τ) := by
  refine xMv_of (own := RX4) (by decide +kernel) rfl (Nat.le_of_ble_eq_true rfl) ?_
  intro zp ze zs zm za zb zh zc C
  refine WM.to (lv1 := [(0, .ref (xad E (55))), (1, .int (x))]) (st1 := []) (σ1 := σ) (τ1 := τ) ?_ rfl rfl rfl rfl
  refine x_aload_n C 0 dX4_append_0 rfl rfl ?_
  refine x_get C (Nat.le_of_ble_eq_true rfl) xd_55 fl_X4_13 (q := (1, 6, 1)) (v := .int (nI t)) rfl (congrArg Value.int ht) dX4_append_1 ?_
  refine x_iconst C (v := 0) dX4_append_4 (by decide) ?_
  refine x_bipush C (v := 99) dX4_append_5 (by decide) ?_
  refine x_callNi C (As := [.int (nI t), .int (0), .int (99)]) (rest := []) (c_within l E σ τ (nI t) 0 99) kn_X4_17 ⟨Nat.le_of_ble_eq_true rfl, Nat.le_of_ble_eq_true rfl⟩ rfl rfl (Nat.le_of_ble_eq_true rfl) dX4_append_7 ?_
  refine x_ifeqB C (tgt := 37) dX4_append_10 (by decide) (fun h1 => absurd (rng_nI (b := 99) (by omega) (by decide)) h1) (fun h1 => ?_)
  refine x_aload_n C 0 dX4_append_13 rfl rfl ?_
  refine x_get C (Nat.le_of_ble_eq_true rfl) xd_55 fl_X4_9 (q := (0, 56, 0)) (v := .ref (xad E (56))) rfl rfl dX4_append_14 ?_
  refine x_aload_n C 0 dX4_append_17 rfl rfl ?_
  refine x_get C (Nat.le_of_ble_eq_true rfl) xd_55 fl_X4_13 (q := (1, 6, 1)) (v := .int (nI t)) rfl (congrArg Value.int ht) dX4_append_18 ?_
  refine x_iload_n C 1 dX4_append_21 rfl rfl ?_
  refine x_sipush C (v := 255) dX4_append_22 (by decide) ?_
  refine x_iand C dX4_append_25 ?_
  refine x_ast C (σ' := u2 σ 5 t (x &&& 255)) (Nat.le_of_ble_eq_true rfl) xd_56 (by decide) (vp_in_nI (show t < 100 by omega) (by decide)) (by rw [(nI_clamp (show t < 2 ^ 31 by omega)), Nat.zero_add, Nat.one_mul]) dX4_append_26 ?_
  refine x_aload_n C 0 dX4_append_27 rfl rfl ?_
  refine x_dup C dX4_append_28 rfl ?_
  refine x_get C (Nat.le_of_ble_eq_true rfl) xd_55 fl_X4_13 (q := (1, 6, 1)) (v := .int (nI t)) rfl (congrArg Value.int (Eq.trans (u2_ne (b := 5) (i := t) (c := 6) (j := 1) (by omega)) ht)) dX4_append_29 ?_
  refine x_iconst C (v := 1) dX4_append_32 (by decide) ?_
  refine x_iadd C dX4_append_33 ?_
  refine WM.topi (y := nI (t + 1)) (nI_add t 1) ?_
  refine x_put C (σ' := u2 (u2 σ 5 t (x &&& 255)) 6 1 (nI (t + 1))) (Nat.le_of_ble_eq_true rfl) xd_55 fp_X4_13 rfl rfl rfl rfl dX4_append_34 ?_
  exact x_vret C rfl rfl dX4_append_37
set_option maxHeartbeats 4000000 in
set_option maxRecDepth 100000 in
theorem k_feed (l : Launch) (E : xE) (σ : Nat → Nat → Int32) (τ : Nat → Int64) (T : Nat) (hT : T < 1073741824) (b n : Int32) (hI : Inv (cv σ) T) : xOi l yX7_feed cX7_feed 4 .int 2 44 E [.ref (xad E (0)), .int (b), .int (n)] σ τ (cpost (sp_feed b n (cv σ)) σ) := by
  refine xOi_of (own := RX7) (by decide +kernel) rfl (Nat.le_of_ble_eq_true rfl) ?_
  intro zp ze zs zm za zb zh zc C
  refine WM.to (lv1 := [(0, .ref (xad E (0))), (1, .int (b)), (2, .int (n))]) (st1 := []) (σ1 := σ) (τ1 := τ) ?_ rfl rfl rfl rfl
  have hg : gI (σ 0) := hI.g
  have hgT : gT (σ 0) T := hI.t
  have h0 : 0 ≤ (σ 0 10).toInt := hI.h0
  obtain ⟨t, htb, ht⟩ := nI_is (x := σ 6 1) hI.2.2.1.1 (n := 100) hI.2.2.1.2 (by decide)
  refine x_iload_n C 2 dX7_feed_0 rfl rfl ?_
  refine x_iconst C (v := 1) dX7_feed_1 (by decide) ?_
  refine x_iconst C (v := 4) dX7_feed_2 (by decide) ?_
  refine x_callSi C (As := [.int (n), .int (1), .int (4)]) (rest := []) (c_within l E σ τ n 1 4) ks_X7_59 ⟨Nat.le_of_ble_eq_true rfl, Nat.le_of_ble_eq_true rfl⟩ rfl rfl (Nat.le_of_ble_eq_true rfl) dX7_feed_3 ?_
  refine x_ifneB C (tgt := 16) dX7_feed_6 (by decide) (fun h1 => ?_) (fun h1 => ?_)
  · obtain ⟨q, hqa, hqb, rfl⟩ := rngN (a := 1) (b := 4) h1 (by decide) (by decide) (by decide)
    refine x_aload_n C 0 dX7_feed_16 rfl rfl ?_
    refine x_get C (Nat.le_of_ble_eq_true rfl) xd_0 fl_X7_30 (q := (0, 55, 0)) (v := .ref (xad E (55))) rfl rfl dX7_feed_17 ?_
    refine x_get C (Nat.le_of_ble_eq_true rfl) xd_55 fl_X7_155 (q := (1, 6, 1)) (v := .int (nI t)) rfl (congrArg Value.int ht) dX7_feed_20 ?_
    refine x_iload_n C 2 dX7_feed_23 rfl rfl ?_
    refine x_iadd C dX7_feed_24 ?_
    refine WM.topi (y := nI (t + q)) (nI_add t q) ?_
    refine x_bipush C (v := 100) dX7_feed_25 (by decide) ?_
    refine x_icmp_le C (tgt := 37) dX7_feed_27 (by decide) (fun h2 => ?_) (fun h2 => ?_)
    · have hfit : t + q ≤ 100 := (le_nI (by omega) (by decide)).mp h2
      refine x_iload_n C 2 dX7_feed_37 rfl rfl ?_
      refine x_iconst C (v := 1) dX7_feed_38 (by decide) ?_
      refine x_isub C dX7_feed_39 ?_
      refine WM.topi (y := nI (q - 1)) (pk_sub (b := 1) (by omega)) ?_
      refine x_istore_n C (lv1 := [(3, .int (nI (q - 1))), (0, .ref (xad E (0))), (1, .int (b)), (2, .int (nI q))]) dX7_feed_40 rfl (by decide) rfl ?_
      have loop : ∀ (j k : Nat), j + k = q → WM zp l ze { frames := 2, cells := 0, slots := 0, locals := 44 } zs zm za zb zh zc 0 0 (MQ zb (va_Qi (fun r (u : xV × (Nat → Int64)) => (cpost (sp_feed b (nI q) (cv σ)) σ) r u.1) (fun u t => xP E u.1 u.2 t.heap) (xA E)) za zs 0 0 (xA E)) E (xA E) 4 (fW 5 6 b q t σ k) (τ) 41 [(0, .ref (xad E (0))), (1, .int (b)), (2, .int (nI q)), (3, .int (dnI q k))] [] := by
        intro j
        induction j with
        | zero =>
          intro k hk
          refine x_iload_n C 3 dX7_feed_41 rfl rfl ?_
          refine x_if_lt C (tgt := 64) dX7_feed_42 (by decide) (fun h3 => ?_) (fun h3 => absurd (dn_0 (by omega)) h3)
          refine x_aload_n C 0 dX7_feed_64 rfl rfl ?_
          refine x_get C (Nat.le_of_ble_eq_true rfl) xd_0 fl_X7_30 (q := (0, 55, 0)) (v := .ref (xad E (55))) rfl rfl dX7_feed_65 ?_
          refine x_get C (Nat.le_of_ble_eq_true rfl) xd_55 fl_X7_155 (q := (1, 6, 1)) (v := .int (nI (t + k))) rfl (congrArg Value.int (fW_sz ht k)) dX7_feed_68 ?_
          exact x_oret C (cpost_of (V := feedK b q t (cv σ) k) (Eq.trans (if_pos (by first | assumption | ((try simp only [rng, mayQ, tI_lt, tI_eq, cvr_0, mvr_0, cvr_c, mvr_c, ruleQ, tn_999, tl_200, tl_999, tl_0, tl_1, tl_2, tl_3, tl_4, tl_5, tl_6, tl_7, tl_8, tl_9, tl_10, tl_11, tl_12, tl_13, tl_99, tl_100] at h1 ⊢) <;> omega))) (Eq.trans (if_neg (by show ¬ 100 < σ 6 1 + nI q; rw [ht, nI_add]; exact h2)) (feed_eq ht (by omega) (by omega) (by omega)))) (cv_fW b q t σ k) (cv_fW2 b q t σ k) (cv_fWl b q t σ k)) dX7_feed_71
        | succ j ih =>
          intro k hk
          refine x_iload_n C 3 dX7_feed_41 rfl rfl ?_
          refine x_if_lt C (tgt := 64) dX7_feed_42 (by decide) (fun h4 => absurd h4 (dn_lt (by omega) (by omega))) (fun h4 => ?_)
          refine x_aload_n C 0 dX7_feed_45 rfl rfl ?_
          refine x_get C (Nat.le_of_ble_eq_true rfl) xd_0 fl_X7_30 (q := (0, 55, 0)) (v := .ref (xad E (55))) rfl rfl dX7_feed_46 ?_
          refine x_iload_n C 1 dX7_feed_49 rfl rfl ?_
          refine x_bipush C (v := 8) dX7_feed_50 (by decide) ?_
          refine x_iload_n C 3 dX7_feed_52 rfl rfl ?_
          refine x_imul C dX7_feed_53 ?_
          refine WM.topi (y := nI (8 * (q - 1 - k))) (dn_mul (by omega)) ?_
          refine x_ishr C dX7_feed_54 ?_
          refine x_callVv C (As := [.int (b >>> ((nI (8 * (q - 1 - k))) &&& 31))]) (rest := []) (c_append l E (fW 5 6 b q t σ k) τ (b >>> ((nI (8 * (q - 1 - k))) &&& 31)) (t + k) (by omega) (fW_sz ht k)) kv_X7_160 (x_recv C (Nat.le_of_ble_eq_true rfl) xd_55 rfl) ⟨Nat.le_of_ble_eq_true rfl, Nat.le_of_ble_eq_true rfl⟩ rfl rfl (Nat.le_of_ble_eq_true rfl) dX7_feed_55 ?_
          refine x_iinc C (v := dnI q (k + 1)) (lv1 := [(3, .int (dnI q (k + 1))), (0, .ref (xad E (0))), (1, .int (b)), (2, .int (nI q))]) 3 dX7_feed_58 rfl (dn_s q k) (by decide) rfl ?_
          refine x_goto2 C (tgt := 41) dX7_feed_61 (by decide) ?_
          refine WM.keep [1, 2, 3, 0] (lv' := [(0, .ref (xad E (0))), (1, .int (b)), (2, .int (nI q)), (3, .int (dnI q (k + 1)))]) rfl ?_
          exact WM.to (ih (k + 1) (by omega)) rfl rfl rfl rfl
      refine WM.keep [1, 2, 3, 0] rfl ?_
      exact WM.to (loop (q) 0 (by omega)) rfl rfl (by rw [dn_st (q := q) (by omega)]; rfl) rfl
    · refine x_aload_n C 0 dX7_feed_30 rfl rfl ?_
      refine x_ldc C dX7_feed_31 kc_X7_96 ?_
      refine x_callVi C (As := [.int ((-1000002))]) (rest := []) (c_finding l E σ τ 1 (by decide) (-1000002) (by decide)) kv_X7_64 (x_recv C (Nat.le_of_ble_eq_true rfl) xd_0 rfl) ⟨Nat.le_of_ble_eq_true rfl, Nat.le_of_ble_eq_true rfl⟩ rfl rfl (Nat.le_of_ble_eq_true rfl) dX7_feed_33 ?_
      exact x_oret C (cpost_of (V := u2 (cv σ) 2 1 (σ 4 1 + 1)) (Eq.trans (if_pos (by first | assumption | ((try simp only [rng, mayQ, tI_lt, tI_eq, cvr_0, mvr_0, cvr_c, mvr_c, ruleQ, tn_999, tl_200, tl_999, tl_0, tl_1, tl_2, tl_3, tl_4, tl_5, tl_6, tl_7, tl_8, tl_9, tl_10, tl_11, tl_12, tl_13, tl_99, tl_100] at h1 ⊢) <;> omega))) (if_pos (by show 100 < σ 6 1 + nI q; rw [ht, nI_add]; exact h2))) (by rw [cv_u4]) (by rw [mv_u4]) rfl) dX7_feed_36
  · refine x_aload_n C 0 dX7_feed_9 rfl rfl ?_
    refine x_ldc C dX7_feed_10 kc_X7_63 ?_
    refine x_callVi C (As := [.int ((-1000001))]) (rest := []) (c_finding l E σ τ 0 (by decide) (-1000001) (by decide)) kv_X7_64 (x_recv C (Nat.le_of_ble_eq_true rfl) xd_0 rfl) ⟨Nat.le_of_ble_eq_true rfl, Nat.le_of_ble_eq_true rfl⟩ rfl rfl (Nat.le_of_ble_eq_true rfl) dX7_feed_12 ?_
    exact x_oret C (cpost_of (V := u2 (cv σ) 2 0 (σ 4 0 + 1)) (if_neg (by first | assumption | ((try simp only [rng, mayQ, tI_lt, tI_eq, cvr_0, mvr_0, cvr_c, mvr_c, ruleQ, tn_999, tl_200, tl_999, tl_0, tl_1, tl_2, tl_3, tl_4, tl_5, tl_6, tl_7, tl_8, tl_9, tl_10, tl_11, tl_12, tl_13, tl_99, tl_100] at h1 ⊢) <;> omega))) (by rw [cv_u4]) (by rw [mv_u4]) rfl) dX7_feed_15
set_option maxHeartbeats 4000000 in
set_option maxRecDepth 100000 in
theorem m_feed (l : Launch) (E : xE) (σ : Nat → Nat → Int32) (τ : Nat → Int64) (T : Nat) (hT : T < 1073741824) (b n : Int32) (hI : Inv (mv σ) T) (hlv : ∀ j, j < 12 → σ 15 j = (xzl 1).getD j 0) : xOi l yX8_feed cX8_feed 4 .int 1 25 E [.ref (xad E (81)), .int (b), .int (n)] σ τ (mpost (sp_feed b n (mv σ)) σ) := by
  refine xOi_of (own := RX8) (by decide +kernel) rfl (Nat.le_of_ble_eq_true rfl) ?_
  intro zp ze zs zm za zb zh zc C
  refine WM.to (lv1 := [(0, .ref (xad E (81))), (1, .int (b)), (2, .int (n))]) (st1 := []) (σ1 := σ) (τ1 := τ) ?_ rfl rfl rfl rfl
  have hg : gI (σ 10) := hI.g
  have hgT : gT (σ 10) T := hI.t
  have h0 : 0 ≤ (σ 10 10).toInt := hI.h0
  obtain ⟨t, htb, ht⟩ := nI_is (x := σ 17 1) hI.2.2.1.1 (n := 100) hI.2.2.1.2 (by decide)
  refine x_iload_n C 2 dX8_feed_0 rfl rfl ?_
  refine x_i2l C dX8_feed_1 ?_
  refine x_lconst C (v := 1) dX8_feed_2 (by decide) ?_
  refine x_ldc2 C dX8_feed_3 kc_X8_75 ?_
  refine x_callSi C (As := [.long (Int32.toInt64 n), .long (1), .long (4)]) (rest := []) (c_in l E σ τ (Int32.toInt64 n) 1 4) ks_X8_49 ⟨Nat.le_of_ble_eq_true rfl, Nat.le_of_ble_eq_true rfl⟩ rfl rfl (Nat.le_of_ble_eq_true rfl) dX8_feed_6 ?_
  refine WM.topi (y := if rng n 1 4 then 1 else 0) (in_eq n 1 4 (by decide) (by decide)) ?_
  refine x_ifneB C (tgt := 19) dX8_feed_9 (by decide) (fun h1 => ?_) (fun h1 => ?_)
  · obtain ⟨q, hqa, hqb, rfl⟩ := rngN (a := 1) (b := 4) h1 (by decide) (by decide) (by decide)
    refine x_aload_n C 0 dX8_feed_19 rfl rfl ?_
    refine x_get C (Nat.le_of_ble_eq_true rfl) xd_81 fl_X8_129 (q := (1, 17, 1)) (v := .int (nI t)) rfl (congrArg Value.int ht) dX8_feed_20 ?_
    refine x_iload_n C 2 dX8_feed_23 rfl rfl ?_
    refine x_iadd C dX8_feed_24 ?_
    refine WM.topi (y := nI (t + q)) (nI_add t q) ?_
    refine x_bipush C (v := 100) dX8_feed_25 (by decide) ?_
    refine x_icmp_le C (tgt := 37) dX8_feed_27 (by decide) (fun h2 => ?_) (fun h2 => ?_)
    · have hfit : t + q ≤ 100 := (le_nI (by omega) (by decide)).mp h2
      refine x_iload_n C 2 dX8_feed_37 rfl rfl ?_
      refine x_iconst C (v := 1) dX8_feed_38 (by decide) ?_
      refine x_isub C dX8_feed_39 ?_
      refine WM.topi (y := nI (q - 1)) (pk_sub (b := 1) (by omega)) ?_
      refine x_istore_n C (lv1 := [(3, .int (nI (q - 1))), (0, .ref (xad E (81))), (1, .int (b)), (2, .int (nI q))]) dX8_feed_40 rfl (by decide) rfl ?_
      have loop : ∀ (j k : Nat), j + k = q → WM zp l ze { frames := 1, cells := 0, slots := 0, locals := 25 } zs zm za zb zh zc 0 0 (MQ zb (va_Qi (fun r (u : xV × (Nat → Int64)) => (mpost (sp_feed b (nI q) (mv σ)) σ) r u.1) (fun u t => xP E u.1 u.2 t.heap) (xA E)) za zs 0 0 (xA E)) E (xA E) 4 (fW 16 17 b q t σ k) (τ) 41 [(0, .ref (xad E (81))), (1, .int (b)), (2, .int (nI q)), (3, .int (dnI q k))] [] := by
        intro j
        induction j with
        | zero =>
          intro k hk
          refine x_iload_n C 3 dX8_feed_41 rfl rfl ?_
          refine x_if_lt C (tgt := 80) dX8_feed_42 (by decide) (fun h3 => ?_) (fun h3 => absurd (dn_0 (by omega)) h3)
          refine x_aload_n C 0 dX8_feed_80 rfl rfl ?_
          refine x_get C (Nat.le_of_ble_eq_true rfl) xd_81 fl_X8_129 (q := (1, 17, 1)) (v := .int (nI (t + k))) rfl (congrArg Value.int (fW_sz ht k)) dX8_feed_81 ?_
          exact x_oret C (mpost_of (V := feedK b q t (mv σ) k) (Eq.trans (if_pos (by first | assumption | ((try simp only [rng, mayQ, tI_lt, tI_eq, cvr_0, mvr_0, cvr_c, mvr_c, ruleQ, tn_999, tl_200, tl_999, tl_0, tl_1, tl_2, tl_3, tl_4, tl_5, tl_6, tl_7, tl_8, tl_9, tl_10, tl_11, tl_12, tl_13, tl_99, tl_100, tl_255] at h1 ⊢) <;> omega))) (Eq.trans (if_neg (by show ¬ 100 < σ 17 1 + nI q; rw [ht, nI_add]; exact h2)) (feed_eq ht (by omega) (by omega) (by omega)))) (mv_fW b q t σ k) (mv_fW2 b q t σ k) (mv_fWl b q t σ k)) dX8_feed_84
        | succ j ih =>
          intro k hk
          refine x_iload_n C 3 dX8_feed_41 rfl rfl ?_
          refine x_if_lt C (tgt := 80) dX8_feed_42 (by decide) (fun h4 => absurd h4 (dn_lt (by omega) (by omega))) (fun h4 => ?_)
          refine x_aload_n C 0 dX8_feed_45 rfl rfl ?_
          refine x_get C (Nat.le_of_ble_eq_true rfl) xd_81 fl_X8_28 (q := (0, 88, 0)) (v := .ref (xad E (88))) rfl rfl dX8_feed_46 ?_
          refine x_aload_n C 0 dX8_feed_49 rfl rfl ?_
          refine x_get C (Nat.le_of_ble_eq_true rfl) xd_81 fl_X8_129 (q := (1, 17, 1)) (v := .int (nI (t + k))) rfl (congrArg Value.int (fW_sz ht k)) dX8_feed_50 ?_
          refine x_iload_n C 1 dX8_feed_53 rfl rfl ?_
          refine x_bipush C (v := 8) dX8_feed_54 (by decide) ?_
          refine x_iload_n C 3 dX8_feed_56 rfl rfl ?_
          refine x_imul C dX8_feed_57 ?_
          refine WM.topi (y := nI (8 * (q - 1 - k))) (dn_mul (by omega)) ?_
          refine x_ishr C dX8_feed_58 ?_
          refine x_sipush C (v := 255) dX8_feed_59 (by decide) ?_
          refine x_iand C dX8_feed_62 ?_
          refine x_ast C (σ' := u2 (fW 16 17 b q t σ k) 16 (t + k) ((b >>> ((nI (8 * (q - 1 - k))) &&& 31)) &&& 255)) (Nat.le_of_ble_eq_true rfl) xd_88 (by decide) (vp_in_nI (show t + k < 100 by omega) (by decide)) (by rw [(nI_clamp (show t + k < 2 ^ 31 by omega)), Nat.zero_add, Nat.one_mul]) dX8_feed_63 ?_
          refine x_aload_n C 0 dX8_feed_64 rfl rfl ?_
          refine x_dup C dX8_feed_65 rfl ?_
          refine x_get C (Nat.le_of_ble_eq_true rfl) xd_81 fl_X8_129 (q := (1, 17, 1)) (v := .int (nI (t + k))) rfl (congrArg Value.int (Eq.trans (u2_ne (b := 16) (i := t + k) (c := 17) (j := 1) (by omega)) (fW_sz ht k))) dX8_feed_66 ?_
          refine x_iconst C (v := 1) dX8_feed_69 (by decide) ?_
          refine x_iadd C dX8_feed_70 ?_
          refine WM.topi (y := nI (t + k + 1)) (nI_add (t + k) 1) ?_
          refine x_put C (σ' := u2 (u2 (fW 16 17 b q t σ k) 16 (t + k) ((b >>> ((nI (8 * (q - 1 - k))) &&& 31)) &&& 255)) 17 1 (nI (t + k + 1))) (Nat.le_of_ble_eq_true rfl) xd_81 fp_X8_129 rfl rfl rfl rfl dX8_feed_71 ?_
          refine x_iinc C (v := dnI q (k + 1)) (lv1 := [(3, .int (dnI q (k + 1))), (0, .ref (xad E (81))), (1, .int (b)), (2, .int (nI q))]) 3 dX8_feed_74 rfl (dn_s q k) (by decide) rfl ?_
          refine x_goto2 C (tgt := 41) dX8_feed_77 (by decide) ?_
          refine WM.keep [1, 2, 3, 0] (lv' := [(0, .ref (xad E (81))), (1, .int (b)), (2, .int (nI q)), (3, .int (dnI q (k + 1)))]) rfl ?_
          exact WM.to (ih (k + 1) (by omega)) rfl rfl rfl rfl
      refine WM.keep [1, 2, 3, 0] rfl ?_
      exact WM.to (loop (q) 0 (by omega)) rfl rfl (by rw [dn_st (q := q) (by omega)]; rfl) rfl
    · refine x_aload_n C 0 dX8_feed_30 rfl rfl ?_
      refine x_ldc C dX8_feed_31 kc_X8_85 ?_
      refine x_callVi C (As := [.int ((-1000002))]) (rest := []) (c_finds l E σ τ 1 (by decide) (-1000002) (by decide)) kv_X8_61 (x_recv C (Nat.le_of_ble_eq_true rfl) xd_81 rfl) ⟨Nat.le_of_ble_eq_true rfl, Nat.le_of_ble_eq_true rfl⟩ rfl rfl (Nat.le_of_ble_eq_true rfl) dX8_feed_33 ?_
      exact x_oret C (mpost_of (V := u2 (mv σ) 2 1 (σ 14 1 + 1)) (Eq.trans (if_pos (by first | assumption | ((try simp only [rng, mayQ, tI_lt, tI_eq, cvr_0, mvr_0, cvr_c, mvr_c, ruleQ, tn_999, tl_200, tl_999, tl_0, tl_1, tl_2, tl_3, tl_4, tl_5, tl_6, tl_7, tl_8, tl_9, tl_10, tl_11, tl_12, tl_13, tl_99, tl_100, tl_255] at h1 ⊢) <;> omega))) (if_pos (by show 100 < σ 17 1 + nI q; rw [ht, nI_add]; exact h2))) (by rw [mv_u14]) (by rw [cv_u14]) rfl) dX8_feed_36
  · refine x_aload_n C 0 dX8_feed_12 rfl rfl ?_
    refine x_ldc C dX8_feed_13 kc_X8_46 ?_
    refine x_callVi C (As := [.int ((-1000001))]) (rest := []) (c_finds l E σ τ 0 (by decide) (-1000001) (by decide)) kv_X8_61 (x_recv C (Nat.le_of_ble_eq_true rfl) xd_81 rfl) ⟨Nat.le_of_ble_eq_true rfl, Nat.le_of_ble_eq_true rfl⟩ rfl rfl (Nat.le_of_ble_eq_true rfl) dX8_feed_15 ?_
    exact x_oret C (mpost_of (V := u2 (mv σ) 2 0 (σ 14 0 + 1)) (if_neg (by first | assumption | ((try simp only [rng, mayQ, tI_lt, tI_eq, cvr_0, mvr_0, cvr_c, mvr_c, ruleQ, tn_999, tl_200, tl_999, tl_0, tl_1, tl_2, tl_3, tl_4, tl_5, tl_6, tl_7, tl_8, tl_9, tl_10, tl_11, tl_12, tl_13, tl_99, tl_100, tl_255] at h1 ⊢) <;> omega))) (by rw [mv_u14]) (by rw [cv_u14]) rfl) dX8_feed_18
