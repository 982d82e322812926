/-! sheets: copy -/
abbrev hasQ (i n sz : Int32) : Prop := ¬ i < 0 ∧ ¬ n < 0 ∧ ¬ sz - i < n
theorem has_13 {i n sz : Int32} (hz : 0 ≤ sz.toInt ∧ sz.toInt ≤ 40) (h1 : ¬ i < 0) (h : sz < i) : ¬ hasQ i n sz := by
  intro q
  have hc := (i32_cases i).2
  have h2 := q.2.1
  have h3 := q.2.2
  rw [tI_lt] at h1 h h2 h3
  rw [tI_0] at h1 h2
  rw [tI_sub (by omega) (by omega)] at h3
  omega
theorem hasN {i n sz : Int32} (hz : 0 ≤ sz.toInt ∧ sz.toInt ≤ 40) (h : hasQ i n sz) : ∃ x m : Nat, i = nI x ∧ n = nI m ∧ x + m ≤ 40 := by
  have h1 := h.1
  have h2 := h.2.1
  have h3 := h.2.2
  have hc := (i32_cases i).2
  rw [tI_lt] at h1 h2 h3
  rw [tI_0] at h1 h2
  rw [tI_sub (by omega) (by omega)] at h3
  obtain ⟨x, hx, ex⟩ := nI_is (x := i) (by omega) (n := 40) (by omega) (by decide)
  obtain ⟨m, hm, em⟩ := nI_is (x := n) (by omega) (n := 40) (by omega) (by decide)
  refine ⟨x, m, ex, em, ?_⟩
  rw [ex, em, nI_toInt (by omega), nI_toInt (by omega)] at h3
  omega
theorem hasM {j n sz : Int32} {m : Nat} (hz : 0 ≤ sz.toInt ∧ sz.toInt ≤ 40) (h : hasQ j n sz) (e : n = nI m) (hm : m ≤ 40) : ∃ y : Nat, j = nI y ∧ y + m ≤ 40 := by
  obtain ⟨y, m2, ey, em, hl⟩ := hasN hz h
  rw [e] at em
  have := (nI_eq (by omega) (by omega)).mp em
  exact ⟨y, ey, by omega⟩
def mvN (M : Nat → Int32) (qa x qb y k : Nat) : Nat → Int32 := fun i => if 40 * qb + y ≤ i ∧ i < 40 * qb + y + k then M (40 * qa + x + (i - (40 * qb + y))) else M i
theorem mv_0 (M : Nat → Int32) (qa x qb y : Nat) : mvN M qa x qb y 0 = M := by
  funext i
  exact if_neg (by omega)
def lfN (M L : Nat → Int32) (qa x k : Nat) : Nat → Int32 := fun i => if i < k then M (40 * qa + x + i) else L i
theorem lf_0 (M L : Nat → Int32) (qa x : Nat) : lfN M L qa x 0 = L := by
  funext i
  exact if_neg (by omega)
theorem lf_s (M L : Nat → Int32) (qa x k : Nat) : upd (lfN M L qa x k) k (M (40 * qa + x + k)) = lfN M L qa x (k + 1) := by
  funext i
  by_cases h : i = k
  · subst h
    rw [upd_at]
    exact (if_pos (by omega)).symm
  · rw [upd_ne h]
    unfold lfN
    by_cases h2 : i < k
    · rw [if_pos h2, if_pos (by omega)]
    · rw [if_neg h2, if_neg (by omega)]
theorem mv_s {M L : Nat → Int32} {qa x qb y m k : Nat} (hk : k < m) : upd (mvN M qa x qb y k) (40 * qb + y + k) (lfN M L qa x m k) = mvN M qa x qb y (k + 1) := by
  funext i
  by_cases h : i = 40 * qb + y + k
  · subst h
    rw [upd_at]
    unfold lfN mvN
    rw [if_pos hk, if_pos (by omega), show 40 * qb + y + k - (40 * qb + y) = k by omega]
  · rw [upd_ne h]
    unfold mvN
    by_cases h2 : 40 * qb + y ≤ i ∧ i < 40 * qb + y + k
    · rw [if_pos h2, if_pos (by omega)]
    · rw [if_neg h2, if_neg (by omega)]
def copyS (qa : Nat) (i : Int32) (qb : Nat) (j n : Int32) (s : xV) : Int32 × xV :=
  if s 5 qa = 0 ∨ s 5 qb = 0 then miss s else if ¬ s 5 qa = s 5 qb then kindF s else if hasQ i n (s 6 qa) ∧ hasQ j n (s 6 qb) then (n, va_up s 7 (mvN (s 7) qa i.toNatClampNeg qb j.toNatClampNeg n.toNatClampNeg)) else bad s
def sp_copy (a i b j n : Int32) (s : xV) : Int32 × xV := if rng a 0 3 ∧ rng b 0 3 then copyS a.toNatClampNeg i b.toNatClampNeg j n s else bad s
theorem mv_in {σ : xV} {qa qb x y m : Nat} (hb : qb < 4) (hx : x + m ≤ 40) (hy : y + m ≤ 40) : ∀ j, j < 40 → (va_up σ 9 (mvN (σ 9) qa x qb y m)) 9 (40 * qb + 1 * j) = if (nI y).toNatClampNeg ≤ j ∧ j < (nI y).toNatClampNeg + (nI m).toNatClampNeg then σ 9 (40 * qa + 1 * ((nI x).toNatClampNeg + (j - (nI y).toNatClampNeg))) else σ 9 (40 * qb + 1 * j) := by
  intro j hj
  rw [nI_clamp (show y < 2 ^ 31 by omega), nI_clamp (show m < 2 ^ 31 by omega), nI_clamp (show x < 2 ^ 31 by omega), va_up_self]
  unfold mvN
  by_cases h : y ≤ j ∧ j < y + m
  · rw [if_pos h, if_pos (by omega)]
    congr 1
    omega
  · rw [if_neg h, if_neg (by omega)]
theorem mv_out {σ : xV} {qa qb x y m : Nat} (hb : qb < 4) (hy : y + m ≤ 40) : ∀ c i, xin (xd (74 + 2 * qb)) c i = false → (va_up σ 9 (mvN (σ 9) qa x qb y m)) c i = σ c i := by
  intro c i h
  by_cases hc : c = 9
  · subst hc
    rw [va_up_self]
    refine if_neg (fun z => ?_)
    rw [xs_1 hb] at h
    have h2 : xin (9, [(40, 9, 40 * qb), (1, 0, 0)]) 9 i = true := xin_a.mpr ⟨by omega, Nat.mod_one _, by rw [Nat.div_one]; omega⟩
    rw [h2] at h
    exact absurd h (by decide)
  · rw [va_up_ne _ _ hc]
set_option maxHeartbeats 4000000 in
set_option maxRecDepth 100000 in
theorem c_shhas (l : Launch) (E : xE) (σ : Nat → Nat → Int32) (τ : Nat → Int64) (q : Nat) (hq : q < 4) (hz : 0 ≤ (σ 8 q).toInt ∧ (σ 8 q).toInt ≤ 40) (i n : Int32) : xMi l yX1_has cX1_has 3 .boolean 0 0 E [.ref (xad E (73 + 2 * q)), .int (i), .int (n)] (σ) (τ) (if hasQ i n (σ 8 q) then 1 else 0) (σ) (τ) := by
  refine xMi_of (own := RX1) (by decide +kernel) rfl (Nat.le_of_ble_eq_true rfl) ?_
  intro zp ze zs zm za zb zh zc C
  refine WM.to (lv1 := [(0, .ref (xad E (73 + 2 * q))), (1, .int (i)), (2, .int (n))]) (st1 := []) (σ1 := σ) (τ1 := τ) ?_ rfl rfl rfl rfl
  refine x_iload_n C 1 dX1_has_0 rfl rfl ?_
  refine x_if_lt C (tgt := 30) dX1_has_1 (by decide) (fun h1 => ?_) (fun h1 => ?_)
  · refine x_iconst C (v := 0) dX1_has_30 (by decide) ?_
    exact x_zret C rfl (if_neg (fun z => z.1 h1)).symm rfl rfl dX1_has_31
  · refine x_iload_n C 2 dX1_has_4 rfl rfl ?_
    refine x_if_lt C (tgt := 30) dX1_has_5 (by decide) (fun h2 => ?_) (fun h2 => ?_)
    · refine x_iconst C (v := 0) dX1_has_30 (by decide) ?_
      exact x_zret C rfl (if_neg (fun z => z.2.1 h2)).symm rfl rfl dX1_has_31
    · refine x_iload_n C 1 dX1_has_8 rfl rfl ?_
      refine x_aload_n C 0 dX1_has_9 rfl rfl ?_
      refine x_get C (by omega) (xs_0 (show q < 4 by omega)) fl_X1_17 (q := (1, 8, q)) (v := .int (σ 8 q)) rfl rfl dX1_has_10 ?_
      refine x_icmp_gt C (tgt := 30) dX1_has_13 (by decide) (fun h3 => ?_) (fun h3 => ?_)
      · refine x_iconst C (v := 0) dX1_has_30 (by decide) ?_
        exact x_zret C rfl (if_neg (has_13 hz h1 h3)).symm rfl rfl dX1_has_31
      · refine x_iload_n C 2 dX1_has_16 rfl rfl ?_
        refine x_aload_n C 0 dX1_has_17 rfl rfl ?_
        refine x_get C (by omega) (xs_0 (show q < 4 by omega)) fl_X1_17 (q := (1, 8, q)) (v := .int (σ 8 q)) rfl rfl dX1_has_18 ?_
        refine x_iload_n C 1 dX1_has_21 rfl rfl ?_
        refine x_isub C dX1_has_22 ?_
        refine x_icmp_gt C (tgt := 30) dX1_has_23 (by decide) (fun h4 => ?_) (fun h4 => ?_)
        · refine x_iconst C (v := 0) dX1_has_30 (by decide) ?_
          exact x_zret C rfl (if_neg (fun z => z.2.2 h4)).symm rfl rfl dX1_has_31
        · refine x_iconst C (v := 1) dX1_has_26 (by decide) ?_
          refine x_goto2 C (tgt := 31) dX1_has_27 (by decide) ?_
          exact x_zret C rfl (if_pos ⟨h1, h2, h4⟩).symm rfl rfl dX1_has_31
set_option maxHeartbeats 4000000 in
set_option maxRecDepth 100000 in
theorem k_copy (l : Launch) (E : xE) (σ : Nat → Nat → Int32) (τ : Nat → Int64) (T : Nat) (hT : T < 1073741824) (a i b j n : Int32) (hI : Inv (cv σ) T) : xOi l yX7_copy cX7_copy 8 .int 2 60 E [.ref (xad E (0)), .int (a), .int (i), .int (b), .int (j), .int (n)] σ τ (cpost (sp_copy a i b j n (cv σ)) σ) := by
  refine xOi_of (own := RX7) (by decide +kernel) rfl (Nat.le_of_ble_eq_true rfl) ?_
  intro zp ze zs zm za zb zh zc C
  refine WM.to (lv1 := [(0, .ref (xad E (0))), (1, .int (a)), (2, .int (i)), (3, .int (b)), (4, .int (j)), (5, .int (n))]) (st1 := []) (σ1 := σ) (τ1 := τ) ?_ rfl rfl rfl rfl
  have hg : gI (σ 0) := hI.g
  have hgT : gT (σ 0) T := hI.t
  have h0 : 0 ≤ (σ 0 10).toInt := hI.h0
  refine x_iload_n C 1 dX7_copy_0 rfl rfl ?_
  refine x_callSi C (As := [.int (a)]) (rest := []) (c_isSheet l E σ τ a) ks_X7_261 ⟨Nat.le_of_ble_eq_true rfl, Nat.le_of_ble_eq_true rfl⟩ rfl rfl (Nat.le_of_ble_eq_true rfl) dX7_copy_1 ?_
  refine x_ifeqB C (tgt := 14) dX7_copy_4 (by decide) (fun h1 => ?_) (fun h1 => ?_)
  · refine x_aload_n C 0 dX7_copy_14 rfl rfl ?_
    refine x_ldc C dX7_copy_15 kc_X7_63 ?_
    refine x_callVi C (As := [.int ((-1000001))]) (rest := []) (c_finding l E σ τ 0 (by decide) (-1000001) (by decide)) kv_X7_64 (x_recv C (Nat.le_of_ble_eq_true rfl) xd_0 rfl) ⟨Nat.le_of_ble_eq_true rfl, Nat.le_of_ble_eq_true rfl⟩ rfl rfl (Nat.le_of_ble_eq_true rfl) dX7_copy_17 ?_
    exact x_oret C (cpost_of (V := u2 (cv σ) 2 0 (σ 4 0 + 1)) (if_neg (by first | assumption | ((try simp only [rng, mayQ, tI_lt, tI_eq, cvr_0, mvr_0, cvr_c, mvr_c, ruleQ, tn_999, tl_200, tl_999, bitsQ, tl_16, tl_32, tl_40, hasQ, tl_0, tl_1, tl_2, tl_3, tl_4, tl_5, tl_6, tl_7, tl_8, tl_9, tl_10, tl_11, tl_12, tl_13, tl_99] at h1 ⊢) <;> omega))) (by rw [cv_u4]) (by rw [mv_u4]) rfl) dX7_copy_20
  · refine x_iload_n C 3 dX7_copy_7 rfl rfl ?_
    refine x_callSi C (As := [.int (b)]) (rest := []) (c_isSheet l E σ τ b) ks_X7_261 ⟨Nat.le_of_ble_eq_true rfl, Nat.le_of_ble_eq_true rfl⟩ rfl rfl (Nat.le_of_ble_eq_true rfl) dX7_copy_8 ?_
    refine x_ifneB C (tgt := 21) dX7_copy_11 (by decide) (fun h2 => ?_) (fun h2 => ?_)
    · obtain ⟨qa, hqaa, hqab, rfl⟩ := rngN (a := 0) (b := 3) h1 (by decide) (by decide) (by decide)
      obtain ⟨qb, hqba, hqbb, rfl⟩ := rngN (a := 0) (b := 3) h2 (by decide) (by decide) (by decide)
      refine x_aload_n C 0 dX7_copy_21 rfl rfl ?_
      refine x_get C (Nat.le_of_ble_eq_true rfl) xd_0 fl_X7_33 (q := (0, 58, 0)) (v := .ref (xad E (58))) rfl rfl dX7_copy_22 ?_
      refine x_iload_n C 1 dX7_copy_25 rfl rfl ?_
      refine x_aldq C (Nat.le_of_ble_eq_true rfl) (t := 2) (Or.inr rfl) (z := 73 + 2 * qa) xd_58 rfl (vp_in_nI (show qa < 4 by omega) (by decide)) (by rw [nI_clamp (by omega)]) dX7_copy_26 ?_
      refine x_astore C (lv1 := [(6, .ref (xad E (73 + 2 * qa))), (0, .ref (xad E (0))), (1, .int (nI qa)), (2, .int (i)), (3, .int (nI qb)), (4, .int (j)), (5, .int (n))]) dX7_copy_27 (by decide) rfl ?_
      refine x_aload_n C 1 dX7_copy_29 rfl rfl ?_
      refine x_get C (Nat.le_of_ble_eq_true rfl) xd_0 fl_X7_33 (q := (0, 58, 0)) (v := .ref (xad E (58))) rfl rfl dX7_copy_30 ?_
      refine x_iload_n C 4 dX7_copy_33 rfl rfl ?_
      refine x_aldq C (Nat.le_of_ble_eq_true rfl) (t := 2) (Or.inr rfl) (z := 73 + 2 * qb) xd_58 rfl (vp_in_nI (show qb < 4 by omega) (by decide)) (by rw [nI_clamp (by omega)]) dX7_copy_34 ?_
      refine x_astore C (lv1 := [(7, .ref (xad E (73 + 2 * qb))), (6, .ref (xad E (73 + 2 * qa))), (0, .ref (xad E (0))), (1, .int (nI qa)), (2, .int (i)), (3, .int (nI qb)), (4, .int (j)), (5, .int (n))]) dX7_copy_35 (by decide) rfl ?_
      refine x_aload C 1 dX7_copy_37 rfl ?_
      refine x_callVi C (As := []) (rest := []) (c_shmiss l E σ τ qa (by omega)) kv_X7_266 (x_recv C (by omega) (xs_0 (show qa < 4 by omega)) rfl) ⟨Nat.le_of_ble_eq_true rfl, Nat.le_of_ble_eq_true rfl⟩ rfl rfl (Nat.le_of_ble_eq_true rfl) dX7_copy_39 ?_
      refine x_ifneB C (tgt := 53) dX7_copy_42 (by decide) (fun h3 => ?_) (fun h3 => ?_)
      · refine x_aload_n C 2 dX7_copy_53 rfl rfl ?_
        refine x_ldcw C dX7_copy_54 kc_X7_256 ?_
        refine x_callVi C (As := [.int ((-1000006))]) (rest := []) (c_finding l E σ τ 5 (by decide) (-1000006) (by decide)) kv_X7_64 (x_recv C (Nat.le_of_ble_eq_true rfl) xd_0 rfl) ⟨Nat.le_of_ble_eq_true rfl, Nat.le_of_ble_eq_true rfl⟩ rfl rfl (Nat.le_of_ble_eq_true rfl) dX7_copy_57 ?_
        exact x_oret C (cpost_of (V := u2 (cv σ) 2 5 (σ 4 5 + 1)) (Eq.trans (if_pos (by first | assumption | ((try simp only [rng, mayQ, tI_lt, tI_eq, cvr_0, mvr_0, cvr_c, mvr_c, ruleQ, tn_999, tl_200, tl_999, bitsQ, tl_16, tl_32, tl_40, hasQ, tl_0, tl_1, tl_2, tl_3, tl_4, tl_5, tl_6, tl_7, tl_8, tl_9, tl_10, tl_11, tl_12, tl_13, tl_99] at h1 h2 ⊢) <;> omega))) (Eq.trans (congrArg (fun z => copyS z i (nI qb).toNatClampNeg j n (cv σ)) (nI_clamp (show qa < 2 ^ 31 by omega))) (Eq.trans (congrArg (fun z => copyS qa i z j n (cv σ)) (nI_clamp (show qb < 2 ^ 31 by omega))) (if_pos (Or.inl h3))))) (by rw [cv_u4]) (by rw [mv_u4]) rfl) dX7_copy_60
      · refine x_aload C 0 dX7_copy_45 rfl ?_
        refine x_callVi C (As := []) (rest := []) (c_shmiss l E σ τ qb (by omega)) kv_X7_266 (x_recv C (by omega) (xs_0 (show qb < 4 by omega)) rfl) ⟨Nat.le_of_ble_eq_true rfl, Nat.le_of_ble_eq_true rfl⟩ rfl rfl (Nat.le_of_ble_eq_true rfl) dX7_copy_47 ?_
        refine x_ifeqB C (tgt := 61) dX7_copy_50 (by decide) (fun h4 => ?_) (fun h4 => ?_)
        · refine x_aload C 1 dX7_copy_61 rfl ?_
          refine x_get C (by omega) (xs_0 (show qa < 4 by omega)) fl_X7_274 (q := (1, 7, qa)) (v := .int (σ 7 qa)) rfl rfl dX7_copy_63 ?_
          refine x_aload C 0 dX7_copy_66 rfl ?_
          refine x_get C (by omega) (xs_0 (show qb < 4 by omega)) fl_X7_274 (q := (1, 7, qb)) (v := .int (σ 7 qb)) rfl rfl dX7_copy_68 ?_
          refine x_icmp_eq C (tgt := 82) dX7_copy_71 (by decide) (fun h5 => ?_) (fun h5 => ?_)
          · refine x_aload C 1 dX7_copy_82 rfl ?_
            refine x_iload_n C 4 dX7_copy_84 rfl rfl ?_
            refine x_iload C 7 dX7_copy_85 rfl ?_
            refine x_callVi C (As := [.int (i), .int (n)]) (rest := []) (c_shhas l E σ τ qa (by omega) (hI.2.2.2.2 qa (by omega)) i n) kv_X7_277 (x_recv C (by omega) (xs_0 (show qa < 4 by omega)) rfl) ⟨Nat.le_of_ble_eq_true rfl, Nat.le_of_ble_eq_true rfl⟩ rfl rfl (Nat.le_of_ble_eq_true rfl) dX7_copy_87 ?_
            refine x_ifeqB C (tgt := 105) dX7_copy_90 (by decide) (fun h6 => ?_) (fun h6 => ?_)
            · refine x_aload_n C 2 dX7_copy_105 rfl rfl ?_
              refine x_ldc C dX7_copy_106 kc_X7_63 ?_
              refine x_callVi C (As := [.int ((-1000001))]) (rest := []) (c_finding l E σ τ 0 (by decide) (-1000001) (by decide)) kv_X7_64 (x_recv C (Nat.le_of_ble_eq_true rfl) xd_0 rfl) ⟨Nat.le_of_ble_eq_true rfl, Nat.le_of_ble_eq_true rfl⟩ rfl rfl (Nat.le_of_ble_eq_true rfl) dX7_copy_108 ?_
              exact x_oret C (cpost_of (V := u2 (cv σ) 2 0 (σ 4 0 + 1)) (Eq.trans (if_pos (by first | assumption | ((try simp only [rng, mayQ, tI_lt, tI_eq, cvr_0, mvr_0, cvr_c, mvr_c, ruleQ, tn_999, tl_200, tl_999, bitsQ, tl_16, tl_32, tl_40, hasQ, tl_0, tl_1, tl_2, tl_3, tl_4, tl_5, tl_6, tl_7, tl_8, tl_9, tl_10, tl_11, tl_12, tl_13, tl_99] at h1 h2 ⊢) <;> omega))) (Eq.trans (congrArg (fun z => copyS z i (nI qb).toNatClampNeg j n (cv σ)) (nI_clamp (show qa < 2 ^ 31 by omega))) (Eq.trans (congrArg (fun z => copyS qa i z j n (cv σ)) (nI_clamp (show qb < 2 ^ 31 by omega))) (Eq.trans (if_neg (fun z => z.elim (fun w => h3 w) (fun w => h4 w))) (Eq.trans (if_neg (fun z => z h5)) (if_neg (fun z => h6 z.1))))))) (by rw [cv_u4]) (by rw [mv_u4]) rfl) dX7_copy_111
            · refine x_aload C 0 dX7_copy_93 rfl ?_
              refine x_iload C 6 dX7_copy_95 rfl ?_
              refine x_iload C 7 dX7_copy_97 rfl ?_
              refine x_callVi C (As := [.int (j), .int (n)]) (rest := []) (c_shhas l E σ τ qb (by omega) (hI.2.2.2.2 qb (by omega)) j n) kv_X7_277 (x_recv C (by omega) (xs_0 (show qb < 4 by omega)) rfl) ⟨Nat.le_of_ble_eq_true rfl, Nat.le_of_ble_eq_true rfl⟩ rfl rfl (Nat.le_of_ble_eq_true rfl) dX7_copy_99 ?_
              refine x_ifneB C (tgt := 112) dX7_copy_102 (by decide) (fun h7 => ?_) (fun h7 => ?_)
              · have hA := h6
                have hB2 := h7
                obtain ⟨x, m, rfl, rfl, hxm⟩ := hasN (hI.2.2.2.2 qa (by omega)) hA
                obtain ⟨y, rfl, hym⟩ := hasM (hI.2.2.2.2 qb (by omega)) hB2 rfl (by omega)
                refine x_aload C 1 dX7_copy_112 rfl ?_
                refine x_get C (by omega) (xs_0 (show qa < 4 by omega)) fl_X7_280 (q := (0, 74 + 2 * qa, 0)) (v := .ref (xad E (74 + 2 * qa))) rfl rfl dX7_copy_114 ?_
                refine x_iload_n C 4 dX7_copy_117 rfl rfl ?_
                refine x_aload C 0 dX7_copy_118 rfl ?_
                refine x_get C (by omega) (xs_0 (show qb < 4 by omega)) fl_X7_280 (q := (0, 74 + 2 * qb, 0)) (v := .ref (xad E (74 + 2 * qb))) rfl rfl dX7_copy_120 ?_
                refine x_iload C 6 dX7_copy_123 rfl ?_
                refine x_iload C 7 dX7_copy_125 rfl ?_
                refine x_copy C (σ' := va_up σ 9 (mvN (σ 9) qa x qb y m)) (by omega) (xs_1 (show qa < 4 by omega)) (by omega) (xs_1 (show qb < 4 by omega)) (nI_pos (by omega)) (nI_pos (by omega)) (nI_pos (by omega)) (by rw [nI_clamp (show x < 2 ^ 31 by omega), nI_clamp (show m < 2 ^ 31 by omega)]; omega) (by rw [nI_clamp (show y < 2 ^ 31 by omega), nI_clamp (show m < 2 ^ 31 by omega)]; omega) (mv_in (by omega) hxm hym) (mv_out (by omega) hym) ⟨km_X7_283, kM_copy⟩ ⟨Nat.le_of_ble_eq_true rfl, Nat.le_of_ble_eq_true rfl⟩ dX7_copy_127 ?_
                refine x_iload C 7 dX7_copy_130 rfl ?_
                exact x_oret C (cpost_of (V := va_up (cv σ) 7 (mvN (σ 9) qa x qb y m)) (Eq.trans (if_pos (by first | assumption | ((try simp only [rng, mayQ, tI_lt, tI_eq, cvr_0, mvr_0, cvr_c, mvr_c, ruleQ, tn_999, tl_200, tl_999, bitsQ, tl_16, tl_32, tl_40, hasQ, tl_0, tl_1, tl_2, tl_3, tl_4, tl_5, tl_6, tl_7, tl_8, tl_9, tl_10, tl_11, tl_12, tl_13, tl_99] at h1 h2 ⊢) <;> omega))) (Eq.trans (congrArg (fun z => copyS z (nI x) (nI qb).toNatClampNeg (nI y) (nI m) (cv σ)) (nI_clamp (show qa < 2 ^ 31 by omega))) (Eq.trans (congrArg (fun z => copyS qa (nI x) z (nI y) (nI m) (cv σ)) (nI_clamp (show qb < 2 ^ 31 by omega))) (Eq.trans (if_neg (fun z => z.elim (fun w => h3 w) (fun w => h4 w))) (Eq.trans (if_neg (fun z => z h5)) (Eq.trans (if_pos ⟨hA, hB2⟩) (by rw [nI_clamp (show x < 2 ^ 31 by omega), nI_clamp (show y < 2 ^ 31 by omega), nI_clamp (show m < 2 ^ 31 by omega)]; rfl))))))) (by rw [cv_v9]) (by rw [mv_v9]) rfl) dX7_copy_132
              · refine x_aload_n C 2 dX7_copy_105 rfl rfl ?_
                refine x_ldc C dX7_copy_106 kc_X7_63 ?_
                refine x_callVi C (As := [.int ((-1000001))]) (rest := []) (c_finding l E σ τ 0 (by decide) (-1000001) (by decide)) kv_X7_64 (x_recv C (Nat.le_of_ble_eq_true rfl) xd_0 rfl) ⟨Nat.le_of_ble_eq_true rfl, Nat.le_of_ble_eq_true rfl⟩ rfl rfl (Nat.le_of_ble_eq_true rfl) dX7_copy_108 ?_
                exact x_oret C (cpost_of (V := u2 (cv σ) 2 0 (σ 4 0 + 1)) (Eq.trans (if_pos (by first | assumption | ((try simp only [rng, mayQ, tI_lt, tI_eq, cvr_0, mvr_0, cvr_c, mvr_c, ruleQ, tn_999, tl_200, tl_999, bitsQ, tl_16, tl_32, tl_40, hasQ, tl_0, tl_1, tl_2, tl_3, tl_4, tl_5, tl_6, tl_7, tl_8, tl_9, tl_10, tl_11, tl_12, tl_13, tl_99] at h1 h2 ⊢) <;> omega))) (Eq.trans (congrArg (fun z => copyS z i (nI qb).toNatClampNeg j n (cv σ)) (nI_clamp (show qa < 2 ^ 31 by omega))) (Eq.trans (congrArg (fun z => copyS qa i z j n (cv σ)) (nI_clamp (show qb < 2 ^ 31 by omega))) (Eq.trans (if_neg (fun z => z.elim (fun w => h3 w) (fun w => h4 w))) (Eq.trans (if_neg (fun z => z h5)) (if_neg (fun z => h7 z.2))))))) (by rw [cv_u4]) (by rw [mv_u4]) rfl) dX7_copy_111
          · refine x_aload_n C 2 dX7_copy_74 rfl rfl ?_
            refine x_ldcw C dX7_copy_75 kc_X7_260 ?_
            refine x_callVi C (As := [.int ((-1000003))]) (rest := []) (c_finding l E σ τ 2 (by decide) (-1000003) (by decide)) kv_X7_64 (x_recv C (Nat.le_of_ble_eq_true rfl) xd_0 rfl) ⟨Nat.le_of_ble_eq_true rfl, Nat.le_of_ble_eq_true rfl⟩ rfl rfl (Nat.le_of_ble_eq_true rfl) dX7_copy_78 ?_
            exact x_oret C (cpost_of (V := u2 (cv σ) 2 2 (σ 4 2 + 1)) (Eq.trans (if_pos (by first | assumption | ((try simp only [rng, mayQ, tI_lt, tI_eq, cvr_0, mvr_0, cvr_c, mvr_c, ruleQ, tn_999, tl_200, tl_999, bitsQ, tl_16, tl_32, tl_40, hasQ, tl_0, tl_1, tl_2, tl_3, tl_4, tl_5, tl_6, tl_7, tl_8, tl_9, tl_10, tl_11, tl_12, tl_13, tl_99] at h1 h2 ⊢) <;> omega))) (Eq.trans (congrArg (fun z => copyS z i (nI qb).toNatClampNeg j n (cv σ)) (nI_clamp (show qa < 2 ^ 31 by omega))) (Eq.trans (congrArg (fun z => copyS qa i z j n (cv σ)) (nI_clamp (show qb < 2 ^ 31 by omega))) (Eq.trans (if_neg (fun z => z.elim (fun w => h3 w) (fun w => h4 w))) (if_pos h5))))) (by rw [cv_u4]) (by rw [mv_u4]) rfl) dX7_copy_81
        · refine x_aload_n C 2 dX7_copy_53 rfl rfl ?_
          refine x_ldcw C dX7_copy_54 kc_X7_256 ?_
          refine x_callVi C (As := [.int ((-1000006))]) (rest := []) (c_finding l E σ τ 5 (by decide) (-1000006) (by decide)) kv_X7_64 (x_recv C (Nat.le_of_ble_eq_true rfl) xd_0 rfl) ⟨Nat.le_of_ble_eq_true rfl, Nat.le_of_ble_eq_true rfl⟩ rfl rfl (Nat.le_of_ble_eq_true rfl) dX7_copy_57 ?_
          exact x_oret C (cpost_of (V := u2 (cv σ) 2 5 (σ 4 5 + 1)) (Eq.trans (if_pos (by first | assumption | ((try simp only [rng, mayQ, tI_lt, tI_eq, cvr_0, mvr_0, cvr_c, mvr_c, ruleQ, tn_999, tl_200, tl_999, bitsQ, tl_16, tl_32, tl_40, hasQ, tl_0, tl_1, tl_2, tl_3, tl_4, tl_5, tl_6, tl_7, tl_8, tl_9, tl_10, tl_11, tl_12, tl_13, tl_99] at h1 h2 ⊢) <;> omega))) (Eq.trans (congrArg (fun z => copyS z i (nI qb).toNatClampNeg j n (cv σ)) (nI_clamp (show qa < 2 ^ 31 by omega))) (Eq.trans (congrArg (fun z => copyS qa i z j n (cv σ)) (nI_clamp (show qb < 2 ^ 31 by omega))) (if_pos (Or.inr h4))))) (by rw [cv_u4]) (by rw [mv_u4]) rfl) dX7_copy_60
    · refine x_aload_n C 0 dX7_copy_14 rfl rfl ?_
      refine x_ldc C dX7_copy_15 kc_X7_63 ?_
      refine x_callVi C (As := [.int ((-1000001))]) (rest := []) (c_finding l E σ τ 0 (by decide) (-1000001) (by decide)) kv_X7_64 (x_recv C (Nat.le_of_ble_eq_true rfl) xd_0 rfl) ⟨Nat.le_of_ble_eq_true rfl, Nat.le_of_ble_eq_true rfl⟩ rfl rfl (Nat.le_of_ble_eq_true rfl) dX7_copy_17 ?_
      exact x_oret C (cpost_of (V := u2 (cv σ) 2 0 (σ 4 0 + 1)) (if_neg (by first | assumption | ((try simp only [rng, mayQ, tI_lt, tI_eq, cvr_0, mvr_0, cvr_c, mvr_c, ruleQ, tn_999, tl_200, tl_999, bitsQ, tl_16, tl_32, tl_40, hasQ, tl_0, tl_1, tl_2, tl_3, tl_4, tl_5, tl_6, tl_7, tl_8, tl_9, tl_10, tl_11, tl_12, tl_13, tl_99] at h1 h2 ⊢) <;> omega))) (by rw [cv_u4]) (by rw [mv_u4]) rfl) dX7_copy_20
set_option maxHeartbeats 4000000 in
set_option maxRecDepth 100000 in
theorem m_copy (l : Launch) (E : xE) (σ : Nat → Nat → Int32) (τ : Nat → Int64) (T : Nat) (hT : T < 1073741824) (a i b j n : Int32) (hI : Inv (mv σ) T) (hlv : ∀ j, j < 12 → σ 15 j = (xzl 1).getD j 0) : xOi l yX8_copy cX8_copy 7 .int 2 45 E [.ref (xad E (81)), .int (a), .int (i), .int (b), .int (j), .int (n)] σ τ (mpost (sp_copy a i b j n (mv σ)) σ) := by
  refine xOi_of (own := RX8) (by decide +kernel) rfl (Nat.le_of_ble_eq_true rfl) ?_
  intro zp ze zs zm za zb zh zc C
  refine WM.to (lv1 := [(0, .ref (xad E (81))), (1, .int (a)), (2, .int (i)), (3, .int (b)), (4, .int (j)), (5, .int (n))]) (st1 := []) (σ1 := σ) (τ1 := τ) ?_ rfl rfl rfl rfl
  have hg : gI (σ 10) := hI.g
  have hgT : gT (σ 10) T := hI.t
  have h0 : 0 ≤ (σ 10 10).toInt := hI.h0
  refine x_iload_n C 1 dX8_copy_0 rfl rfl ?_
  refine x_callSi C (As := [.int (a)]) (rest := []) (c_misSheet l E σ τ a) ks_X8_284 ⟨Nat.le_of_ble_eq_true rfl, Nat.le_of_ble_eq_true rfl⟩ rfl rfl (Nat.le_of_ble_eq_true rfl) dX8_copy_1 ?_
  refine x_ifeqB C (tgt := 14) dX8_copy_4 (by decide) (fun h1 => ?_) (fun h1 => ?_)
  · refine x_aload_n C 0 dX8_copy_14 rfl rfl ?_
    refine x_ldc C dX8_copy_15 kc_X8_46 ?_
    refine x_callVi C (As := [.int ((-1000001))]) (rest := []) (c_finds l E σ τ 0 (by decide) (-1000001) (by decide)) kv_X8_61 (x_recv C (Nat.le_of_ble_eq_true rfl) xd_81 rfl) ⟨Nat.le_of_ble_eq_true rfl, Nat.le_of_ble_eq_true rfl⟩ rfl rfl (Nat.le_of_ble_eq_true rfl) dX8_copy_17 ?_
    exact x_oret C (mpost_of (V := u2 (mv σ) 2 0 (σ 14 0 + 1)) (if_neg (by first | assumption | ((try simp only [rng, mayQ, tI_lt, tI_eq, cvr_0, mvr_0, cvr_c, mvr_c, ruleQ, tn_999, tl_200, tl_999, bitsQ, tl_16, tl_32, tl_40, hasQ, tl_0, tl_1, tl_2, tl_3, tl_4, tl_5, tl_6, tl_7, tl_8, tl_9, tl_10, tl_11, tl_12, tl_13, tl_40, tl_99] at h1 ⊢) <;> omega))) (by rw [mv_u14]) (by rw [cv_u14]) rfl) dX8_copy_20
  · refine x_iload_n C 3 dX8_copy_7 rfl rfl ?_
    refine x_callSi C (As := [.int (b)]) (rest := []) (c_misSheet l E σ τ b) ks_X8_284 ⟨Nat.le_of_ble_eq_true rfl, Nat.le_of_ble_eq_true rfl⟩ rfl rfl (Nat.le_of_ble_eq_true rfl) dX8_copy_8 ?_
    refine x_ifneB C (tgt := 21) dX8_copy_11 (by decide) (fun h2 => ?_) (fun h2 => ?_)
    · obtain ⟨qa, hqaa, hqab, rfl⟩ := rngN (a := 0) (b := 3) h1 (by decide) (by decide) (by decide)
      obtain ⟨qb, hqba, hqbb, rfl⟩ := rngN (a := 0) (b := 3) h2 (by decide) (by decide) (by decide)
      refine x_aload_n C 0 dX8_copy_21 rfl rfl ?_
      refine x_get C (Nat.le_of_ble_eq_true rfl) xd_81 fl_X8_34 (q := (0, 90, 0)) (v := .ref (xad E (90))) rfl rfl dX8_copy_22 ?_
      refine x_iload_n C 1 dX8_copy_25 rfl rfl ?_
      refine x_ald C (Nat.le_of_ble_eq_true rfl) xd_90 (v := σ 18 qa) (vp_in_nI (show qa < 4 by omega) (by decide)) (by rw [(nI_clamp (show qa < 2 ^ 31 by omega)), Nat.zero_add, Nat.one_mul]) dX8_copy_26 ?_
      refine x_if_eq C (tgt := 39) dX8_copy_27 (by decide) (fun h3 => ?_) (fun h3 => ?_)
      · refine x_aload_n C 0 dX8_copy_39 rfl rfl ?_
        refine x_ldcw C dX8_copy_40 kc_X8_279 ?_
        refine x_callVi C (As := [.int ((-1000006))]) (rest := []) (c_finds l E σ τ 5 (by decide) (-1000006) (by decide)) kv_X8_61 (x_recv C (Nat.le_of_ble_eq_true rfl) xd_81 rfl) ⟨Nat.le_of_ble_eq_true rfl, Nat.le_of_ble_eq_true rfl⟩ rfl rfl (Nat.le_of_ble_eq_true rfl) dX8_copy_43 ?_
        exact x_oret C (mpost_of (V := u2 (mv σ) 2 5 (σ 14 5 + 1)) (Eq.trans (if_pos (by first | assumption | ((try simp only [rng, mayQ, tI_lt, tI_eq, cvr_0, mvr_0, cvr_c, mvr_c, ruleQ, tn_999, tl_200, tl_999, bitsQ, tl_16, tl_32, tl_40, hasQ, tl_0, tl_1, tl_2, tl_3, tl_4, tl_5, tl_6, tl_7, tl_8, tl_9, tl_10, tl_11, tl_12, tl_13, tl_40, tl_99] at h1 h2 ⊢) <;> omega))) (Eq.trans (congrArg (fun z => copyS z i (nI qb).toNatClampNeg j n (mv σ)) (nI_clamp (show qa < 2 ^ 31 by omega))) (Eq.trans (congrArg (fun z => copyS qa i z j n (mv σ)) (nI_clamp (show qb < 2 ^ 31 by omega))) (if_pos (Or.inl h3))))) (by rw [mv_u14]) (by rw [cv_u14]) rfl) dX8_copy_46
      · refine x_aload_n C 0 dX8_copy_30 rfl rfl ?_
        refine x_get C (Nat.le_of_ble_eq_true rfl) xd_81 fl_X8_34 (q := (0, 90, 0)) (v := .ref (xad E (90))) rfl rfl dX8_copy_31 ?_
        refine x_iload_n C 3 dX8_copy_34 rfl rfl ?_
        refine x_ald C (Nat.le_of_ble_eq_true rfl) xd_90 (v := σ 18 qb) (vp_in_nI (show qb < 4 by omega) (by decide)) (by rw [(nI_clamp (show qb < 2 ^ 31 by omega)), Nat.zero_add, Nat.one_mul]) dX8_copy_35 ?_
        refine x_if_ne C (tgt := 47) dX8_copy_36 (by decide) (fun h4 => ?_) (fun h4 => ?_)
        · refine x_aload_n C 0 dX8_copy_47 rfl rfl ?_
          refine x_get C (Nat.le_of_ble_eq_true rfl) xd_81 fl_X8_34 (q := (0, 90, 0)) (v := .ref (xad E (90))) rfl rfl dX8_copy_48 ?_
          refine x_iload_n C 1 dX8_copy_51 rfl rfl ?_
          refine x_ald C (Nat.le_of_ble_eq_true rfl) xd_90 (v := σ 18 qa) (vp_in_nI (show qa < 4 by omega) (by decide)) (by rw [(nI_clamp (show qa < 2 ^ 31 by omega)), Nat.zero_add, Nat.one_mul]) dX8_copy_52 ?_
          refine x_aload_n C 0 dX8_copy_53 rfl rfl ?_
          refine x_get C (Nat.le_of_ble_eq_true rfl) xd_81 fl_X8_34 (q := (0, 90, 0)) (v := .ref (xad E (90))) rfl rfl dX8_copy_54 ?_
          refine x_iload_n C 3 dX8_copy_57 rfl rfl ?_
          refine x_ald C (Nat.le_of_ble_eq_true rfl) xd_90 (v := σ 18 qb) (vp_in_nI (show qb < 4 by omega) (by decide)) (by rw [(nI_clamp (show qb < 2 ^ 31 by omega)), Nat.zero_add, Nat.one_mul]) dX8_copy_58 ?_
          refine x_icmp_eq C (tgt := 70) dX8_copy_59 (by decide) (fun h5 => ?_) (fun h5 => ?_)
          · refine x_iload C 5 dX8_copy_70 rfl ?_
            refine x_if_lt C (tgt := 111) dX8_copy_72 (by decide) (fun h6 => ?_) (fun h6 => ?_)
            · refine x_aload_n C 0 dX8_copy_111 rfl rfl ?_
              refine x_ldc C dX8_copy_112 kc_X8_46 ?_
              refine x_callVi C (As := [.int ((-1000001))]) (rest := []) (c_finds l E σ τ 0 (by decide) (-1000001) (by decide)) kv_X8_61 (x_recv C (Nat.le_of_ble_eq_true rfl) xd_81 rfl) ⟨Nat.le_of_ble_eq_true rfl, Nat.le_of_ble_eq_true rfl⟩ rfl rfl (Nat.le_of_ble_eq_true rfl) dX8_copy_114 ?_
              exact x_oret C (mpost_of (V := u2 (mv σ) 2 0 (σ 14 0 + 1)) (Eq.trans (if_pos (by first | assumption | ((try simp only [rng, mayQ, tI_lt, tI_eq, cvr_0, mvr_0, cvr_c, mvr_c, ruleQ, tn_999, tl_200, tl_999, bitsQ, tl_16, tl_32, tl_40, hasQ, tl_0, tl_1, tl_2, tl_3, tl_4, tl_5, tl_6, tl_7, tl_8, tl_9, tl_10, tl_11, tl_12, tl_13, tl_40, tl_99] at h1 h2 ⊢) <;> omega))) (Eq.trans (congrArg (fun z => copyS z i (nI qb).toNatClampNeg j n (mv σ)) (nI_clamp (show qa < 2 ^ 31 by omega))) (Eq.trans (congrArg (fun z => copyS qa i z j n (mv σ)) (nI_clamp (show qb < 2 ^ 31 by omega))) (Eq.trans (if_neg (fun z => z.elim (fun w => h3 w) (fun w => h4 w))) (Eq.trans (if_neg (fun z => z h5)) (if_neg (fun z => z.1.2.1 h6))))))) (by rw [mv_u14]) (by rw [cv_u14]) rfl) dX8_copy_117
            · refine x_iload_n C 2 dX8_copy_75 rfl rfl ?_
              refine x_if_lt C (tgt := 111) dX8_copy_76 (by decide) (fun h7 => ?_) (fun h7 => ?_)
              · refine x_aload_n C 0 dX8_copy_111 rfl rfl ?_
                refine x_ldc C dX8_copy_112 kc_X8_46 ?_
                refine x_callVi C (As := [.int ((-1000001))]) (rest := []) (c_finds l E σ τ 0 (by decide) (-1000001) (by decide)) kv_X8_61 (x_recv C (Nat.le_of_ble_eq_true rfl) xd_81 rfl) ⟨Nat.le_of_ble_eq_true rfl, Nat.le_of_ble_eq_true rfl⟩ rfl rfl (Nat.le_of_ble_eq_true rfl) dX8_copy_114 ?_
                exact x_oret C (mpost_of (V := u2 (mv σ) 2 0 (σ 14 0 + 1)) (Eq.trans (if_pos (by first | assumption | ((try simp only [rng, mayQ, tI_lt, tI_eq, cvr_0, mvr_0, cvr_c, mvr_c, ruleQ, tn_999, tl_200, tl_999, bitsQ, tl_16, tl_32, tl_40, hasQ, tl_0, tl_1, tl_2, tl_3, tl_4, tl_5, tl_6, tl_7, tl_8, tl_9, tl_10, tl_11, tl_12, tl_13, tl_40, tl_99] at h1 h2 ⊢) <;> omega))) (Eq.trans (congrArg (fun z => copyS z i (nI qb).toNatClampNeg j n (mv σ)) (nI_clamp (show qa < 2 ^ 31 by omega))) (Eq.trans (congrArg (fun z => copyS qa i z j n (mv σ)) (nI_clamp (show qb < 2 ^ 31 by omega))) (Eq.trans (if_neg (fun z => z.elim (fun w => h3 w) (fun w => h4 w))) (Eq.trans (if_neg (fun z => z h5)) (if_neg (fun z => z.1.1 h7))))))) (by rw [mv_u14]) (by rw [cv_u14]) rfl) dX8_copy_117
              · refine x_iload C 4 dX8_copy_79 rfl ?_
                refine x_if_lt C (tgt := 111) dX8_copy_81 (by decide) (fun h8 => ?_) (fun h8 => ?_)
                · refine x_aload_n C 0 dX8_copy_111 rfl rfl ?_
                  refine x_ldc C dX8_copy_112 kc_X8_46 ?_
                  refine x_callVi C (As := [.int ((-1000001))]) (rest := []) (c_finds l E σ τ 0 (by decide) (-1000001) (by decide)) kv_X8_61 (x_recv C (Nat.le_of_ble_eq_true rfl) xd_81 rfl) ⟨Nat.le_of_ble_eq_true rfl, Nat.le_of_ble_eq_true rfl⟩ rfl rfl (Nat.le_of_ble_eq_true rfl) dX8_copy_114 ?_
                  exact x_oret C (mpost_of (V := u2 (mv σ) 2 0 (σ 14 0 + 1)) (Eq.trans (if_pos (by first | assumption | ((try simp only [rng, mayQ, tI_lt, tI_eq, cvr_0, mvr_0, cvr_c, mvr_c, ruleQ, tn_999, tl_200, tl_999, bitsQ, tl_16, tl_32, tl_40, hasQ, tl_0, tl_1, tl_2, tl_3, tl_4, tl_5, tl_6, tl_7, tl_8, tl_9, tl_10, tl_11, tl_12, tl_13, tl_40, tl_99] at h1 h2 ⊢) <;> omega))) (Eq.trans (congrArg (fun z => copyS z i (nI qb).toNatClampNeg j n (mv σ)) (nI_clamp (show qa < 2 ^ 31 by omega))) (Eq.trans (congrArg (fun z => copyS qa i z j n (mv σ)) (nI_clamp (show qb < 2 ^ 31 by omega))) (Eq.trans (if_neg (fun z => z.elim (fun w => h3 w) (fun w => h4 w))) (Eq.trans (if_neg (fun z => z h5)) (if_neg (fun z => z.2.1 h8))))))) (by rw [mv_u14]) (by rw [cv_u14]) rfl) dX8_copy_117
                · refine x_iload C 5 dX8_copy_84 rfl ?_
                  refine x_aload_n C 0 dX8_copy_86 rfl rfl ?_
                  refine x_get C (Nat.le_of_ble_eq_true rfl) xd_81 fl_X8_37 (q := (0, 91, 0)) (v := .ref (xad E (91))) rfl rfl dX8_copy_87 ?_
                  refine x_iload_n C 1 dX8_copy_90 rfl rfl ?_
                  refine x_ald C (Nat.le_of_ble_eq_true rfl) xd_91 (v := σ 19 qa) (vp_in_nI (show qa < 4 by omega) (by decide)) (by rw [(nI_clamp (show qa < 2 ^ 31 by omega)), Nat.zero_add, Nat.one_mul]) dX8_copy_91 ?_
                  refine x_iload_n C 2 dX8_copy_92 rfl rfl ?_
                  refine x_isub C dX8_copy_93 ?_
                  refine x_icmp_gt C (tgt := 111) dX8_copy_94 (by decide) (fun h9 => ?_) (fun h9 => ?_)
                  · refine x_aload_n C 0 dX8_copy_111 rfl rfl ?_
                    refine x_ldc C dX8_copy_112 kc_X8_46 ?_
                    refine x_callVi C (As := [.int ((-1000001))]) (rest := []) (c_finds l E σ τ 0 (by decide) (-1000001) (by decide)) kv_X8_61 (x_recv C (Nat.le_of_ble_eq_true rfl) xd_81 rfl) ⟨Nat.le_of_ble_eq_true rfl, Nat.le_of_ble_eq_true rfl⟩ rfl rfl (Nat.le_of_ble_eq_true rfl) dX8_copy_114 ?_
                    exact x_oret C (mpost_of (V := u2 (mv σ) 2 0 (σ 14 0 + 1)) (Eq.trans (if_pos (by first | assumption | ((try simp only [rng, mayQ, tI_lt, tI_eq, cvr_0, mvr_0, cvr_c, mvr_c, ruleQ, tn_999, tl_200, tl_999, bitsQ, tl_16, tl_32, tl_40, hasQ, tl_0, tl_1, tl_2, tl_3, tl_4, tl_5, tl_6, tl_7, tl_8, tl_9, tl_10, tl_11, tl_12, tl_13, tl_40, tl_99] at h1 h2 ⊢) <;> omega))) (Eq.trans (congrArg (fun z => copyS z i (nI qb).toNatClampNeg j n (mv σ)) (nI_clamp (show qa < 2 ^ 31 by omega))) (Eq.trans (congrArg (fun z => copyS qa i z j n (mv σ)) (nI_clamp (show qb < 2 ^ 31 by omega))) (Eq.trans (if_neg (fun z => z.elim (fun w => h3 w) (fun w => h4 w))) (Eq.trans (if_neg (fun z => z h5)) (if_neg (fun z => z.1.2.2 h9))))))) (by rw [mv_u14]) (by rw [cv_u14]) rfl) dX8_copy_117
                  · refine x_iload C 5 dX8_copy_97 rfl ?_
                    refine x_aload_n C 0 dX8_copy_99 rfl rfl ?_
                    refine x_get C (Nat.le_of_ble_eq_true rfl) xd_81 fl_X8_37 (q := (0, 91, 0)) (v := .ref (xad E (91))) rfl rfl dX8_copy_100 ?_
                    refine x_iload_n C 3 dX8_copy_103 rfl rfl ?_
                    refine x_ald C (Nat.le_of_ble_eq_true rfl) xd_91 (v := σ 19 qb) (vp_in_nI (show qb < 4 by omega) (by decide)) (by rw [(nI_clamp (show qb < 2 ^ 31 by omega)), Nat.zero_add, Nat.one_mul]) dX8_copy_104 ?_
                    refine x_iload C 4 dX8_copy_105 rfl ?_
                    refine x_isub C dX8_copy_107 ?_
                    refine x_icmp_le C (tgt := 118) dX8_copy_108 (by decide) (fun h10 => ?_) (fun h10 => ?_)
                    · have hA := (show hasQ i n (σ 19 qa) from ⟨h7, h6, h9⟩)
                      have hB2 := (show hasQ j n (σ 19 qb) from ⟨h8, h6, h10⟩)
                      obtain ⟨x, m, rfl, rfl, hxm⟩ := hasN (hI.2.2.2.2 qa (by omega)) hA
                      obtain ⟨y, rfl, hym⟩ := hasM (hI.2.2.2.2 qb (by omega)) hB2 rfl (by omega)
                      refine x_iconst C (v := 0) dX8_copy_118 (by decide) ?_
                      refine x_istore C (lv1 := [(6, .int (0)), (0, .ref (xad E (81))), (1, .int (nI qa)), (2, .int (nI x)), (3, .int (nI qb)), (4, .int (nI y)), (5, .int (nI m))]) dX8_copy_119 (by decide) rfl ?_
                      have loop : ∀ (j k : Nat), j + k = m → WM zp l ze { frames := 2, cells := 0, slots := 0, locals := 45 } zs zm za zb zh zc 0 0 (MQ zb (va_Qi (fun r (u : xV × (Nat → Int64)) => (mpost (sp_copy (nI qa) (nI x) (nI qb) (nI y) (nI m) (mv σ)) σ) r u.1) (fun u t => xP E u.1 u.2 t.heap) (xA E)) za zs 0 0 (xA E)) E (xA E) 7 (va_up σ 21 (lfN (σ 20) (σ 21) qa x k)) (τ) 121 [(0, .ref (xad E (81))), (1, .int (nI qa)), (2, .int (nI x)), (3, .int (nI qb)), (4, .int (nI y)), (5, .int (nI m)), (6, .int (nI k))] [] := by
                        intro j
                        induction j with
                        | zero =>
                          intro k hk
                          refine x_iload C 6 dX8_copy_121 rfl ?_
                          refine x_iload C 5 dX8_copy_123 rfl ?_
                          refine x_icmp_ge C (tgt := 155) dX8_copy_125 (by decide) (fun h11 => ?_) (fun h11 => absurd h11 (nI_nlt (a := k) (b := m) (by omega) (by omega)))
                          refine WM.to (σ1 := va_up (va_up σ 21 (lfN (σ 20) (σ 21) qa x m)) 20 (σ 20)) ?_ (by rw [show k = m by omega]; exact Eq.trans (xself _ 20).symm (congrArg (va_up _ _) (va_up_ne _ _ (by decide)))) rfl rfl rfl
                          refine x_iconst C (v := 0) dX8_copy_155 (by decide) ?_
                          refine x_istore C (lv1 := [(6, .int (0)), (0, .ref (xad E (81))), (1, .int (nI qa)), (2, .int (nI x)), (3, .int (nI qb)), (4, .int (nI y)), (5, .int (nI m))]) dX8_copy_156 (by decide) rfl ?_
                          have loop2 : ∀ (j k : Nat), j + k = m → WM zp l ze { frames := 2, cells := 0, slots := 0, locals := 45 } zs zm za zb zh zc 0 0 (MQ zb (va_Qi (fun r (u : xV × (Nat → Int64)) => (mpost (sp_copy (nI qa) (nI x) (nI qb) (nI y) (nI m) (mv σ)) σ) r u.1) (fun u t => xP E u.1 u.2 t.heap) (xA E)) za zs 0 0 (xA E)) E (xA E) 7 (va_up (va_up σ 21 (lfN (σ 20) (σ 21) qa x m)) 20 (mvN (σ 20) qa x qb y k)) (τ) 158 [(0, .ref (xad E (81))), (1, .int (nI qa)), (2, .int (nI x)), (3, .int (nI qb)), (4, .int (nI y)), (5, .int (nI m)), (6, .int (nI k))] [] := by
                            intro j
                            induction j with
                            | zero =>
                              intro k hk
                              refine x_iload C 6 dX8_copy_158 rfl ?_
                              refine x_iload C 5 dX8_copy_160 rfl ?_
                              refine x_icmp_ge C (tgt := 193) dX8_copy_162 (by decide) (fun h12 => ?_) (fun h12 => absurd h12 (nI_nlt (a := k) (b := m) (by omega) (by omega)))
                              refine WM.to (σ1 := va_up (va_up σ 21 (lfN (σ 20) (σ 21) qa x m)) 20 (mvN (σ 20) qa x qb y m)) ?_ (by rw [show k = m by omega]) rfl rfl rfl
                              refine x_iload C 5 dX8_copy_193 rfl ?_
                              exact x_oret C (mpost_of (V := va_up (mv σ) 7 (mvN (σ 20) qa x qb y m)) (Eq.trans (if_pos (by first | assumption | ((try simp only [rng, mayQ, tI_lt, tI_eq, cvr_0, mvr_0, cvr_c, mvr_c, ruleQ, tn_999, tl_200, tl_999, bitsQ, tl_16, tl_32, tl_40, hasQ, tl_0, tl_1, tl_2, tl_3, tl_4, tl_5, tl_6, tl_7, tl_8, tl_9, tl_10, tl_11, tl_12, tl_13, tl_40, tl_99] at h1 h2 ⊢) <;> omega))) (Eq.trans (congrArg (fun z => copyS z (nI x) (nI qb).toNatClampNeg (nI y) (nI m) (mv σ)) (nI_clamp (show qa < 2 ^ 31 by omega))) (Eq.trans (congrArg (fun z => copyS qa (nI x) z (nI y) (nI m) (mv σ)) (nI_clamp (show qb < 2 ^ 31 by omega))) (Eq.trans (if_neg (fun z => z.elim (fun w => h3 w) (fun w => h4 w))) (Eq.trans (if_neg (fun z => z h5)) (Eq.trans (if_pos ⟨hA, hB2⟩) (by rw [nI_clamp (show x < 2 ^ 31 by omega), nI_clamp (show y < 2 ^ 31 by omega), nI_clamp (show m < 2 ^ 31 by omega)]; rfl))))))) (by rw [mv_v20, mv_v21]) (by rw [cv_v20, cv_v21]) rfl) dX8_copy_195
                            | succ j ih =>
                              intro k hk
                              refine x_iload C 6 dX8_copy_158 rfl ?_
                              refine x_iload C 5 dX8_copy_160 rfl ?_
                              refine x_icmp_ge C (tgt := 193) dX8_copy_162 (by decide) (fun h13 => absurd (nI_lt (a := k) (b := m) (by omega) (by omega)) h13) (fun h13 => ?_)
                              refine x_aload_n C 0 dX8_copy_165 rfl rfl ?_
                              refine x_get C (Nat.le_of_ble_eq_true rfl) xd_81 fl_X8_40 (q := (0, 92, 0)) (v := .ref (xad E (92))) rfl rfl dX8_copy_166 ?_
                              refine x_bipush C (v := 40) dX8_copy_169 (by decide) ?_
                              refine x_iload_n C 3 dX8_copy_171 rfl rfl ?_
                              refine x_imul C dX8_copy_172 ?_
                              refine WM.topi (y := nI (40 * qb)) (pk_mul 40 qb) ?_
                              refine x_iload C 4 dX8_copy_173 rfl ?_
                              refine x_iadd C dX8_copy_175 ?_
                              refine WM.topi (y := nI (40 * qb + y)) (nI_add (40 * qb) y) ?_
                              refine x_iload C 6 dX8_copy_176 rfl ?_
                              refine x_iadd C dX8_copy_178 ?_
                              refine WM.topi (y := nI (40 * qb + y + k)) (nI_add (40 * qb + y) k) ?_
                              refine x_aload_n C 0 dX8_copy_179 rfl rfl ?_
                              refine x_get C (Nat.le_of_ble_eq_true rfl) xd_81 fl_X8_43 (q := (0, 93, 0)) (v := .ref (xad E (93))) rfl rfl dX8_copy_180 ?_
                              refine x_iload C 6 dX8_copy_183 rfl ?_
                              refine x_ald C (Nat.le_of_ble_eq_true rfl) xd_93 (v := (lfN (σ 20) (σ 21) qa x m) k) (vp_in_nI (show k < 40 by omega) (by decide)) (by rw [(nI_clamp (show k < 2 ^ 31 by omega)), Nat.zero_add, Nat.one_mul]; exact (Eq.trans (congrFun (va_up_ne _ (j := 21) (k := 20) _ (by decide)) _) (congrFun (va_up_self _ _ _) _))) dX8_copy_185 ?_
                              refine x_ast C (σ' := va_up (va_up σ 21 (lfN (σ 20) (σ 21) qa x m)) 20 (upd (mvN (σ 20) qa x qb y k) (40 * qb + y + k) ((lfN (σ 20) (σ 21) qa x m) k))) (Nat.le_of_ble_eq_true rfl) xd_92 (by decide) (vp_in_nI (show 40 * qb + y + k < 160 by omega) (by decide)) (by rw [(nI_clamp (show 40 * qb + y + k < 2 ^ 31 by omega)), Nat.zero_add, Nat.one_mul]; exact (u2_bank _ _ _ _ _)) dX8_copy_186 ?_
                              refine x_iinc C (v := nI (k + 1)) (lv1 := [(6, .int (nI (k + 1))), (0, .ref (xad E (81))), (1, .int (nI qa)), (2, .int (nI x)), (3, .int (nI qb)), (4, .int (nI y)), (5, .int (nI m))]) 6 dX8_copy_187 rfl (nI_add k 1) (by decide) rfl ?_
                              refine x_goto2 C (tgt := 158) dX8_copy_190 (by decide) ?_
                              refine WM.keep [1, 2, 3, 4, 5, 6, 0] (lv' := [(0, .ref (xad E (81))), (1, .int (nI qa)), (2, .int (nI x)), (3, .int (nI qb)), (4, .int (nI y)), (5, .int (nI m)), (6, .int (nI (k + 1)))]) rfl ?_
                              exact WM.to (ih (k + 1) (by omega)) (congrArg (va_up _ _) (mv_s (by omega))) rfl rfl rfl
                          refine WM.keep [1, 2, 3, 4, 5, 6, 0] rfl ?_
                          exact WM.to (loop2 (m) 0 (by omega)) (congrArg (va_up _ _) (mv_0 _ _ _ _ _).symm) rfl rfl rfl
                        | succ j ih =>
                          intro k hk
                          refine x_iload C 6 dX8_copy_121 rfl ?_
                          refine x_iload C 5 dX8_copy_123 rfl ?_
                          refine x_icmp_ge C (tgt := 155) dX8_copy_125 (by decide) (fun h14 => absurd (nI_lt (a := k) (b := m) (by omega) (by omega)) h14) (fun h14 => ?_)
                          refine x_aload_n C 0 dX8_copy_128 rfl rfl ?_
                          refine x_get C (Nat.le_of_ble_eq_true rfl) xd_81 fl_X8_43 (q := (0, 93, 0)) (v := .ref (xad E (93))) rfl rfl dX8_copy_129 ?_
                          refine x_iload C 6 dX8_copy_132 rfl ?_
                          refine x_aload_n C 0 dX8_copy_134 rfl rfl ?_
                          refine x_get C (Nat.le_of_ble_eq_true rfl) xd_81 fl_X8_40 (q := (0, 92, 0)) (v := .ref (xad E (92))) rfl rfl dX8_copy_135 ?_
                          refine x_bipush C (v := 40) dX8_copy_138 (by decide) ?_
                          refine x_iload_n C 1 dX8_copy_140 rfl rfl ?_
                          refine x_imul C dX8_copy_141 ?_
                          refine WM.topi (y := nI (40 * qa)) (pk_mul 40 qa) ?_
                          refine x_iload_n C 2 dX8_copy_142 rfl rfl ?_
                          refine x_iadd C dX8_copy_143 ?_
                          refine WM.topi (y := nI (40 * qa + x)) (nI_add (40 * qa) x) ?_
                          refine x_iload C 6 dX8_copy_144 rfl ?_
                          refine x_iadd C dX8_copy_146 ?_
                          refine WM.topi (y := nI (40 * qa + x + k)) (nI_add (40 * qa + x) k) ?_
                          refine x_ald C (Nat.le_of_ble_eq_true rfl) xd_92 (v := σ 20 (40 * qa + x + k)) (vp_in_nI (show 40 * qa + x + k < 160 by omega) (by decide)) (by rw [(nI_clamp (show 40 * qa + x + k < 2 ^ 31 by omega)), Nat.zero_add, Nat.one_mul]; exact (congrFun (va_up_ne _ (j := 20) (k := 21) _ (by decide)) _)) dX8_copy_147 ?_
                          refine x_ast C (σ' := va_up σ 21 (upd (lfN (σ 20) (σ 21) qa x k) k (σ 20 (40 * qa + x + k)))) (Nat.le_of_ble_eq_true rfl) xd_93 (by decide) (vp_in_nI (show k < 40 by omega) (by decide)) (by rw [(nI_clamp (show k < 2 ^ 31 by omega)), Nat.zero_add, Nat.one_mul]; exact (u2_bank _ _ _ _ _)) dX8_copy_148 ?_
                          refine x_iinc C (v := nI (k + 1)) (lv1 := [(6, .int (nI (k + 1))), (0, .ref (xad E (81))), (1, .int (nI qa)), (2, .int (nI x)), (3, .int (nI qb)), (4, .int (nI y)), (5, .int (nI m))]) 6 dX8_copy_149 rfl (nI_add k 1) (by decide) rfl ?_
                          refine x_goto2 C (tgt := 121) dX8_copy_152 (by decide) ?_
                          refine WM.keep [1, 2, 3, 4, 5, 6, 0] (lv' := [(0, .ref (xad E (81))), (1, .int (nI qa)), (2, .int (nI x)), (3, .int (nI qb)), (4, .int (nI y)), (5, .int (nI m)), (6, .int (nI (k + 1)))]) rfl ?_
                          exact WM.to (ih (k + 1) (by omega)) (congrArg (va_up _ _) (lf_s _ _ _ _ _)) rfl rfl rfl
                      refine WM.keep [1, 2, 3, 4, 5, 6, 0] rfl ?_
                      exact WM.to (loop (m) 0 (by omega)) (Eq.trans (xself _ _).symm (congrArg (va_up _ _) (lf_0 _ _ _ _).symm)) rfl rfl rfl
                    · refine x_aload_n C 0 dX8_copy_111 rfl rfl ?_
                      refine x_ldc C dX8_copy_112 kc_X8_46 ?_
                      refine x_callVi C (As := [.int ((-1000001))]) (rest := []) (c_finds l E σ τ 0 (by decide) (-1000001) (by decide)) kv_X8_61 (x_recv C (Nat.le_of_ble_eq_true rfl) xd_81 rfl) ⟨Nat.le_of_ble_eq_true rfl, Nat.le_of_ble_eq_true rfl⟩ rfl rfl (Nat.le_of_ble_eq_true rfl) dX8_copy_114 ?_
                      exact x_oret C (mpost_of (V := u2 (mv σ) 2 0 (σ 14 0 + 1)) (Eq.trans (if_pos (by first | assumption | ((try simp only [rng, mayQ, tI_lt, tI_eq, cvr_0, mvr_0, cvr_c, mvr_c, ruleQ, tn_999, tl_200, tl_999, bitsQ, tl_16, tl_32, tl_40, hasQ, tl_0, tl_1, tl_2, tl_3, tl_4, tl_5, tl_6, tl_7, tl_8, tl_9, tl_10, tl_11, tl_12, tl_13, tl_40, tl_99] at h1 h2 ⊢) <;> omega))) (Eq.trans (congrArg (fun z => copyS z i (nI qb).toNatClampNeg j n (mv σ)) (nI_clamp (show qa < 2 ^ 31 by omega))) (Eq.trans (congrArg (fun z => copyS qa i z j n (mv σ)) (nI_clamp (show qb < 2 ^ 31 by omega))) (Eq.trans (if_neg (fun z => z.elim (fun w => h3 w) (fun w => h4 w))) (Eq.trans (if_neg (fun z => z h5)) (if_neg (fun z => z.2.2.2 h10))))))) (by rw [mv_u14]) (by rw [cv_u14]) rfl) dX8_copy_117
          · refine x_aload_n C 0 dX8_copy_62 rfl rfl ?_
            refine x_ldcw C dX8_copy_63 kc_X8_283 ?_
            refine x_callVi C (As := [.int ((-1000003))]) (rest := []) (c_finds l E σ τ 2 (by decide) (-1000003) (by decide)) kv_X8_61 (x_recv C (Nat.le_of_ble_eq_true rfl) xd_81 rfl) ⟨Nat.le_of_ble_eq_true rfl, Nat.le_of_ble_eq_true rfl⟩ rfl rfl (Nat.le_of_ble_eq_true rfl) dX8_copy_66 ?_
            exact x_oret C (mpost_of (V := u2 (mv σ) 2 2 (σ 14 2 + 1)) (Eq.trans (if_pos (by first | assumption | ((try simp only [rng, mayQ, tI_lt, tI_eq, cvr_0, mvr_0, cvr_c, mvr_c, ruleQ, tn_999, tl_200, tl_999, bitsQ, tl_16, tl_32, tl_40, hasQ, tl_0, tl_1, tl_2, tl_3, tl_4, tl_5, tl_6, tl_7, tl_8, tl_9, tl_10, tl_11, tl_12, tl_13, tl_40, tl_99] at h1 h2 ⊢) <;> omega))) (Eq.trans (congrArg (fun z => copyS z i (nI qb).toNatClampNeg j n (mv σ)) (nI_clamp (show qa < 2 ^ 31 by omega))) (Eq.trans (congrArg (fun z => copyS qa i z j n (mv σ)) (nI_clamp (show qb < 2 ^ 31 by omega))) (Eq.trans (if_neg (fun z => z.elim (fun w => h3 w) (fun w => h4 w))) (if_pos h5))))) (by rw [mv_u14]) (by rw [cv_u14]) rfl) dX8_copy_69
        · refine x_aload_n C 0 dX8_copy_39 rfl rfl ?_
          refine x_ldcw C dX8_copy_40 kc_X8_279 ?_
          refine x_callVi C (As := [.int ((-1000006))]) (rest := []) (c_finds l E σ τ 5 (by decide) (-1000006) (by decide)) kv_X8_61 (x_recv C (Nat.le_of_ble_eq_true rfl) xd_81 rfl) ⟨Nat.le_of_ble_eq_true rfl, Nat.le_of_ble_eq_true rfl⟩ rfl rfl (Nat.le_of_ble_eq_true rfl) dX8_copy_43 ?_
          exact x_oret C (mpost_of (V := u2 (mv σ) 2 5 (σ 14 5 + 1)) (Eq.trans (if_pos (by first | assumption | ((try simp only [rng, mayQ, tI_lt, tI_eq, cvr_0, mvr_0, cvr_c, mvr_c, ruleQ, tn_999, tl_200, tl_999, bitsQ, tl_16, tl_32, tl_40, hasQ, tl_0, tl_1, tl_2, tl_3, tl_4, tl_5, tl_6, tl_7, tl_8, tl_9, tl_10, tl_11, tl_12, tl_13, tl_40, tl_99] at h1 h2 ⊢) <;> omega))) (Eq.trans (congrArg (fun z => copyS z i (nI qb).toNatClampNeg j n (mv σ)) (nI_clamp (show qa < 2 ^ 31 by omega))) (Eq.trans (congrArg (fun z => copyS qa i z j n (mv σ)) (nI_clamp (show qb < 2 ^ 31 by omega))) (if_pos (Or.inr h4))))) (by rw [mv_u14]) (by rw [cv_u14]) rfl) dX8_copy_46
    · refine x_aload_n C 0 dX8_copy_14 rfl rfl ?_
      refine x_ldc C dX8_copy_15 kc_X8_46 ?_
      refine x_callVi C (As := [.int ((-1000001))]) (rest := []) (c_finds l E σ τ 0 (by decide) (-1000001) (by decide)) kv_X8_61 (x_recv C (Nat.le_of_ble_eq_true rfl) xd_81 rfl) ⟨Nat.le_of_ble_eq_true rfl, Nat.le_of_ble_eq_true rfl⟩ rfl rfl (Nat.le_of_ble_eq_true rfl) dX8_copy_17 ?_
      exact x_oret C (mpost_of (V := u2 (mv σ) 2 0 (σ 14 0 + 1)) (if_neg (by first | assumption | ((try simp only [rng, mayQ, tI_lt, tI_eq, cvr_0, mvr_0, cvr_c, mvr_c, ruleQ, tn_999, tl_200, tl_999, bitsQ, tl_16, tl_32, tl_40, hasQ, tl_0, tl_1, tl_2, tl_3, tl_4, tl_5, tl_6, tl_7, tl_8, tl_9, tl_10, tl_11, tl_12, tl_13, tl_40, tl_99] at h1 h2 ⊢) <;> omega))) (by rw [mv_u14]) (by rw [cv_u14]) rfl) dX8_copy_20
