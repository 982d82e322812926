/-! sheets: write, load, judge -/
theorem rngSz {x n : Int32} (hn : 0 ≤ n.toInt ∧ n.toInt ≤ 40) (h : rng x 0 (n - 1)) : ∃ p : Nat, p < 40 ∧ x = nI p := by
  have h1 := rng_iff.mp h
  have e1 : (1 : Int32).toInt = 1 := by decide
  rw [tI_sub (by omega) (by omega), tI_0, e1] at h1
  obtain ⟨j, hj, e⟩ := nI_is (x := x) (by omega) (n := 39) (by omega) (by decide)
  exact ⟨j, by omega, e⟩
abbrev loadQ (g M : Nat → Int32) (q : Nat) (n : Int32) (i : Nat) : Prop := ¬ nI i < n ∨ ¬ rng (M (40 * q + i)) 0 (roomG g i)
def ldN (g M : Nat → Int32) (q k : Nat) : Nat → Int32 := fun i => if 20 ≤ i ∧ i < 20 + k then M (40 * q + (i - 20)) else g i
theorem ld_0 (g M : Nat → Int32) (q : Nat) : ldN g M q 0 = g := by
  funext i
  exact if_neg (by omega)
theorem ld_s (g M : Nat → Int32) (q k : Nat) : upd (ldN g M q k) (20 + k) (M (40 * q + k)) = ldN g M q (k + 1) := by
  funext i
  by_cases h : i = 20 + k
  · subst h
    rw [upd_at]
    unfold ldN
    rw [if_pos (by omega), show 20 + k - 20 = k by omega]
  · rw [upd_ne h]
    unfold ldN
    by_cases h2 : 20 ≤ i ∧ i < 20 + k
    · rw [if_pos h2, if_pos (by omega)]
    · rw [if_neg h2, if_neg (by omega)]
theorem ld_k {g M : Nat → Int32} {q k j : Nat} (h : k ≤ 12) : ldN g M q k (32 + j) = g (32 + j) := if_neg (by omega)
theorem ld_room {g M : Nat → Int32} {q k j : Nat} (h : k ≤ 12) : roomG (ldN g M q k) j = roomG g j := by
  unfold roomG
  rw [ld_k h]
def loadS (q : Nat) (s : xV) : Int32 × xV := if s 5 q = 0 then miss s else (nI (firstN (loadQ (s 0) (s 7) q (s 6 q)) 12), va_up s 0 (ldN (s 0) (s 7) q (firstN (loadQ (s 0) (s 7) q (s 6 q)) 12)))
def sp_load (sh : Int32) (s : xV) : Int32 × xV := if rng sh 0 3 then loadS sh.toNatClampNeg s else bad s
theorem load_at {s : xV} {q k : Nat} (h0 : ¬ s 5 q = 0) (h : ∀ i, i < k → ¬ loadQ (s 0) (s 7) q (s 6 q) i) (hk : k = 12 ∨ (k < 12 ∧ loadQ (s 0) (s 7) q (s 6 q) k)) : loadS q s = (nI k, va_up s 0 (ldN (s 0) (s 7) q k)) := by
  unfold loadS
  rw [if_neg h0]
  rcases hk with hk | ⟨h1, h2⟩
  · subst hk
    rw [first_no 12 h]
  · rw [first_at h h2 12 h1]
theorem load_at2 {s : xV} {q k : Nat} (h0 : ¬ s 5 q = 0) (h : ∀ i, i < k → ¬ loadQ (s 0) (s 7) q (s 6 q) i) (h1 : k ≤ 12) (h2 : loadQ (s 0) (s 7) q (s 6 q) k) : loadS q s = (nI k, va_up s 0 (ldN (s 0) (s 7) q k)) := load_at h0 h (by
  by_cases e : k = 12
  · exact Or.inl e
  · exact Or.inr ⟨by omega, h2⟩)
theorem load_s {g M : Nat → Int32} {q k : Nat} {n : Int32} (h : ∀ i, i < k → ¬ loadQ g M q n i) (h1 : nI k < n) (h2 : rng (M (40 * q + k)) 0 (roomG g k)) : ∀ i, i < k + 1 → ¬ loadQ g M q n i := hyp_s h (fun z => z.elim (fun a => a h1) (fun a => a h2))
abbrev judQ (g M : Nat → Int32) (q i : Nat) : Prop := ¬ stepsG g (i + 1) 4 = M (40 * q + i)
def judN (g M : Nat → Int32) (q n : Nat) : Int32 := if firstN (judQ g M q) n < n then nI (1 + firstN (judQ g M q) n) else 0
def judS (q : Nat) (s : xV) : Int32 × xV := if s 5 q = 0 then miss s else (judN (s 0) (s 7) q (s 6 q).toNatClampNeg, s)
def sp_judge (sh : Int32) (s : xV) : Int32 × xV := if rng sh 0 3 then judS sh.toNatClampNeg s else bad s
theorem jud_at {s : xV} {q k m : Nat} (h0 : ¬ s 5 q = 0) (hm : s 6 q = nI m) (hm2 : m ≤ 40) (h : ∀ i, i < k → ¬ judQ (s 0) (s 7) q i) (hk : k < m) (h2 : judQ (s 0) (s 7) q k) : judS q s = (nI (1 + k), s) := by
  unfold judS judN
  rw [if_neg h0, hm, nI_clamp (by omega), first_at h h2 m hk, if_pos hk]
theorem jud_no {s : xV} {q k m : Nat} (h0 : ¬ s 5 q = 0) (hm : s 6 q = nI m) (hm2 : m ≤ 40) (h : ∀ i, i < k → ¬ judQ (s 0) (s 7) q i) (hk : k = m) : judS q s = (0, s) := by
  subst hk
  unfold judS judN
  rw [if_neg h0, hm, nI_clamp (by omega), first_no k h, if_neg (Nat.lt_irrefl _)]
set_option maxHeartbeats 4000000 in
set_option maxRecDepth 100000 in
theorem c_shmiss (l : Launch) (E : xE) (σ : Nat → Nat → Int32) (τ : Nat → Int64) (q : Nat) (hq : q < 4) : xMi l yX1_isMissing cX1_isMissing 1 .boolean 0 0 E [.ref (xad E (73 + 2 * q))] (σ) (τ) (if σ 7 q = 0 then 1 else 0) (σ) (τ) := by
  refine xMi_of (own := RX1) (by decide +kernel) rfl (Nat.le_of_ble_eq_true rfl) ?_
  intro zp ze zs zm za zb zh zc C
  refine WM.to (lv1 := [(0, .ref (xad E (73 + 2 * q)))]) (st1 := []) (σ1 := σ) (τ1 := τ) ?_ rfl rfl rfl rfl
  refine x_aload_n C 0 dX1_isMissing_0 rfl rfl ?_
  refine x_get C (by omega) (xs_0 (show q < 4 by omega)) fl_X1_13 (q := (1, 7, q)) (v := .int (σ 7 q)) rfl rfl dX1_isMissing_1 ?_
  refine x_if_ne C (tgt := 11) dX1_isMissing_4 (by decide) (fun h1 => ?_) (fun h1 => ?_)
  · refine x_iconst C (v := 0) dX1_isMissing_11 (by decide) ?_
    exact x_zret C rfl (by simp [h1]) rfl rfl dX1_isMissing_12
  · refine x_iconst C (v := 1) dX1_isMissing_7 (by decide) ?_
    refine x_goto2 C (tgt := 12) dX1_isMissing_8 (by decide) ?_
    exact x_zret C rfl (by simp [h1]) rfl rfl dX1_isMissing_12
set_option maxHeartbeats 4000000 in
set_option maxRecDepth 100000 in
theorem c_shcut (l : Launch) (E : xE) (σ : Nat → Nat → Int32) (τ : Nat → Int64) (q : Nat) (hq : q < 4) (v : Int32) : xMi l yX1_cut cX1_cut 2 .int 0 0 E [.ref (xad E (73 + 2 * q)), .int (v)] (σ) (τ) (cutI (σ 7 q) v) (σ) (τ) := by
  refine xMi_of (own := RX1) (by decide +kernel) rfl (Nat.le_of_ble_eq_true rfl) ?_
  intro zp ze zs zm za zb zh zc C
  refine WM.to (lv1 := [(0, .ref (xad E (73 + 2 * q))), (1, .int (v))]) (st1 := []) (σ1 := σ) (τ1 := τ) ?_ rfl rfl rfl rfl
  refine x_aload_n C 0 dX1_cut_0 rfl rfl ?_
  refine x_get C (by omega) (xs_0 (show q < 4 by omega)) fl_X1_13 (q := (1, 7, q)) (v := .int (σ 7 q)) rfl rfl dX1_cut_1 ?_
  by_cases t1 : σ 7 q = 8
  · refine WM.topi (y := 8) t1 ?_
    refine x_lookup C (off := 28) (tgt := 32) dX1_cut_4 (by decide) (by decide) (by decide) ?_
    refine x_iload_n C 1 dX1_cut_32 rfl rfl ?_
    refine x_i2b C dX1_cut_33 ?_
    exact x_iret C (by simp [cutI, t1]) rfl rfl dX1_cut_34
  · by_cases t2 : σ 7 q = 16
    · refine WM.topi (y := 16) t2 ?_
      refine x_lookup C (off := 31) (tgt := 35) dX1_cut_4 (by decide) (by decide) (by decide) ?_
      refine x_iload_n C 1 dX1_cut_35 rfl rfl ?_
      refine x_i2s C dX1_cut_36 ?_
      exact x_iret C (by simp [cutI, t1, t2]) rfl rfl dX1_cut_37
    · refine x_lookup C (off := 34) (tgt := 38) dX1_cut_4 (by decide) (by show Op.lookupswitch.offset [(8, 28), (16, 31)] 34 (Int32.toInt (σ 7 q)) = 34; rw [lv_osw t1 (by decide), lv_osw t2 (by decide)]; rfl) (by decide) ?_
      refine x_iload_n C 1 dX1_cut_38 rfl rfl ?_
      exact x_iret C (by simp [cutI, t1, t2]) rfl rfl dX1_cut_39
set_option maxHeartbeats 4000000 in
set_option maxRecDepth 100000 in
theorem c_shput (l : Launch) (E : xE) (σ : Nat → Nat → Int32) (τ : Nat → Int64) (q : Nat) (hq : q < 4) (p : Nat) (hp : p < 40) (hr : rng (nI p) 0 (σ 8 q - 1)) (v : Int32) : xMv l yX1_put cX1_put 3 1 22 E [.ref (xad E (73 + 2 * q)), .int (nI p), .int (v)] (σ) (τ) (u2 σ 9 (40 * q + p) (cutI (σ 7 q) v)) (τ) := by
  refine xMv_of (own := RX1) (by decide +kernel) rfl (Nat.le_of_ble_eq_true rfl) ?_
  intro zp ze zs zm za zb zh zc C
  refine WM.to (lv1 := [(0, .ref (xad E (73 + 2 * q))), (1, .int (nI p)), (2, .int (v))]) (st1 := []) (σ1 := σ) (τ1 := τ) ?_ rfl rfl rfl rfl
  refine x_iload_n C 1 dX1_put_0 rfl rfl ?_
  refine x_iconst C (v := 0) dX1_put_1 (by decide) ?_
  refine x_aload_n C 0 dX1_put_2 rfl rfl ?_
  refine x_get C (by omega) (xs_0 (show q < 4 by omega)) fl_X1_17 (q := (1, 8, q)) (v := .int (σ 8 q)) rfl rfl dX1_put_3 ?_
  refine x_iconst C (v := 1) dX1_put_6 (by decide) ?_
  refine x_isub C dX1_put_7 ?_
  refine x_callNi C (As := [.int (nI p), .int (0), .int ((σ 8 q) - 1)]) (rest := []) (c_within l E σ τ (nI p) 0 ((σ 8 q) - 1)) kn_X1_20 ⟨Nat.le_of_ble_eq_true rfl, Nat.le_of_ble_eq_true rfl⟩ rfl rfl (Nat.le_of_ble_eq_true rfl) dX1_put_8 ?_
  refine x_ifeqB C (tgt := 25) dX1_put_11 (by decide) (fun h1 => absurd hr h1) (fun h1 => ?_)
  refine x_aload_n C 0 dX1_put_14 rfl rfl ?_
  refine x_get C (by omega) (xs_0 (show q < 4 by omega)) fl_X1_9 (q := (0, 74 + 2 * q, 0)) (v := .ref (xad E (74 + 2 * q))) rfl rfl dX1_put_15 ?_
  refine x_iload_n C 1 dX1_put_18 rfl rfl ?_
  refine x_aload_n C 0 dX1_put_19 rfl rfl ?_
  refine x_iload_n C 2 dX1_put_20 rfl rfl ?_
  refine x_callVi C (As := [.int (v)]) (rest := [.int (nI p), .ref (xad E (74 + 2 * q))]) (c_shcut l E σ τ q (by omega) v) kv_X1_26 (x_recv C (by omega) (xs_0 (show q < 4 by omega)) rfl) ⟨Nat.le_of_ble_eq_true rfl, Nat.le_of_ble_eq_true rfl⟩ rfl rfl (Nat.le_of_ble_eq_true rfl) dX1_put_21 ?_
  refine x_ast C (σ' := u2 σ 9 (40 * q + p) (cutI (σ 7 q) v)) (by omega) (xs_1 (show q < 4 by omega)) (by decide) (vp_in_nI (show p < 40 by omega) (by decide)) (by rw [(nI_clamp (show p < 2 ^ 31 by omega)), Nat.one_mul]) dX1_put_24 ?_
  exact x_vret C rfl rfl dX1_put_25
set_option maxHeartbeats 4000000 in
set_option maxRecDepth 100000 in
theorem k_write (l : Launch) (E : xE) (σ : Nat → Nat → Int32) (τ : Nat → Int64) (T : Nat) (hT : T < 1073741824) (sh place v : Int32) (hI : Inv (cv σ) T) : xOi l yX7_write cX7_write 4 .int 2 44 E [.ref (xad E (0)), .int (sh), .int (place), .int (v)] σ τ (cpost (sp_write sh place v (cv σ)) σ) := by
  refine xOi_of (own := RX7) (by decide +kernel) rfl (Nat.le_of_ble_eq_true rfl) ?_
  intro zp ze zs zm za zb zh zc C
  refine WM.to (lv1 := [(0, .ref (xad E (0))), (1, .int (sh)), (2, .int (place)), (3, .int (v))]) (st1 := []) (σ1 := σ) (τ1 := τ) ?_ rfl rfl rfl rfl
  have hg : gI (σ 0) := hI.g
  have hgT : gT (σ 0) T := hI.t
  have h0 : 0 ≤ (σ 0 10).toInt := hI.h0
  refine x_iload_n C 1 dX7_write_0 rfl rfl ?_
  refine x_callSi C (As := [.int (sh)]) (rest := []) (c_isSheet l E σ τ sh) ks_X7_261 ⟨Nat.le_of_ble_eq_true rfl, Nat.le_of_ble_eq_true rfl⟩ rfl rfl (Nat.le_of_ble_eq_true rfl) dX7_write_1 ?_
  refine x_ifneB C (tgt := 14) dX7_write_4 (by decide) (fun h1 => ?_) (fun h1 => ?_)
  · obtain ⟨q, hqa, hqb, rfl⟩ := rngN (a := 0) (b := 3) h1 (by decide) (by decide) (by decide)
    refine x_aload_n C 0 dX7_write_14 rfl rfl ?_
    refine x_get C (Nat.le_of_ble_eq_true rfl) xd_0 fl_X7_33 (q := (0, 58, 0)) (v := .ref (xad E (58))) rfl rfl dX7_write_15 ?_
    refine x_iload_n C 1 dX7_write_18 rfl rfl ?_
    refine x_aldq C (Nat.le_of_ble_eq_true rfl) (t := 2) (Or.inr rfl) (z := 73 + 2 * q) xd_58 rfl (vp_in_nI (show q < 4 by omega) (by decide)) (by rw [nI_clamp (by omega)]) dX7_write_19 ?_
    refine x_callVi C (As := []) (rest := []) (c_shmiss l E σ τ q (by omega)) kv_X7_266 (x_recv C (by omega) (xs_0 (show q < 4 by omega)) rfl) ⟨Nat.le_of_ble_eq_true rfl, Nat.le_of_ble_eq_true rfl⟩ rfl rfl (Nat.le_of_ble_eq_true rfl) dX7_write_20 ?_
    refine x_ifeqB C (tgt := 34) dX7_write_23 (by decide) (fun h2 => ?_) (fun h2 => ?_)
    · refine x_iload_n C 2 dX7_write_34 rfl rfl ?_
      refine x_iconst C (v := 0) dX7_write_35 (by decide) ?_
      refine x_aload_n C 0 dX7_write_36 rfl rfl ?_
      refine x_get C (Nat.le_of_ble_eq_true rfl) xd_0 fl_X7_33 (q := (0, 58, 0)) (v := .ref (xad E (58))) rfl rfl dX7_write_37 ?_
      refine x_iload_n C 1 dX7_write_40 rfl rfl ?_
      refine x_aldq C (Nat.le_of_ble_eq_true rfl) (t := 2) (Or.inr rfl) (z := 73 + 2 * q) xd_58 rfl (vp_in_nI (show q < 4 by omega) (by decide)) (by rw [nI_clamp (by omega)]) dX7_write_41 ?_
      refine x_get C (by omega) (xs_0 (show q < 4 by omega)) fl_X7_270 (q := (1, 8, q)) (v := .int (σ 8 q)) rfl rfl dX7_write_42 ?_
      refine x_iconst C (v := 1) dX7_write_45 (by decide) ?_
      refine x_isub C dX7_write_46 ?_
      refine x_callSi C (As := [.int (place), .int (0), .int ((σ 8 q) - 1)]) (rest := []) (c_within l E σ τ place 0 ((σ 8 q) - 1)) ks_X7_59 ⟨Nat.le_of_ble_eq_true rfl, Nat.le_of_ble_eq_true rfl⟩ rfl rfl (Nat.le_of_ble_eq_true rfl) dX7_write_47 ?_
      refine x_ifneB C (tgt := 60) dX7_write_50 (by decide) (fun h3 => ?_) (fun h3 => ?_)
      · obtain ⟨p, hp, rfl⟩ := rngSz (hI.2.2.2.2 q (by omega)) h3
        refine x_aload_n C 0 dX7_write_60 rfl rfl ?_
        refine x_get C (Nat.le_of_ble_eq_true rfl) xd_0 fl_X7_33 (q := (0, 58, 0)) (v := .ref (xad E (58))) rfl rfl dX7_write_61 ?_
        refine x_iload_n C 1 dX7_write_64 rfl rfl ?_
        refine x_aldq C (Nat.le_of_ble_eq_true rfl) (t := 2) (Or.inr rfl) (z := 73 + 2 * q) xd_58 rfl (vp_in_nI (show q < 4 by omega) (by decide)) (by rw [nI_clamp (by omega)]) dX7_write_65 ?_
        refine x_iload_n C 2 dX7_write_66 rfl rfl ?_
        refine x_iload_n C 3 dX7_write_67 rfl rfl ?_
        refine x_callVv C (As := [.int (nI p), .int (v)]) (rest := []) (c_shput l E σ τ q (by omega) p (by omega) (by assumption) v) kv_X7_271 (x_recv C (by omega) (xs_0 (show q < 4 by omega)) rfl) ⟨Nat.le_of_ble_eq_true rfl, Nat.le_of_ble_eq_true rfl⟩ rfl rfl (Nat.le_of_ble_eq_true rfl) dX7_write_68 ?_
        refine x_iconst C (v := 1) dX7_write_71 (by decide) ?_
        exact x_oret C (cpost_of (V := u2 (cv σ) 7 (40 * q + p) (cutI (σ 7 q) v)) (Eq.trans (if_pos (by first | assumption | ((try simp only [rng, mayQ, tI_lt, tI_eq, cvr_0, mvr_0, cvr_c, mvr_c, ruleQ, tn_999, tl_200, tl_999, bitsQ, tl_16, tl_32, tl_40, tl_0, tl_1, tl_2, tl_3, tl_4, tl_5, tl_6, tl_7, tl_8, tl_9, tl_10, tl_11, tl_12, tl_13, tl_99] at h1 ⊢) <;> omega))) (Eq.trans (congrArg (fun z => wrS z (nI p) v (cv σ)) (nI_clamp (by omega))) (Eq.trans (if_neg h2) (Eq.trans (if_pos h3) (congrArg (fun z => writeS q z v (cv σ)) (nI_clamp (by omega))))))) (by rw [cv_u9]) (by rw [mv_u9]) rfl) dX7_write_72
      · refine x_aload_n C 0 dX7_write_53 rfl rfl ?_
        refine x_ldc C dX7_write_54 kc_X7_63 ?_
        refine x_callVi C (As := [.int ((-1000001))]) (rest := []) (c_finding l E σ τ 0 (by decide) (-1000001) (by decide)) kv_X7_64 (x_recv C (Nat.le_of_ble_eq_true rfl) xd_0 rfl) ⟨Nat.le_of_ble_eq_true rfl, Nat.le_of_ble_eq_true rfl⟩ rfl rfl (Nat.le_of_ble_eq_true rfl) dX7_write_56 ?_
        exact x_oret C (cpost_of (V := u2 (cv σ) 2 0 (σ 4 0 + 1)) (Eq.trans (if_pos (by first | assumption | ((try simp only [rng, mayQ, tI_lt, tI_eq, cvr_0, mvr_0, cvr_c, mvr_c, ruleQ, tn_999, tl_200, tl_999, bitsQ, tl_16, tl_32, tl_40, tl_0, tl_1, tl_2, tl_3, tl_4, tl_5, tl_6, tl_7, tl_8, tl_9, tl_10, tl_11, tl_12, tl_13, tl_99] at h1 ⊢) <;> omega))) (Eq.trans (congrArg (fun z => wrS z place v (cv σ)) (nI_clamp (by omega))) (Eq.trans (if_neg h2) (if_neg h3)))) (by rw [cv_u4]) (by rw [mv_u4]) rfl) dX7_write_59
    · refine x_aload_n C 0 dX7_write_26 rfl rfl ?_
      refine x_ldcw C dX7_write_27 kc_X7_256 ?_
      refine x_callVi C (As := [.int ((-1000006))]) (rest := []) (c_finding l E σ τ 5 (by decide) (-1000006) (by decide)) kv_X7_64 (x_recv C (Nat.le_of_ble_eq_true rfl) xd_0 rfl) ⟨Nat.le_of_ble_eq_true rfl, Nat.le_of_ble_eq_true rfl⟩ rfl rfl (Nat.le_of_ble_eq_true rfl) dX7_write_30 ?_
      exact x_oret C (cpost_of (V := u2 (cv σ) 2 5 (σ 4 5 + 1)) (Eq.trans (if_pos (by first | assumption | ((try simp only [rng, mayQ, tI_lt, tI_eq, cvr_0, mvr_0, cvr_c, mvr_c, ruleQ, tn_999, tl_200, tl_999, bitsQ, tl_16, tl_32, tl_40, tl_0, tl_1, tl_2, tl_3, tl_4, tl_5, tl_6, tl_7, tl_8, tl_9, tl_10, tl_11, tl_12, tl_13, tl_99] at h1 ⊢) <;> omega))) (Eq.trans (congrArg (fun z => wrS z place v (cv σ)) (nI_clamp (by omega))) (if_pos h2))) (by rw [cv_u4]) (by rw [mv_u4]) rfl) dX7_write_33
  · refine x_aload_n C 0 dX7_write_7 rfl rfl ?_
    refine x_ldc C dX7_write_8 kc_X7_63 ?_
    refine x_callVi C (As := [.int ((-1000001))]) (rest := []) (c_finding l E σ τ 0 (by decide) (-1000001) (by decide)) kv_X7_64 (x_recv C (Nat.le_of_ble_eq_true rfl) xd_0 rfl) ⟨Nat.le_of_ble_eq_true rfl, Nat.le_of_ble_eq_true rfl⟩ rfl rfl (Nat.le_of_ble_eq_true rfl) dX7_write_10 ?_
    exact x_oret C (cpost_of (V := u2 (cv σ) 2 0 (σ 4 0 + 1)) (if_neg (by first | assumption | ((try simp only [rng, mayQ, tI_lt, tI_eq, cvr_0, mvr_0, cvr_c, mvr_c, ruleQ, tn_999, tl_200, tl_999, bitsQ, tl_16, tl_32, tl_40, tl_0, tl_1, tl_2, tl_3, tl_4, tl_5, tl_6, tl_7, tl_8, tl_9, tl_10, tl_11, tl_12, tl_13, tl_99] at h1 ⊢) <;> omega))) (by rw [cv_u4]) (by rw [mv_u4]) rfl) dX7_write_13
set_option maxHeartbeats 4000000 in
set_option maxRecDepth 100000 in
theorem m_write (l : Launch) (E : xE) (σ : Nat → Nat → Int32) (τ : Nat → Int64) (T : Nat) (hT : T < 1073741824) (sh place v : Int32) (hI : Inv (mv σ) T) (hlv : ∀ j, j < 12 → σ 15 j = (xzl 1).getD j 0) : xOi l yX8_write cX8_write 4 .int 2 45 E [.ref (xad E (81)), .int (sh), .int (place), .int (v)] σ τ (mpost (sp_write sh place v (mv σ)) σ) := by
  refine xOi_of (own := RX8) (by decide +kernel) rfl (Nat.le_of_ble_eq_true rfl) ?_
  intro zp ze zs zm za zb zh zc C
  refine WM.to (lv1 := [(0, .ref (xad E (81))), (1, .int (sh)), (2, .int (place)), (3, .int (v))]) (st1 := []) (σ1 := σ) (τ1 := τ) ?_ rfl rfl rfl rfl
  have hg : gI (σ 10) := hI.g
  have hgT : gT (σ 10) T := hI.t
  have h0 : 0 ≤ (σ 10 10).toInt := hI.h0
  refine x_iload_n C 1 dX8_write_0 rfl rfl ?_
  refine x_callSi C (As := [.int (sh)]) (rest := []) (c_misSheet l E σ τ sh) ks_X8_284 ⟨Nat.le_of_ble_eq_true rfl, Nat.le_of_ble_eq_true rfl⟩ rfl rfl (Nat.le_of_ble_eq_true rfl) dX8_write_1 ?_
  refine x_ifneB C (tgt := 14) dX8_write_4 (by decide) (fun h1 => ?_) (fun h1 => ?_)
  · obtain ⟨q, hqa, hqb, rfl⟩ := rngN (a := 0) (b := 3) h1 (by decide) (by decide) (by decide)
    refine x_aload_n C 0 dX8_write_14 rfl rfl ?_
    refine x_get C (Nat.le_of_ble_eq_true rfl) xd_81 fl_X8_34 (q := (0, 90, 0)) (v := .ref (xad E (90))) rfl rfl dX8_write_15 ?_
    refine x_iload_n C 1 dX8_write_18 rfl rfl ?_
    refine x_ald C (Nat.le_of_ble_eq_true rfl) xd_90 (v := σ 18 q) (vp_in_nI (show q < 4 by omega) (by decide)) (by rw [(nI_clamp (show q < 2 ^ 31 by omega)), Nat.zero_add, Nat.one_mul]) dX8_write_19 ?_
    refine x_if_ne C (tgt := 31) dX8_write_20 (by decide) (fun h2 => ?_) (fun h2 => ?_)
    · refine x_iload_n C 2 dX8_write_31 rfl rfl ?_
      refine x_i2l C dX8_write_32 ?_
      refine x_lconst C (v := 0) dX8_write_33 (by decide) ?_
      refine x_aload_n C 0 dX8_write_34 rfl rfl ?_
      refine x_get C (Nat.le_of_ble_eq_true rfl) xd_81 fl_X8_37 (q := (0, 91, 0)) (v := .ref (xad E (91))) rfl rfl dX8_write_35 ?_
      refine x_iload_n C 1 dX8_write_38 rfl rfl ?_
      refine x_ald C (Nat.le_of_ble_eq_true rfl) xd_91 (v := σ 19 q) (vp_in_nI (show q < 4 by omega) (by decide)) (by rw [(nI_clamp (show q < 2 ^ 31 by omega)), Nat.zero_add, Nat.one_mul]) dX8_write_39 ?_
      refine x_iconst C (v := 1) dX8_write_40 (by decide) ?_
      refine x_isub C dX8_write_41 ?_
      refine x_i2l C dX8_write_42 ?_
      refine x_callSi C (As := [.long (Int32.toInt64 place), .long (0), .long (Int32.toInt64 ((σ 19 q) - 1))]) (rest := []) (c_in l E σ τ (Int32.toInt64 place) 0 (Int32.toInt64 ((σ 19 q) - 1))) ks_X8_49 ⟨Nat.le_of_ble_eq_true rfl, Nat.le_of_ble_eq_true rfl⟩ rfl rfl (Nat.le_of_ble_eq_true rfl) dX8_write_43 ?_
      refine WM.topi (y := if rng place 0 ((σ 19 q) - 1) then 1 else 0) (in_eq place 0 ((σ 19 q) - 1) (by decide) rfl) ?_
      refine x_ifneB C (tgt := 56) dX8_write_46 (by decide) (fun h3 => ?_) (fun h3 => ?_)
      · obtain ⟨p, hp, rfl⟩ := rngSz (hI.2.2.2.2 q (by omega)) h3
        refine x_aload_n C 0 dX8_write_56 rfl rfl ?_
        refine x_get C (Nat.le_of_ble_eq_true rfl) xd_81 fl_X8_40 (q := (0, 92, 0)) (v := .ref (xad E (92))) rfl rfl dX8_write_57 ?_
        refine x_bipush C (v := 40) dX8_write_60 (by decide) ?_
        refine x_iload_n C 1 dX8_write_62 rfl rfl ?_
        refine x_imul C dX8_write_63 ?_
        refine WM.topi (y := nI (40 * q)) (pk_mul 40 q) ?_
        refine x_iload_n C 2 dX8_write_64 rfl rfl ?_
        refine x_iadd C dX8_write_65 ?_
        refine WM.topi (y := nI (40 * q + p)) (nI_add (40 * q) p) ?_
        refine x_aload_n C 0 dX8_write_66 rfl rfl ?_
        refine x_get C (Nat.le_of_ble_eq_true rfl) xd_81 fl_X8_34 (q := (0, 90, 0)) (v := .ref (xad E (90))) rfl rfl dX8_write_67 ?_
        refine x_iload_n C 1 dX8_write_70 rfl rfl ?_
        refine x_ald C (Nat.le_of_ble_eq_true rfl) xd_90 (v := σ 18 q) (vp_in_nI (show q < 4 by omega) (by decide)) (by rw [(nI_clamp (show q < 2 ^ 31 by omega)), Nat.zero_add, Nat.one_mul]) dX8_write_71 ?_
        refine x_bipush C (v := 8) dX8_write_72 (by decide) ?_
        refine x_icmp_ne C (tgt := 82) dX8_write_74 (by decide) (fun h4 => ?_) (fun h4 => ?_)
        · refine x_aload_n C 0 dX8_write_82 rfl rfl ?_
          refine x_get C (Nat.le_of_ble_eq_true rfl) xd_81 fl_X8_34 (q := (0, 90, 0)) (v := .ref (xad E (90))) rfl rfl dX8_write_83 ?_
          refine x_iload_n C 1 dX8_write_86 rfl rfl ?_
          refine x_ald C (Nat.le_of_ble_eq_true rfl) xd_90 (v := σ 18 q) (vp_in_nI (show q < 4 by omega) (by decide)) (by rw [(nI_clamp (show q < 2 ^ 31 by omega)), Nat.zero_add, Nat.one_mul]) dX8_write_87 ?_
          refine x_bipush C (v := 16) dX8_write_88 (by decide) ?_
          refine x_icmp_ne C (tgt := 98) dX8_write_90 (by decide) (fun h5 => ?_) (fun h5 => ?_)
          · refine x_iload_n C 3 dX8_write_98 rfl rfl ?_
            refine WM.topi (y := cutI (σ 18 q) v) (by simp [cutI, h4, h5]) ?_
            refine x_ast C (σ' := u2 σ 20 (40 * q + p) (cutI (σ 18 q) v)) (Nat.le_of_ble_eq_true rfl) xd_92 (by decide) (vp_in_nI (show 40 * q + p < 160 by omega) (by decide)) (by rw [(nI_clamp (show 40 * q + p < 2 ^ 31 by omega)), Nat.zero_add, Nat.one_mul]) dX8_write_99 ?_
            refine x_iconst C (v := 1) dX8_write_100 (by decide) ?_
            exact x_oret C (mpost_of (V := u2 (mv σ) 7 (40 * q + p) (cutI (σ 18 q) v)) (Eq.trans (if_pos (by first | assumption | ((try simp only [rng, mayQ, tI_lt, tI_eq, cvr_0, mvr_0, cvr_c, mvr_c, ruleQ, tn_999, tl_200, tl_999, bitsQ, tl_16, tl_32, tl_40, tl_0, tl_1, tl_2, tl_3, tl_4, tl_5, tl_6, tl_7, tl_8, tl_9, tl_10, tl_11, tl_12, tl_13, tl_16, tl_40, tl_99] at h1 ⊢) <;> omega))) (Eq.trans (congrArg (fun z => wrS z (nI p) v (mv σ)) (nI_clamp (by omega))) (Eq.trans (if_neg h2) (Eq.trans (if_pos h3) (congrArg (fun z => writeS q z v (mv σ)) (nI_clamp (by omega))))))) (by rw [mv_u20]) (by rw [cv_u20]) rfl) dX8_write_101
          · refine x_iload_n C 3 dX8_write_93 rfl rfl ?_
            refine x_i2s C dX8_write_94 ?_
            refine x_goto2 C (tgt := 99) dX8_write_95 (by decide) ?_
            refine WM.topi (y := cutI (σ 18 q) v) (by simp [cutI, h4, h5]) ?_
            refine x_ast C (σ' := u2 σ 20 (40 * q + p) (cutI (σ 18 q) v)) (Nat.le_of_ble_eq_true rfl) xd_92 (by decide) (vp_in_nI (show 40 * q + p < 160 by omega) (by decide)) (by rw [(nI_clamp (show 40 * q + p < 2 ^ 31 by omega)), Nat.zero_add, Nat.one_mul]) dX8_write_99 ?_
            refine x_iconst C (v := 1) dX8_write_100 (by decide) ?_
            exact x_oret C (mpost_of (V := u2 (mv σ) 7 (40 * q + p) (cutI (σ 18 q) v)) (Eq.trans (if_pos (by first | assumption | ((try simp only [rng, mayQ, tI_lt, tI_eq, cvr_0, mvr_0, cvr_c, mvr_c, ruleQ, tn_999, tl_200, tl_999, bitsQ, tl_16, tl_32, tl_40, tl_0, tl_1, tl_2, tl_3, tl_4, tl_5, tl_6, tl_7, tl_8, tl_9, tl_10, tl_11, tl_12, tl_13, tl_16, tl_40, tl_99] at h1 ⊢) <;> omega))) (Eq.trans (congrArg (fun z => wrS z (nI p) v (mv σ)) (nI_clamp (by omega))) (Eq.trans (if_neg h2) (Eq.trans (if_pos h3) (congrArg (fun z => writeS q z v (mv σ)) (nI_clamp (by omega))))))) (by rw [mv_u20]) (by rw [cv_u20]) rfl) dX8_write_101
        · refine x_iload_n C 3 dX8_write_77 rfl rfl ?_
          refine x_i2b C dX8_write_78 ?_
          refine x_goto2 C (tgt := 99) dX8_write_79 (by decide) ?_
          refine WM.topi (y := cutI (σ 18 q) v) (by simp [cutI, h4]) ?_
          refine x_ast C (σ' := u2 σ 20 (40 * q + p) (cutI (σ 18 q) v)) (Nat.le_of_ble_eq_true rfl) xd_92 (by decide) (vp_in_nI (show 40 * q + p < 160 by omega) (by decide)) (by rw [(nI_clamp (show 40 * q + p < 2 ^ 31 by omega)), Nat.zero_add, Nat.one_mul]) dX8_write_99 ?_
          refine x_iconst C (v := 1) dX8_write_100 (by decide) ?_
          exact x_oret C (mpost_of (V := u2 (mv σ) 7 (40 * q + p) (cutI (σ 18 q) v)) (Eq.trans (if_pos (by first | assumption | ((try simp only [rng, mayQ, tI_lt, tI_eq, cvr_0, mvr_0, cvr_c, mvr_c, ruleQ, tn_999, tl_200, tl_999, bitsQ, tl_16, tl_32, tl_40, tl_0, tl_1, tl_2, tl_3, tl_4, tl_5, tl_6, tl_7, tl_8, tl_9, tl_10, tl_11, tl_12, tl_13, tl_16, tl_40, tl_99] at h1 ⊢) <;> omega))) (Eq.trans (congrArg (fun z => wrS z (nI p) v (mv σ)) (nI_clamp (by omega))) (Eq.trans (if_neg h2) (Eq.trans (if_pos h3) (congrArg (fun z => writeS q z v (mv σ)) (nI_clamp (by omega))))))) (by rw [mv_u20]) (by rw [cv_u20]) rfl) dX8_write_101
      · refine x_aload_n C 0 dX8_write_49 rfl rfl ?_
        refine x_ldc C dX8_write_50 kc_X8_46 ?_
        refine x_callVi C (As := [.int ((-1000001))]) (rest := []) (c_finds l E σ τ 0 (by decide) (-1000001) (by decide)) kv_X8_61 (x_recv C (Nat.le_of_ble_eq_true rfl) xd_81 rfl) ⟨Nat.le_of_ble_eq_true rfl, Nat.le_of_ble_eq_true rfl⟩ rfl rfl (Nat.le_of_ble_eq_true rfl) dX8_write_52 ?_
        exact x_oret C (mpost_of (V := u2 (mv σ) 2 0 (σ 14 0 + 1)) (Eq.trans (if_pos (by first | assumption | ((try simp only [rng, mayQ, tI_lt, tI_eq, cvr_0, mvr_0, cvr_c, mvr_c, ruleQ, tn_999, tl_200, tl_999, bitsQ, tl_16, tl_32, tl_40, tl_0, tl_1, tl_2, tl_3, tl_4, tl_5, tl_6, tl_7, tl_8, tl_9, tl_10, tl_11, tl_12, tl_13, tl_16, tl_40, tl_99] at h1 ⊢) <;> omega))) (Eq.trans (congrArg (fun z => wrS z place v (mv σ)) (nI_clamp (by omega))) (Eq.trans (if_neg h2) (if_neg h3)))) (by rw [mv_u14]) (by rw [cv_u14]) rfl) dX8_write_55
    · refine x_aload_n C 0 dX8_write_23 rfl rfl ?_
      refine x_ldcw C dX8_write_24 kc_X8_279 ?_
      refine x_callVi C (As := [.int ((-1000006))]) (rest := []) (c_finds l E σ τ 5 (by decide) (-1000006) (by decide)) kv_X8_61 (x_recv C (Nat.le_of_ble_eq_true rfl) xd_81 rfl) ⟨Nat.le_of_ble_eq_true rfl, Nat.le_of_ble_eq_true rfl⟩ rfl rfl (Nat.le_of_ble_eq_true rfl) dX8_write_27 ?_
      exact x_oret C (mpost_of (V := u2 (mv σ) 2 5 (σ 14 5 + 1)) (Eq.trans (if_pos (by first | assumption | ((try simp only [rng, mayQ, tI_lt, tI_eq, cvr_0, mvr_0, cvr_c, mvr_c, ruleQ, tn_999, tl_200, tl_999, bitsQ, tl_16, tl_32, tl_40, tl_0, tl_1, tl_2, tl_3, tl_4, tl_5, tl_6, tl_7, tl_8, tl_9, tl_10, tl_11, tl_12, tl_13, tl_16, tl_40, tl_99] at h1 ⊢) <;> omega))) (Eq.trans (congrArg (fun z => wrS z place v (mv σ)) (nI_clamp (by omega))) (if_pos h2))) (by rw [mv_u14]) (by rw [cv_u14]) rfl) dX8_write_30
  · refine x_aload_n C 0 dX8_write_7 rfl rfl ?_
    refine x_ldc C dX8_write_8 kc_X8_46 ?_
    refine x_callVi C (As := [.int ((-1000001))]) (rest := []) (c_finds l E σ τ 0 (by decide) (-1000001) (by decide)) kv_X8_61 (x_recv C (Nat.le_of_ble_eq_true rfl) xd_81 rfl) ⟨Nat.le_of_ble_eq_true rfl, Nat.le_of_ble_eq_true rfl⟩ rfl rfl (Nat.le_of_ble_eq_true rfl) dX8_write_10 ?_
    exact x_oret C (mpost_of (V := u2 (mv σ) 2 0 (σ 14 0 + 1)) (if_neg (by first | assumption | ((try simp only [rng, mayQ, tI_lt, tI_eq, cvr_0, mvr_0, cvr_c, mvr_c, ruleQ, tn_999, tl_200, tl_999, bitsQ, tl_16, tl_32, tl_40, tl_0, tl_1, tl_2, tl_3, tl_4, tl_5, tl_6, tl_7, tl_8, tl_9, tl_10, tl_11, tl_12, tl_13, tl_16, tl_40, tl_99] at h1 ⊢) <;> omega))) (by rw [mv_u14]) (by rw [cv_u14]) rfl) dX8_write_13
set_option maxHeartbeats 4000000 in
set_option maxRecDepth 100000 in
theorem k_load (l : Launch) (E : xE) (σ : Nat → Nat → Int32) (τ : Nat → Int64) (T : Nat) (hT : T < 1073741824) (sh : Int32) (hI : Inv (cv σ) T) : xOi l yX7_load cX7_load 4 .int 2 44 E [.ref (xad E (0)), .int (sh)] σ τ (cpost (sp_load sh (cv σ)) σ) := by
  refine xOi_of (own := RX7) (by decide +kernel) rfl (Nat.le_of_ble_eq_true rfl) ?_
  intro zp ze zs zm za zb zh zc C
  refine WM.to (lv1 := [(0, .ref (xad E (0))), (1, .int (sh))]) (st1 := []) (σ1 := σ) (τ1 := τ) ?_ rfl rfl rfl rfl
  have hg : gI (σ 0) := hI.g
  have hgT : gT (σ 0) T := hI.t
  have h0 : 0 ≤ (σ 0 10).toInt := hI.h0
  refine x_iload_n C 1 dX7_load_0 rfl rfl ?_
  refine x_callSi C (As := [.int (sh)]) (rest := []) (c_isSheet l E σ τ sh) ks_X7_261 ⟨Nat.le_of_ble_eq_true rfl, Nat.le_of_ble_eq_true rfl⟩ rfl rfl (Nat.le_of_ble_eq_true rfl) dX7_load_1 ?_
  refine x_ifneB C (tgt := 14) dX7_load_4 (by decide) (fun h1 => ?_) (fun h1 => ?_)
  · obtain ⟨q, hqa, hqb, rfl⟩ := rngN (a := 0) (b := 3) h1 (by decide) (by decide) (by decide)
    refine x_aload_n C 0 dX7_load_14 rfl rfl ?_
    refine x_get C (Nat.le_of_ble_eq_true rfl) xd_0 fl_X7_33 (q := (0, 58, 0)) (v := .ref (xad E (58))) rfl rfl dX7_load_15 ?_
    refine x_iload_n C 1 dX7_load_18 rfl rfl ?_
    refine x_aldq C (Nat.le_of_ble_eq_true rfl) (t := 2) (Or.inr rfl) (z := 73 + 2 * q) xd_58 rfl (vp_in_nI (show q < 4 by omega) (by decide)) (by rw [nI_clamp (by omega)]) dX7_load_19 ?_
    refine x_astore_n C (lv1 := [(2, .ref (xad E (73 + 2 * q))), (0, .ref (xad E (0))), (1, .int (nI q))]) dX7_load_20 rfl (by decide) rfl ?_
    refine x_aload_n C 0 dX7_load_21 rfl rfl ?_
    refine x_callVi C (As := []) (rest := []) (c_shmiss l E σ τ q (by omega)) kv_X7_266 (x_recv C (by omega) (xs_0 (show q < 4 by omega)) rfl) ⟨Nat.le_of_ble_eq_true rfl, Nat.le_of_ble_eq_true rfl⟩ rfl rfl (Nat.le_of_ble_eq_true rfl) dX7_load_22 ?_
    refine x_ifeqB C (tgt := 36) dX7_load_25 (by decide) (fun h2 => ?_) (fun h2 => ?_)
    · refine x_iconst C (v := 0) dX7_load_36 (by decide) ?_
      refine x_istore_n C (lv1 := [(3, .int (0)), (2, .ref (xad E (73 + 2 * q))), (0, .ref (xad E (0))), (1, .int (nI q))]) dX7_load_37 rfl (by decide) rfl ?_
      have loop : ∀ (j k : Nat), j + k = 12 → (∀ i, i < k → ¬ loadQ (σ 0) (σ 9) q (σ 8 q) i) → WM zp l ze { frames := 2, cells := 0, slots := 0, locals := 44 } zs zm za zb zh zc 0 0 (MQ zb (va_Qi (fun r (u : xV × (Nat → Int64)) => (cpost (sp_load (nI q) (cv σ)) σ) r u.1) (fun u t => xP E u.1 u.2 t.heap) (xA E)) za zs 0 0 (xA E)) E (xA E) 4 (va_up σ 0 (ldN (σ 0) (σ 9) q k)) (τ) 38 [(0, .ref (xad E (0))), (1, .int (nI q)), (2, .ref (xad E (73 + 2 * q))), (3, .int (nI k))] [] := by
        intro j
        induction j with
        | zero =>
          intro k hk hnf
          refine x_iload_n C 3 dX7_load_38 rfl rfl ?_
          refine x_aload_n C 2 dX7_load_39 rfl rfl ?_
          refine x_get C (by omega) (xs_0 (show q < 4 by omega)) fl_X7_270 (q := (1, 8, q)) (v := .int (σ 8 q)) rfl (congrArg Value.int (congrFun (va_up_ne _ (j := 8) (k := 0) _ (by decide)) _)) dX7_load_40 ?_
          refine x_icmp_ge C (tgt := 100) dX7_load_43 (by decide) (fun h3 => ?_) (fun h3 => ?_)
          · refine x_iload_n C 3 dX7_load_100 rfl rfl ?_
            exact x_oret C (cpost_of (V := va_up (cv σ) 0 (ldN (σ 0) (σ 9) q k)) (Eq.trans (if_pos (by first | assumption | ((try simp only [rng, mayQ, tI_lt, tI_eq, cvr_0, mvr_0, cvr_c, mvr_c, ruleQ, tn_999, tl_200, tl_999, bitsQ, tl_16, tl_32, tl_40, tl_0, tl_1, tl_2, tl_3, tl_4, tl_5, tl_6, tl_7, tl_8, tl_9, tl_10, tl_11, tl_12, tl_13, tl_99] at h1 ⊢) <;> omega))) (Eq.trans (congrArg (fun z => loadS z (cv σ)) (nI_clamp (by omega))) (load_at2 h2 hnf (by omega) (Or.inl h3)))) (by rw [cv_v0]) (by rw [mv_v0]) rfl) dX7_load_101
          · refine x_iload_n C 3 dX7_load_46 rfl rfl ?_
            refine x_bipush C (v := 12) dX7_load_47 (by decide) ?_
            refine x_icmp_ge C (tgt := 100) dX7_load_49 (by decide) (fun h4 => ?_) (fun h4 => absurd h4 (nI_nlt (a := k) (b := 12) (by omega) (by omega)))
            refine x_iload_n C 3 dX7_load_100 rfl rfl ?_
            exact x_oret C (cpost_of (V := va_up (cv σ) 0 (ldN (σ 0) (σ 9) q k)) (Eq.trans (if_pos (by first | assumption | ((try simp only [rng, mayQ, tI_lt, tI_eq, cvr_0, mvr_0, cvr_c, mvr_c, ruleQ, tn_999, tl_200, tl_999, bitsQ, tl_16, tl_32, tl_40, tl_0, tl_1, tl_2, tl_3, tl_4, tl_5, tl_6, tl_7, tl_8, tl_9, tl_10, tl_11, tl_12, tl_13, tl_99] at h1 ⊢) <;> omega))) (Eq.trans (congrArg (fun z => loadS z (cv σ)) (nI_clamp (by omega))) (load_at h2 hnf (Or.inl (by omega))))) (by rw [cv_v0]) (by rw [mv_v0]) rfl) dX7_load_101
        | succ j ih =>
          intro k hk hnf
          refine x_iload_n C 3 dX7_load_38 rfl rfl ?_
          refine x_aload_n C 2 dX7_load_39 rfl rfl ?_
          refine x_get C (by omega) (xs_0 (show q < 4 by omega)) fl_X7_270 (q := (1, 8, q)) (v := .int (σ 8 q)) rfl (congrArg Value.int (congrFun (va_up_ne _ (j := 8) (k := 0) _ (by decide)) _)) dX7_load_40 ?_
          refine x_icmp_ge C (tgt := 100) dX7_load_43 (by decide) (fun h5 => ?_) (fun h5 => ?_)
          · refine x_iload_n C 3 dX7_load_100 rfl rfl ?_
            exact x_oret C (cpost_of (V := va_up (cv σ) 0 (ldN (σ 0) (σ 9) q k)) (Eq.trans (if_pos (by first | assumption | ((try simp only [rng, mayQ, tI_lt, tI_eq, cvr_0, mvr_0, cvr_c, mvr_c, ruleQ, tn_999, tl_200, tl_999, bitsQ, tl_16, tl_32, tl_40, tl_0, tl_1, tl_2, tl_3, tl_4, tl_5, tl_6, tl_7, tl_8, tl_9, tl_10, tl_11, tl_12, tl_13, tl_99] at h1 ⊢) <;> omega))) (Eq.trans (congrArg (fun z => loadS z (cv σ)) (nI_clamp (by omega))) (load_at2 h2 hnf (by omega) (Or.inl h5)))) (by rw [cv_v0]) (by rw [mv_v0]) rfl) dX7_load_101
          · refine x_iload_n C 3 dX7_load_46 rfl rfl ?_
            refine x_bipush C (v := 12) dX7_load_47 (by decide) ?_
            refine x_icmp_ge C (tgt := 100) dX7_load_49 (by decide) (fun h6 => absurd (nI_lt (a := k) (b := 12) (by omega) (by omega)) h6) (fun h6 => ?_)
            refine x_aload_n C 2 dX7_load_52 rfl rfl ?_
            refine x_get C (by omega) (xs_0 (show q < 4 by omega)) fl_X7_280 (q := (0, 74 + 2 * q, 0)) (v := .ref (xad E (74 + 2 * q))) rfl rfl dX7_load_53 ?_
            refine x_iload_n C 3 dX7_load_56 rfl rfl ?_
            refine x_ald C (by omega) (xs_1 (show q < 4 by omega)) (v := σ 9 (40 * q + k)) (vp_in_nI (show k < 40 by omega) (by decide)) (by rw [(nI_clamp (show k < 2 ^ 31 by omega)), Nat.one_mul]; exact (congrFun (va_up_ne _ (j := 9) (k := 0) _ (by decide)) _)) dX7_load_57 ?_
            refine x_iconst C (v := 0) dX7_load_58 (by decide) ?_
            refine x_aload_n C 0 dX7_load_59 rfl rfl ?_
            refine x_get C (Nat.le_of_ble_eq_true rfl) xd_0 fl_X7_12 (q := (0, 1, 0)) (v := .ref (xad E (1))) rfl rfl dX7_load_60 ?_
            refine x_get C (Nat.le_of_ble_eq_true rfl) xd_1 fl_X7_68 (q := (0, 2, 0)) (v := .ref (xad E (2))) rfl rfl dX7_load_63 ?_
            refine x_iload_n C 3 dX7_load_66 rfl rfl ?_
            refine x_callVi C (As := [.int (nI k)]) (rest := [.int (0), .int (σ 9 (40 * q + k))]) (cW_roomOf l E σ τ 0 (by decide) (ldN (σ 0) (σ 9) q k) k (by omega) (by rw [ld_k (by omega)]; exact hg.k (by omega))) kv_X7_90 (x_recv C (Nat.le_of_ble_eq_true rfl) xd_2 rfl) ⟨Nat.le_of_ble_eq_true rfl, Nat.le_of_ble_eq_true rfl⟩ rfl rfl (Nat.le_of_ble_eq_true rfl) dX7_load_67 ?_
            refine WM.topi (y := roomG (σ 0) k) (ld_room (by omega)) ?_
            refine x_callSi C (As := [.int (σ 9 (40 * q + k)), .int (0), .int (roomG (σ 0) k)]) (rest := []) (c_within l E (va_up σ 0 (ldN (σ 0) (σ 9) q k)) τ (σ 9 (40 * q + k)) 0 (roomG (σ 0) k)) ks_X7_59 ⟨Nat.le_of_ble_eq_true rfl, Nat.le_of_ble_eq_true rfl⟩ rfl rfl (Nat.le_of_ble_eq_true rfl) dX7_load_70 ?_
            refine x_ifeqB C (tgt := 100) dX7_load_73 (by decide) (fun h7 => ?_) (fun h7 => ?_)
            · refine x_iload_n C 3 dX7_load_100 rfl rfl ?_
              exact x_oret C (cpost_of (V := va_up (cv σ) 0 (ldN (σ 0) (σ 9) q k)) (Eq.trans (if_pos (by first | assumption | ((try simp only [rng, mayQ, tI_lt, tI_eq, cvr_0, mvr_0, cvr_c, mvr_c, ruleQ, tn_999, tl_200, tl_999, bitsQ, tl_16, tl_32, tl_40, tl_0, tl_1, tl_2, tl_3, tl_4, tl_5, tl_6, tl_7, tl_8, tl_9, tl_10, tl_11, tl_12, tl_13, tl_99] at h1 ⊢) <;> omega))) (Eq.trans (congrArg (fun z => loadS z (cv σ)) (nI_clamp (by omega))) (load_at2 h2 hnf (by omega) (Or.inr h7)))) (by rw [cv_v0]) (by rw [mv_v0]) rfl) dX7_load_101
            · refine x_aload_n C 0 dX7_load_76 rfl rfl ?_
              refine x_get C (Nat.le_of_ble_eq_true rfl) xd_0 fl_X7_12 (q := (0, 1, 0)) (v := .ref (xad E (1))) rfl rfl dX7_load_77 ?_
              refine x_get C (Nat.le_of_ble_eq_true rfl) xd_1 fl_X7_68 (q := (0, 2, 0)) (v := .ref (xad E (2))) rfl rfl dX7_load_80 ?_
              refine x_get C (Nat.le_of_ble_eq_true rfl) xd_2 fl_X7_84 (q := (0, 5, 0)) (v := .ref (xad E (5))) rfl rfl dX7_load_83 ?_
              refine x_iload_n C 3 dX7_load_86 rfl rfl ?_
              refine x_aload_n C 2 dX7_load_87 rfl rfl ?_
              refine x_get C (by omega) (xs_0 (show q < 4 by omega)) fl_X7_280 (q := (0, 74 + 2 * q, 0)) (v := .ref (xad E (74 + 2 * q))) rfl rfl dX7_load_88 ?_
              refine x_iload_n C 3 dX7_load_91 rfl rfl ?_
              refine x_ald C (by omega) (xs_1 (show q < 4 by omega)) (v := σ 9 (40 * q + k)) (vp_in_nI (show k < 40 by omega) (by decide)) (by rw [(nI_clamp (show k < 2 ^ 31 by omega)), Nat.one_mul]; exact (congrFun (va_up_ne _ (j := 9) (k := 0) _ (by decide)) _)) dX7_load_92 ?_
              refine x_ast C (σ' := va_up σ 0 (upd (ldN (σ 0) (σ 9) q k) (20 + k) (σ 9 (40 * q + k)))) (Nat.le_of_ble_eq_true rfl) xd_5 (by decide) (vp_in_nI (show k < 12 by omega) (by decide)) (by rw [(nI_clamp (show k < 2 ^ 31 by omega)), Nat.one_mul]; exact (u2_bank _ _ _ _ _)) dX7_load_93 ?_
              refine x_iinc C (v := nI (k + 1)) (lv1 := [(3, .int (nI (k + 1))), (0, .ref (xad E (0))), (1, .int (nI q)), (2, .ref (xad E (73 + 2 * q)))]) 3 dX7_load_94 rfl (nI_add k 1) (by decide) rfl ?_
              refine x_goto2 C (tgt := 38) dX7_load_97 (by decide) ?_
              refine WM.keep [1, 2, 3, 0] (lv' := [(0, .ref (xad E (0))), (1, .int (nI q)), (2, .ref (xad E (73 + 2 * q))), (3, .int (nI (k + 1)))]) rfl ?_
              exact WM.to (ih (k + 1) (by omega) (load_s hnf h5 h7)) (congrArg (va_up _ _) (ld_s _ _ _ _)) rfl rfl rfl
      refine WM.keep [2, 3, 1, 0] rfl ?_
      exact WM.to (loop (12) 0 (by omega) (fun i hi => absurd hi (Nat.not_lt_zero i))) (Eq.trans (xself _ _).symm (congrArg (va_up _ _) (ld_0 _ _ _).symm)) rfl rfl rfl
    · refine x_aload_n C 1 dX7_load_28 rfl rfl ?_
      refine x_ldcw C dX7_load_29 kc_X7_256 ?_
      refine x_callVi C (As := [.int ((-1000006))]) (rest := []) (c_finding l E σ τ 5 (by decide) (-1000006) (by decide)) kv_X7_64 (x_recv C (Nat.le_of_ble_eq_true rfl) xd_0 rfl) ⟨Nat.le_of_ble_eq_true rfl, Nat.le_of_ble_eq_true rfl⟩ rfl rfl (Nat.le_of_ble_eq_true rfl) dX7_load_32 ?_
      exact x_oret C (cpost_of (V := u2 (cv σ) 2 5 (σ 4 5 + 1)) (Eq.trans (if_pos (by first | assumption | ((try simp only [rng, mayQ, tI_lt, tI_eq, cvr_0, mvr_0, cvr_c, mvr_c, ruleQ, tn_999, tl_200, tl_999, bitsQ, tl_16, tl_32, tl_40, tl_0, tl_1, tl_2, tl_3, tl_4, tl_5, tl_6, tl_7, tl_8, tl_9, tl_10, tl_11, tl_12, tl_13, tl_99] at h1 ⊢) <;> omega))) (Eq.trans (congrArg (fun z => loadS z (cv σ)) (nI_clamp (by omega))) (if_pos h2))) (by rw [cv_u4]) (by rw [mv_u4]) rfl) dX7_load_35
  · refine x_aload_n C 0 dX7_load_7 rfl rfl ?_
    refine x_ldc C dX7_load_8 kc_X7_63 ?_
    refine x_callVi C (As := [.int ((-1000001))]) (rest := []) (c_finding l E σ τ 0 (by decide) (-1000001) (by decide)) kv_X7_64 (x_recv C (Nat.le_of_ble_eq_true rfl) xd_0 rfl) ⟨Nat.le_of_ble_eq_true rfl, Nat.le_of_ble_eq_true rfl⟩ rfl rfl (Nat.le_of_ble_eq_true rfl) dX7_load_10 ?_
    exact x_oret C (cpost_of (V := u2 (cv σ) 2 0 (σ 4 0 + 1)) (if_neg (by first | assumption | ((try simp only [rng, mayQ, tI_lt, tI_eq, cvr_0, mvr_0, cvr_c, mvr_c, ruleQ, tn_999, tl_200, tl_999, bitsQ, tl_16, tl_32, tl_40, tl_0, tl_1, tl_2, tl_3, tl_4, tl_5, tl_6, tl_7, tl_8, tl_9, tl_10, tl_11, tl_12, tl_13, tl_99] at h1 ⊢) <;> omega))) (by rw [cv_u4]) (by rw [mv_u4]) rfl) dX7_load_13
set_option maxHeartbeats 4000000 in
set_option maxRecDepth 100000 in
theorem m_load (l : Launch) (E : xE) (σ : Nat → Nat → Int32) (τ : Nat → Int64) (T : Nat) (hT : T < 1073741824) (sh : Int32) (hI : Inv (mv σ) T) (hlv : ∀ j, j < 12 → σ 15 j = (xzl 1).getD j 0) : xOi l yX8_load cX8_load 3 .int 2 45 E [.ref (xad E (81)), .int (sh)] σ τ (mpost (sp_load sh (mv σ)) σ) := by
  refine xOi_of (own := RX8) (by decide +kernel) rfl (Nat.le_of_ble_eq_true rfl) ?_
  intro zp ze zs zm za zb zh zc C
  refine WM.to (lv1 := [(0, .ref (xad E (81))), (1, .int (sh))]) (st1 := []) (σ1 := σ) (τ1 := τ) ?_ rfl rfl rfl rfl
  have hg : gI (σ 10) := hI.g
  have hgT : gT (σ 10) T := hI.t
  have h0 : 0 ≤ (σ 10 10).toInt := hI.h0
  refine x_iload_n C 1 dX8_load_0 rfl rfl ?_
  refine x_callSi C (As := [.int (sh)]) (rest := []) (c_misSheet l E σ τ sh) ks_X8_284 ⟨Nat.le_of_ble_eq_true rfl, Nat.le_of_ble_eq_true rfl⟩ rfl rfl (Nat.le_of_ble_eq_true rfl) dX8_load_1 ?_
  refine x_ifneB C (tgt := 14) dX8_load_4 (by decide) (fun h1 => ?_) (fun h1 => ?_)
  · obtain ⟨q, hqa, hqb, rfl⟩ := rngN (a := 0) (b := 3) h1 (by decide) (by decide) (by decide)
    refine x_aload_n C 0 dX8_load_14 rfl rfl ?_
    refine x_get C (Nat.le_of_ble_eq_true rfl) xd_81 fl_X8_34 (q := (0, 90, 0)) (v := .ref (xad E (90))) rfl rfl dX8_load_15 ?_
    refine x_iload_n C 1 dX8_load_18 rfl rfl ?_
    refine x_ald C (Nat.le_of_ble_eq_true rfl) xd_90 (v := σ 18 q) (vp_in_nI (show q < 4 by omega) (by decide)) (by rw [(nI_clamp (show q < 2 ^ 31 by omega)), Nat.zero_add, Nat.one_mul]) dX8_load_19 ?_
    refine x_if_ne C (tgt := 31) dX8_load_20 (by decide) (fun h2 => ?_) (fun h2 => ?_)
    · refine x_iconst C (v := 0) dX8_load_31 (by decide) ?_
      refine x_istore_n C (lv1 := [(2, .int (0)), (0, .ref (xad E (81))), (1, .int (nI q))]) dX8_load_32 rfl (by decide) rfl ?_
      have loop : ∀ (j k : Nat), j + k = 12 → (∀ i, i < k → ¬ loadQ (σ 10) (σ 20) q (σ 19 q) i) → WM zp l ze { frames := 2, cells := 0, slots := 0, locals := 45 } zs zm za zb zh zc 0 0 (MQ zb (va_Qi (fun r (u : xV × (Nat → Int64)) => (mpost (sp_load (nI q) (mv σ)) σ) r u.1) (fun u t => xP E u.1 u.2 t.heap) (xA E)) za zs 0 0 (xA E)) E (xA E) 3 (va_up σ 10 (ldN (σ 10) (σ 20) q k)) (τ) 33 [(0, .ref (xad E (81))), (1, .int (nI q)), (2, .int (nI k))] [] := by
        intro j
        induction j with
        | zero =>
          intro k hk hnf
          refine x_iload_n C 2 dX8_load_33 rfl rfl ?_
          refine x_aload_n C 0 dX8_load_34 rfl rfl ?_
          refine x_get C (Nat.le_of_ble_eq_true rfl) xd_81 fl_X8_37 (q := (0, 91, 0)) (v := .ref (xad E (91))) rfl rfl dX8_load_35 ?_
          refine x_iload_n C 1 dX8_load_38 rfl rfl ?_
          refine x_ald C (Nat.le_of_ble_eq_true rfl) xd_91 (v := σ 19 q) (vp_in_nI (show q < 4 by omega) (by decide)) (by rw [(nI_clamp (show q < 2 ^ 31 by omega)), Nat.zero_add, Nat.one_mul]; exact (congrFun (va_up_ne _ (j := 19) (k := 10) _ (by decide)) _)) dX8_load_39 ?_
          refine x_icmp_ge C (tgt := 103) dX8_load_40 (by decide) (fun h3 => ?_) (fun h3 => ?_)
          · refine x_iload_n C 2 dX8_load_103 rfl rfl ?_
            exact x_oret C (mpost_of (V := va_up (mv σ) 0 (ldN (σ 10) (σ 20) q k)) (Eq.trans (if_pos (by first | assumption | ((try simp only [rng, mayQ, tI_lt, tI_eq, cvr_0, mvr_0, cvr_c, mvr_c, ruleQ, tn_999, tl_200, tl_999, bitsQ, tl_16, tl_32, tl_40, tl_0, tl_1, tl_2, tl_3, tl_4, tl_5, tl_6, tl_7, tl_8, tl_9, tl_10, tl_11, tl_12, tl_13, tl_20, tl_40, tl_99] at h1 ⊢) <;> omega))) (Eq.trans (congrArg (fun z => loadS z (mv σ)) (nI_clamp (by omega))) (load_at2 h2 hnf (by omega) (Or.inl h3)))) (by rw [mv_v10]) (by rw [cv_v10]) rfl) dX8_load_104
          · refine x_iload_n C 2 dX8_load_43 rfl rfl ?_
            refine x_bipush C (v := 12) dX8_load_44 (by decide) ?_
            refine x_icmp_ge C (tgt := 103) dX8_load_46 (by decide) (fun h4 => ?_) (fun h4 => absurd h4 (nI_nlt (a := k) (b := 12) (by omega) (by omega)))
            refine x_iload_n C 2 dX8_load_103 rfl rfl ?_
            exact x_oret C (mpost_of (V := va_up (mv σ) 0 (ldN (σ 10) (σ 20) q k)) (Eq.trans (if_pos (by first | assumption | ((try simp only [rng, mayQ, tI_lt, tI_eq, cvr_0, mvr_0, cvr_c, mvr_c, ruleQ, tn_999, tl_200, tl_999, bitsQ, tl_16, tl_32, tl_40, tl_0, tl_1, tl_2, tl_3, tl_4, tl_5, tl_6, tl_7, tl_8, tl_9, tl_10, tl_11, tl_12, tl_13, tl_20, tl_40, tl_99] at h1 ⊢) <;> omega))) (Eq.trans (congrArg (fun z => loadS z (mv σ)) (nI_clamp (by omega))) (load_at h2 hnf (Or.inl (by omega))))) (by rw [mv_v10]) (by rw [cv_v10]) rfl) dX8_load_104
        | succ j ih =>
          intro k hk hnf
          refine x_iload_n C 2 dX8_load_33 rfl rfl ?_
          refine x_aload_n C 0 dX8_load_34 rfl rfl ?_
          refine x_get C (Nat.le_of_ble_eq_true rfl) xd_81 fl_X8_37 (q := (0, 91, 0)) (v := .ref (xad E (91))) rfl rfl dX8_load_35 ?_
          refine x_iload_n C 1 dX8_load_38 rfl rfl ?_
          refine x_ald C (Nat.le_of_ble_eq_true rfl) xd_91 (v := σ 19 q) (vp_in_nI (show q < 4 by omega) (by decide)) (by rw [(nI_clamp (show q < 2 ^ 31 by omega)), Nat.zero_add, Nat.one_mul]; exact (congrFun (va_up_ne _ (j := 19) (k := 10) _ (by decide)) _)) dX8_load_39 ?_
          refine x_icmp_ge C (tgt := 103) dX8_load_40 (by decide) (fun h5 => ?_) (fun h5 => ?_)
          · refine x_iload_n C 2 dX8_load_103 rfl rfl ?_
            exact x_oret C (mpost_of (V := va_up (mv σ) 0 (ldN (σ 10) (σ 20) q k)) (Eq.trans (if_pos (by first | assumption | ((try simp only [rng, mayQ, tI_lt, tI_eq, cvr_0, mvr_0, cvr_c, mvr_c, ruleQ, tn_999, tl_200, tl_999, bitsQ, tl_16, tl_32, tl_40, tl_0, tl_1, tl_2, tl_3, tl_4, tl_5, tl_6, tl_7, tl_8, tl_9, tl_10, tl_11, tl_12, tl_13, tl_20, tl_40, tl_99] at h1 ⊢) <;> omega))) (Eq.trans (congrArg (fun z => loadS z (mv σ)) (nI_clamp (by omega))) (load_at2 h2 hnf (by omega) (Or.inl h5)))) (by rw [mv_v10]) (by rw [cv_v10]) rfl) dX8_load_104
          · refine x_iload_n C 2 dX8_load_43 rfl rfl ?_
            refine x_bipush C (v := 12) dX8_load_44 (by decide) ?_
            refine x_icmp_ge C (tgt := 103) dX8_load_46 (by decide) (fun h6 => absurd (nI_lt (a := k) (b := 12) (by omega) (by omega)) h6) (fun h6 => ?_)
            refine x_aload_n C 0 dX8_load_49 rfl rfl ?_
            refine x_get C (Nat.le_of_ble_eq_true rfl) xd_81 fl_X8_40 (q := (0, 92, 0)) (v := .ref (xad E (92))) rfl rfl dX8_load_50 ?_
            refine x_bipush C (v := 40) dX8_load_53 (by decide) ?_
            refine x_iload_n C 1 dX8_load_55 rfl rfl ?_
            refine x_imul C dX8_load_56 ?_
            refine WM.topi (y := nI (40 * q)) (pk_mul 40 q) ?_
            refine x_iload_n C 2 dX8_load_57 rfl rfl ?_
            refine x_iadd C dX8_load_58 ?_
            refine WM.topi (y := nI (40 * q + k)) (nI_add (40 * q) k) ?_
            refine x_ald C (Nat.le_of_ble_eq_true rfl) xd_92 (v := σ 20 (40 * q + k)) (vp_in_nI (show 40 * q + k < 160 by omega) (by decide)) (by rw [(nI_clamp (show 40 * q + k < 2 ^ 31 by omega)), Nat.zero_add, Nat.one_mul]; exact (congrFun (va_up_ne _ (j := 20) (k := 10) _ (by decide)) _)) dX8_load_59 ?_
            refine x_i2l C dX8_load_60 ?_
            refine x_lconst C (v := 0) dX8_load_61 (by decide) ?_
            refine x_aload_n C 0 dX8_load_62 rfl rfl ?_
            refine x_get C (Nat.le_of_ble_eq_true rfl) xd_81 fl_X8_9 (q := (0, 82, 0)) (v := .ref (xad E (82))) rfl rfl dX8_load_63 ?_
            refine x_iload_n C 2 dX8_load_66 rfl rfl ?_
            refine x_callSi C (As := [.ref (xad E (82)), .int (nI k)]) (rest := [.long (0), .long (Int32.toInt64 (σ 20 (40 * q + k)))]) (cM_roomOf l E σ τ 10 (by decide) (ldN (σ 10) (σ 20) q k) k (by omega)) ks_X8_77 ⟨Nat.le_of_ble_eq_true rfl, Nat.le_of_ble_eq_true rfl⟩ rfl rfl (Nat.le_of_ble_eq_true rfl) dX8_load_67 ?_
            refine WM.topi (y := roomG (σ 10) k) (ld_room (by omega)) ?_
            refine x_i2l C dX8_load_70 ?_
            refine x_callSi C (As := [.long (Int32.toInt64 (σ 20 (40 * q + k))), .long (0), .long (Int32.toInt64 (roomG (σ 10) k))]) (rest := []) (c_in l E (va_up σ 10 (ldN (σ 10) (σ 20) q k)) τ (Int32.toInt64 (σ 20 (40 * q + k))) 0 (Int32.toInt64 (roomG (σ 10) k))) ks_X8_49 ⟨Nat.le_of_ble_eq_true rfl, Nat.le_of_ble_eq_true rfl⟩ rfl rfl (Nat.le_of_ble_eq_true rfl) dX8_load_71 ?_
            refine WM.topi (y := if rng (σ 20 (40 * q + k)) 0 (roomG (σ 10) k) then 1 else 0) (in_eq (σ 20 (40 * q + k)) 0 (roomG (σ 10) k) (by decide) rfl) ?_
            refine x_ifeqB C (tgt := 103) dX8_load_74 (by decide) (fun h7 => ?_) (fun h7 => ?_)
            · refine x_iload_n C 2 dX8_load_103 rfl rfl ?_
              exact x_oret C (mpost_of (V := va_up (mv σ) 0 (ldN (σ 10) (σ 20) q k)) (Eq.trans (if_pos (by first | assumption | ((try simp only [rng, mayQ, tI_lt, tI_eq, cvr_0, mvr_0, cvr_c, mvr_c, ruleQ, tn_999, tl_200, tl_999, bitsQ, tl_16, tl_32, tl_40, tl_0, tl_1, tl_2, tl_3, tl_4, tl_5, tl_6, tl_7, tl_8, tl_9, tl_10, tl_11, tl_12, tl_13, tl_20, tl_40, tl_99] at h1 ⊢) <;> omega))) (Eq.trans (congrArg (fun z => loadS z (mv σ)) (nI_clamp (by omega))) (load_at2 h2 hnf (by omega) (Or.inr h7)))) (by rw [mv_v10]) (by rw [cv_v10]) rfl) dX8_load_104
            · refine x_aload_n C 0 dX8_load_77 rfl rfl ?_
              refine x_get C (Nat.le_of_ble_eq_true rfl) xd_81 fl_X8_9 (q := (0, 82, 0)) (v := .ref (xad E (82))) rfl rfl dX8_load_78 ?_
              refine x_bipush C (v := 20) dX8_load_81 (by decide) ?_
              refine x_iload_n C 2 dX8_load_83 rfl rfl ?_
              refine x_iadd C dX8_load_84 ?_
              refine WM.topi (y := nI (20 + k)) (nI_add 20 k) ?_
              refine x_aload_n C 0 dX8_load_85 rfl rfl ?_
              refine x_get C (Nat.le_of_ble_eq_true rfl) xd_81 fl_X8_40 (q := (0, 92, 0)) (v := .ref (xad E (92))) rfl rfl dX8_load_86 ?_
              refine x_bipush C (v := 40) dX8_load_89 (by decide) ?_
              refine x_iload_n C 1 dX8_load_91 rfl rfl ?_
              refine x_imul C dX8_load_92 ?_
              refine WM.topi (y := nI (40 * q)) (pk_mul 40 q) ?_
              refine x_iload_n C 2 dX8_load_93 rfl rfl ?_
              refine x_iadd C dX8_load_94 ?_
              refine WM.topi (y := nI (40 * q + k)) (nI_add (40 * q) k) ?_
              refine x_ald C (Nat.le_of_ble_eq_true rfl) xd_92 (v := σ 20 (40 * q + k)) (vp_in_nI (show 40 * q + k < 160 by omega) (by decide)) (by rw [(nI_clamp (show 40 * q + k < 2 ^ 31 by omega)), Nat.zero_add, Nat.one_mul]; exact (congrFun (va_up_ne _ (j := 20) (k := 10) _ (by decide)) _)) dX8_load_95 ?_
              refine x_ast C (σ' := va_up σ 10 (upd (ldN (σ 10) (σ 20) q k) (20 + k) (σ 20 (40 * q + k)))) (Nat.le_of_ble_eq_true rfl) xd_82 (by decide) (vp_in_nI (show 20 + k < 284 by omega) (by decide)) (by rw [(nI_clamp (show 20 + k < 2 ^ 31 by omega)), Nat.zero_add, Nat.one_mul]; exact (u2_bank _ _ _ _ _)) dX8_load_96 ?_
              refine x_iinc C (v := nI (k + 1)) (lv1 := [(2, .int (nI (k + 1))), (0, .ref (xad E (81))), (1, .int (nI q))]) 2 dX8_load_97 rfl (nI_add k 1) (by decide) rfl ?_
              refine x_goto2 C (tgt := 33) dX8_load_100 (by decide) ?_
              refine WM.keep [1, 2, 0] (lv' := [(0, .ref (xad E (81))), (1, .int (nI q)), (2, .int (nI (k + 1)))]) rfl ?_
              exact WM.to (ih (k + 1) (by omega) (load_s hnf h5 h7)) (congrArg (va_up _ _) (ld_s _ _ _ _)) rfl rfl rfl
      refine WM.keep [1, 2, 0] rfl ?_
      exact WM.to (loop (12) 0 (by omega) (fun i hi => absurd hi (Nat.not_lt_zero i))) (Eq.trans (xself _ _).symm (congrArg (va_up _ _) (ld_0 _ _ _).symm)) rfl rfl rfl
    · refine x_aload_n C 0 dX8_load_23 rfl rfl ?_
      refine x_ldcw C dX8_load_24 kc_X8_279 ?_
      refine x_callVi C (As := [.int ((-1000006))]) (rest := []) (c_finds l E σ τ 5 (by decide) (-1000006) (by decide)) kv_X8_61 (x_recv C (Nat.le_of_ble_eq_true rfl) xd_81 rfl) ⟨Nat.le_of_ble_eq_true rfl, Nat.le_of_ble_eq_true rfl⟩ rfl rfl (Nat.le_of_ble_eq_true rfl) dX8_load_27 ?_
      exact x_oret C (mpost_of (V := u2 (mv σ) 2 5 (σ 14 5 + 1)) (Eq.trans (if_pos (by first | assumption | ((try simp only [rng, mayQ, tI_lt, tI_eq, cvr_0, mvr_0, cvr_c, mvr_c, ruleQ, tn_999, tl_200, tl_999, bitsQ, tl_16, tl_32, tl_40, tl_0, tl_1, tl_2, tl_3, tl_4, tl_5, tl_6, tl_7, tl_8, tl_9, tl_10, tl_11, tl_12, tl_13, tl_20, tl_40, tl_99] at h1 ⊢) <;> omega))) (Eq.trans (congrArg (fun z => loadS z (mv σ)) (nI_clamp (by omega))) (if_pos h2))) (by rw [mv_u14]) (by rw [cv_u14]) rfl) dX8_load_30
  · refine x_aload_n C 0 dX8_load_7 rfl rfl ?_
    refine x_ldc C dX8_load_8 kc_X8_46 ?_
    refine x_callVi C (As := [.int ((-1000001))]) (rest := []) (c_finds l E σ τ 0 (by decide) (-1000001) (by decide)) kv_X8_61 (x_recv C (Nat.le_of_ble_eq_true rfl) xd_81 rfl) ⟨Nat.le_of_ble_eq_true rfl, Nat.le_of_ble_eq_true rfl⟩ rfl rfl (Nat.le_of_ble_eq_true rfl) dX8_load_10 ?_
    exact x_oret C (mpost_of (V := u2 (mv σ) 2 0 (σ 14 0 + 1)) (if_neg (by first | assumption | ((try simp only [rng, mayQ, tI_lt, tI_eq, cvr_0, mvr_0, cvr_c, mvr_c, ruleQ, tn_999, tl_200, tl_999, bitsQ, tl_16, tl_32, tl_40, tl_0, tl_1, tl_2, tl_3, tl_4, tl_5, tl_6, tl_7, tl_8, tl_9, tl_10, tl_11, tl_12, tl_13, tl_20, tl_40, tl_99] at h1 ⊢) <;> omega))) (by rw [mv_u14]) (by rw [cv_u14]) rfl) dX8_load_13
set_option maxHeartbeats 4000000 in
set_option maxRecDepth 100000 in
theorem k_judge (l : Launch) (E : xE) (σ : Nat → Nat → Int32) (τ : Nat → Int64) (T : Nat) (hT : T < 1073741824) (sh : Int32) (hI : Inv (cv σ) T) : xOi l yX7_judge cX7_judge 4 .int 4 90 E [.ref (xad E (0)), .int (sh)] σ τ (cpost (sp_judge sh (cv σ)) σ) := by
  refine xOi_of (own := RX7) (by decide +kernel) rfl (Nat.le_of_ble_eq_true rfl) ?_
  intro zp ze zs zm za zb zh zc C
  refine WM.to (lv1 := [(0, .ref (xad E (0))), (1, .int (sh))]) (st1 := []) (σ1 := σ) (τ1 := τ) ?_ rfl rfl rfl rfl
  have hg : gI (σ 0) := hI.g
  have hgT : gT (σ 0) T := hI.t
  have h0 : 0 ≤ (σ 0 10).toInt := hI.h0
  refine x_iload_n C 1 dX7_judge_0 rfl rfl ?_
  refine x_callSi C (As := [.int (sh)]) (rest := []) (c_isSheet l E σ τ sh) ks_X7_261 ⟨Nat.le_of_ble_eq_true rfl, Nat.le_of_ble_eq_true rfl⟩ rfl rfl (Nat.le_of_ble_eq_true rfl) dX7_judge_1 ?_
  refine x_ifneB C (tgt := 14) dX7_judge_4 (by decide) (fun h1 => ?_) (fun h1 => ?_)
  · obtain ⟨q, hqa, hqb, rfl⟩ := rngN (a := 0) (b := 3) h1 (by decide) (by decide) (by decide)
    refine x_aload_n C 0 dX7_judge_14 rfl rfl ?_
    refine x_get C (Nat.le_of_ble_eq_true rfl) xd_0 fl_X7_33 (q := (0, 58, 0)) (v := .ref (xad E (58))) rfl rfl dX7_judge_15 ?_
    refine x_iload_n C 1 dX7_judge_18 rfl rfl ?_
    refine x_aldq C (Nat.le_of_ble_eq_true rfl) (t := 2) (Or.inr rfl) (z := 73 + 2 * q) xd_58 rfl (vp_in_nI (show q < 4 by omega) (by decide)) (by rw [nI_clamp (by omega)]) dX7_judge_19 ?_
    refine x_astore_n C (lv1 := [(2, .ref (xad E (73 + 2 * q))), (0, .ref (xad E (0))), (1, .int (nI q))]) dX7_judge_20 rfl (by decide) rfl ?_
    refine x_aload_n C 0 dX7_judge_21 rfl rfl ?_
    refine x_callVi C (As := []) (rest := []) (c_shmiss l E σ τ q (by omega)) kv_X7_266 (x_recv C (by omega) (xs_0 (show q < 4 by omega)) rfl) ⟨Nat.le_of_ble_eq_true rfl, Nat.le_of_ble_eq_true rfl⟩ rfl rfl (Nat.le_of_ble_eq_true rfl) dX7_judge_22 ?_
    refine x_ifeqB C (tgt := 36) dX7_judge_25 (by decide) (fun h2 => ?_) (fun h2 => ?_)
    · obtain ⟨m, hmb, hm⟩ := nI_is (x := σ 8 q) (hI.2.2.2.2 q (by omega)).1 (n := 40) (hI.2.2.2.2 q (by omega)).2 (by decide)
      refine x_aload_n C 1 dX7_judge_36 rfl rfl ?_
      refine x_get C (Nat.le_of_ble_eq_true rfl) xd_0 fl_X7_40 (q := (0, 59, 0)) (v := .ref (xad E (59))) rfl rfl dX7_judge_37 ?_
      refine x_aload_n C 1 dX7_judge_40 rfl rfl ?_
      refine x_get C (Nat.le_of_ble_eq_true rfl) xd_0 fl_X7_12 (q := (0, 1, 0)) (v := .ref (xad E (1))) rfl rfl dX7_judge_41 ?_
      refine x_get C (Nat.le_of_ble_eq_true rfl) xd_1 fl_X7_68 (q := (0, 2, 0)) (v := .ref (xad E (2))) rfl rfl dX7_judge_44 ?_
      refine x_callVv C (As := [.ref (xad E (2))]) (rest := []) (cW_become l E σ τ 2 0 (by decide) (by decide) (by decide)) kv_X7_190 (x_recv C (Nat.le_of_ble_eq_true rfl) xd_59 rfl) ⟨Nat.le_of_ble_eq_true rfl, Nat.le_of_ble_eq_true rfl⟩ rfl rfl (Nat.le_of_ble_eq_true rfl) dX7_judge_47 ?_
      refine WM.alter (σ' := va_up σ 2 (σ 0)) (mix_run (by decide)) ?_
      refine WM.to (σ1 := va_up σ 2 (σ 0)) ?_ (congrArg (va_up _ _) rfl) rfl rfl rfl
      refine x_iconst C (v := 0) dX7_judge_50 (by decide) ?_
      refine x_istore_n C (lv1 := [(3, .int (0)), (2, .ref (xad E (73 + 2 * q))), (0, .ref (xad E (0))), (1, .int (nI q))]) dX7_judge_51 rfl (by decide) rfl ?_
      have loop : ∀ (j k : Nat), j + k = m → (∀ i, i < k → ¬ judQ (σ 0) (σ 9) q i) → WM zp l ze { frames := 4, cells := 0, slots := 0, locals := 90 } zs zm za zb zh zc 0 0 (MQ zb (va_Qi (fun r (u : xV × (Nat → Int64)) => (cpost (sp_judge (nI q) (cv σ)) σ) r u.1) (fun u t => xP E u.1 u.2 t.heap) (xA E)) za zs 0 0 (xA E)) E (xA E) 4 (va_up σ 2 (stepsG (σ 0) k)) (τ) 52 [(0, .ref (xad E (0))), (1, .int (nI q)), (2, .ref (xad E (73 + 2 * q))), (3, .int (nI k))] [] := by
        intro j
        induction j with
        | zero =>
          intro k hk hnf
          refine x_iload_n C 3 dX7_judge_52 rfl rfl ?_
          refine x_aload_n C 2 dX7_judge_53 rfl rfl ?_
          refine x_get C (by omega) (xs_0 (show q < 4 by omega)) fl_X7_270 (q := (1, 8, q)) (v := .int (nI m)) rfl (congrArg Value.int hm) dX7_judge_54 ?_
          refine x_icmp_ge C (tgt := 93) dX7_judge_57 (by decide) (fun h3 => ?_) (fun h3 => absurd h3 (nI_nlt (a := k) (b := m) (by omega) (by omega)))
          refine x_iconst C (v := 0) dX7_judge_93 (by decide) ?_
          exact x_oret C (cpost_of (V := cv σ) (Eq.trans (if_pos (by first | assumption | ((try simp only [rng, mayQ, tI_lt, tI_eq, cvr_0, mvr_0, cvr_c, mvr_c, ruleQ, tn_999, tl_200, tl_999, bitsQ, tl_16, tl_32, tl_40, tl_0, tl_1, tl_2, tl_3, tl_4, tl_5, tl_6, tl_7, tl_8, tl_9, tl_10, tl_11, tl_12, tl_13, tl_99] at h1 ⊢) <;> omega))) (Eq.trans (congrArg (fun z => judS z (cv σ)) (nI_clamp (by omega))) (jud_no h2 hm hmb hnf (by omega)))) (by rw [cv_v2]) (by rw [mv_v2]) rfl) dX7_judge_94
        | succ j ih =>
          intro k hk hnf
          refine x_iload_n C 3 dX7_judge_52 rfl rfl ?_
          refine x_aload_n C 2 dX7_judge_53 rfl rfl ?_
          refine x_get C (by omega) (xs_0 (show q < 4 by omega)) fl_X7_270 (q := (1, 8, q)) (v := .int (nI m)) rfl (congrArg Value.int hm) dX7_judge_54 ?_
          refine x_icmp_ge C (tgt := 93) dX7_judge_57 (by decide) (fun h4 => absurd (nI_lt (a := k) (b := m) (by omega) (by omega)) h4) (fun h4 => ?_)
          refine x_aload_n C 0 dX7_judge_60 rfl rfl ?_
          refine x_get C (Nat.le_of_ble_eq_true rfl) xd_0 fl_X7_40 (q := (0, 59, 0)) (v := .ref (xad E (59))) rfl rfl dX7_judge_61 ?_
          refine x_callVv C (As := []) (rest := []) (cW_step l E σ τ 2 (by decide) (stepsG (σ 0) k) (gI_steps hg k) (gT_steps hgT k (by omega)).1) kv_X7_203 (x_recv C (Nat.le_of_ble_eq_true rfl) xd_59 rfl) ⟨Nat.le_of_ble_eq_true rfl, Nat.le_of_ble_eq_true rfl⟩ rfl rfl (Nat.le_of_ble_eq_true rfl) dX7_judge_64 ?_
          refine x_aload_n C 0 dX7_judge_67 rfl rfl ?_
          refine x_get C (Nat.le_of_ble_eq_true rfl) xd_0 fl_X7_40 (q := (0, 59, 0)) (v := .ref (xad E (59))) rfl rfl dX7_judge_68 ?_
          refine x_get C (Nat.le_of_ble_eq_true rfl) xd_59 fl_X7_104 (q := (1, 2, 4)) (v := .int ((stepG (stepsG (σ 0) k)) 4)) rfl (congrArg Value.int (congrFun (va_up_self _ _ _) _)) dX7_judge_71 ?_
          refine x_aload_n C 2 dX7_judge_74 rfl rfl ?_
          refine x_get C (by omega) (xs_0 (show q < 4 by omega)) fl_X7_280 (q := (0, 74 + 2 * q, 0)) (v := .ref (xad E (74 + 2 * q))) rfl rfl dX7_judge_75 ?_
          refine x_iload_n C 3 dX7_judge_78 rfl rfl ?_
          refine x_ald C (by omega) (xs_1 (show q < 4 by omega)) (v := σ 9 (40 * q + k)) (vp_in_nI (show k < 40 by omega) (by decide)) (by rw [(nI_clamp (show k < 2 ^ 31 by omega)), Nat.one_mul]; exact (congrFun (va_up_ne _ (j := 9) (k := 2) _ (by decide)) _)) dX7_judge_79 ?_
          refine x_icmp_eq C (tgt := 87) dX7_judge_80 (by decide) (fun h5 => ?_) (fun h5 => ?_)
          · refine x_iinc C (v := nI (k + 1)) (lv1 := [(3, .int (nI (k + 1))), (0, .ref (xad E (0))), (1, .int (nI q)), (2, .ref (xad E (73 + 2 * q)))]) 3 dX7_judge_87 rfl (nI_add k 1) (by decide) rfl ?_
            refine x_goto2 C (tgt := 52) dX7_judge_90 (by decide) ?_
            refine WM.keep [1, 2, 3, 0] (lv' := [(0, .ref (xad E (0))), (1, .int (nI q)), (2, .ref (xad E (73 + 2 * q))), (3, .int (nI (k + 1)))]) rfl ?_
            exact WM.to (ih (k + 1) (by omega) (hyp_s hnf (Decidable.not_not.mpr h5))) rfl rfl rfl rfl
          · refine x_iconst C (v := 1) dX7_judge_83 (by decide) ?_
            refine x_iload_n C 3 dX7_judge_84 rfl rfl ?_
            refine x_iadd C dX7_judge_85 ?_
            refine WM.topi (y := nI (1 + k)) (nI_add 1 k) ?_
            exact x_oret C (cpost_of (V := cv σ) (Eq.trans (if_pos (by first | assumption | ((try simp only [rng, mayQ, tI_lt, tI_eq, cvr_0, mvr_0, cvr_c, mvr_c, ruleQ, tn_999, tl_200, tl_999, bitsQ, tl_16, tl_32, tl_40, tl_0, tl_1, tl_2, tl_3, tl_4, tl_5, tl_6, tl_7, tl_8, tl_9, tl_10, tl_11, tl_12, tl_13, tl_99] at h1 ⊢) <;> omega))) (Eq.trans (congrArg (fun z => judS z (cv σ)) (nI_clamp (by omega))) (jud_at h2 hm hmb hnf (by omega) h5))) (by rw [cv_v2]) (by rw [mv_v2]) rfl) dX7_judge_86
      refine WM.keep [2, 3, 1, 0] rfl ?_
      exact WM.to (loop (m) 0 (by omega) (fun i hi => absurd hi (Nat.not_lt_zero i))) rfl rfl rfl rfl
    · refine x_aload_n C 1 dX7_judge_28 rfl rfl ?_
      refine x_ldcw C dX7_judge_29 kc_X7_256 ?_
      refine x_callVi C (As := [.int ((-1000006))]) (rest := []) (c_finding l E σ τ 5 (by decide) (-1000006) (by decide)) kv_X7_64 (x_recv C (Nat.le_of_ble_eq_true rfl) xd_0 rfl) ⟨Nat.le_of_ble_eq_true rfl, Nat.le_of_ble_eq_true rfl⟩ rfl rfl (Nat.le_of_ble_eq_true rfl) dX7_judge_32 ?_
      exact x_oret C (cpost_of (V := u2 (cv σ) 2 5 (σ 4 5 + 1)) (Eq.trans (if_pos (by first | assumption | ((try simp only [rng, mayQ, tI_lt, tI_eq, cvr_0, mvr_0, cvr_c, mvr_c, ruleQ, tn_999, tl_200, tl_999, bitsQ, tl_16, tl_32, tl_40, tl_0, tl_1, tl_2, tl_3, tl_4, tl_5, tl_6, tl_7, tl_8, tl_9, tl_10, tl_11, tl_12, tl_13, tl_99] at h1 ⊢) <;> omega))) (Eq.trans (congrArg (fun z => judS z (cv σ)) (nI_clamp (by omega))) (if_pos h2))) (by rw [cv_u4]) (by rw [mv_u4]) rfl) dX7_judge_35
  · refine x_aload_n C 0 dX7_judge_7 rfl rfl ?_
    refine x_ldc C dX7_judge_8 kc_X7_63 ?_
    refine x_callVi C (As := [.int ((-1000001))]) (rest := []) (c_finding l E σ τ 0 (by decide) (-1000001) (by decide)) kv_X7_64 (x_recv C (Nat.le_of_ble_eq_true rfl) xd_0 rfl) ⟨Nat.le_of_ble_eq_true rfl, Nat.le_of_ble_eq_true rfl⟩ rfl rfl (Nat.le_of_ble_eq_true rfl) dX7_judge_10 ?_
    exact x_oret C (cpost_of (V := u2 (cv σ) 2 0 (σ 4 0 + 1)) (if_neg (by first | assumption | ((try simp only [rng, mayQ, tI_lt, tI_eq, cvr_0, mvr_0, cvr_c, mvr_c, ruleQ, tn_999, tl_200, tl_999, bitsQ, tl_16, tl_32, tl_40, tl_0, tl_1, tl_2, tl_3, tl_4, tl_5, tl_6, tl_7, tl_8, tl_9, tl_10, tl_11, tl_12, tl_13, tl_99] at h1 ⊢) <;> omega))) (by rw [cv_u4]) (by rw [mv_u4]) rfl) dX7_judge_13
set_option maxHeartbeats 4000000 in
set_option maxRecDepth 100000 in
theorem m_judge (l : Launch) (E : xE) (σ : Nat → Nat → Int32) (τ : Nat → Int64) (T : Nat) (hT : T < 1073741824) (sh : Int32) (hI : Inv (mv σ) T) (hlv : ∀ j, j < 12 → σ 15 j = (xzl 1).getD j 0) : xOi l yX8_judge cX8_judge 3 .int 3 69 E [.ref (xad E (81)), .int (sh)] σ τ (mpost (sp_judge sh (mv σ)) σ) := by
  refine xOi_of (own := RX8) (by decide +kernel) rfl (Nat.le_of_ble_eq_true rfl) ?_
  intro zp ze zs zm za zb zh zc C
  refine WM.to (lv1 := [(0, .ref (xad E (81))), (1, .int (sh))]) (st1 := []) (σ1 := σ) (τ1 := τ) ?_ rfl rfl rfl rfl
  have hg : gI (σ 10) := hI.g
  have hgT : gT (σ 10) T := hI.t
  have h0 : 0 ≤ (σ 10 10).toInt := hI.h0
  refine x_iload_n C 1 dX8_judge_0 rfl rfl ?_
  refine x_callSi C (As := [.int (sh)]) (rest := []) (c_misSheet l E σ τ sh) ks_X8_284 ⟨Nat.le_of_ble_eq_true rfl, Nat.le_of_ble_eq_true rfl⟩ rfl rfl (Nat.le_of_ble_eq_true rfl) dX8_judge_1 ?_
  refine x_ifneB C (tgt := 14) dX8_judge_4 (by decide) (fun h1 => ?_) (fun h1 => ?_)
  · obtain ⟨q, hqa, hqb, rfl⟩ := rngN (a := 0) (b := 3) h1 (by decide) (by decide) (by decide)
    refine x_aload_n C 0 dX8_judge_14 rfl rfl ?_
    refine x_get C (Nat.le_of_ble_eq_true rfl) xd_81 fl_X8_34 (q := (0, 90, 0)) (v := .ref (xad E (90))) rfl rfl dX8_judge_15 ?_
    refine x_iload_n C 1 dX8_judge_18 rfl rfl ?_
    refine x_ald C (Nat.le_of_ble_eq_true rfl) xd_90 (v := σ 18 q) (vp_in_nI (show q < 4 by omega) (by decide)) (by rw [(nI_clamp (show q < 2 ^ 31 by omega)), Nat.zero_add, Nat.one_mul]) dX8_judge_19 ?_
    refine x_if_ne C (tgt := 31) dX8_judge_20 (by decide) (fun h2 => ?_) (fun h2 => ?_)
    · obtain ⟨m, hmb, hm⟩ := nI_is (x := σ 19 q) (hI.2.2.2.2 q (by omega)).1 (n := 40) (hI.2.2.2.2 q (by omega)).2 (by decide)
      refine x_aload_n C 0 dX8_judge_31 rfl rfl ?_
      refine x_get C (Nat.le_of_ble_eq_true rfl) xd_81 fl_X8_9 (q := (0, 82, 0)) (v := .ref (xad E (82))) rfl rfl dX8_judge_32 ?_
      refine x_aload_n C 0 dX8_judge_35 rfl rfl ?_
      refine x_get C (Nat.le_of_ble_eq_true rfl) xd_81 fl_X8_13 (q := (0, 83, 0)) (v := .ref (xad E (83))) rfl rfl dX8_judge_36 ?_
      refine x_callSv C (As := [.ref (xad E (82)), .ref (xad E (83))]) (rest := []) (cM_copies l E σ τ 10 11 (by decide) (by decide) (by decide)) ks_X8_235 ⟨Nat.le_of_ble_eq_true rfl, Nat.le_of_ble_eq_true rfl⟩ rfl rfl (Nat.le_of_ble_eq_true rfl) dX8_judge_39 ?_
      refine WM.to (σ1 := va_up σ 11 (σ 10)) ?_ (congrArg (va_up _ _) rfl) rfl rfl rfl
      refine x_iconst C (v := 0) dX8_judge_42 (by decide) ?_
      refine x_istore_n C (lv1 := [(2, .int (0)), (0, .ref (xad E (81))), (1, .int (nI q))]) dX8_judge_43 rfl (by decide) rfl ?_
      have loop : ∀ (j k : Nat), j + k = m → (∀ i, i < k → ¬ judQ (σ 10) (σ 20) q i) → WM zp l ze { frames := 3, cells := 0, slots := 0, locals := 69 } zs zm za zb zh zc 0 0 (MQ zb (va_Qi (fun r (u : xV × (Nat → Int64)) => (mpost (sp_judge (nI q) (mv σ)) σ) r u.1) (fun u t => xP E u.1 u.2 t.heap) (xA E)) za zs 0 0 (xA E)) E (xA E) 3 (va_up σ 11 (stepsG (σ 10) k)) (τ) 44 [(0, .ref (xad E (81))), (1, .int (nI q)), (2, .int (nI k))] [] := by
        intro j
        induction j with
        | zero =>
          intro k hk hnf
          refine x_iload_n C 2 dX8_judge_44 rfl rfl ?_
          refine x_aload_n C 0 dX8_judge_45 rfl rfl ?_
          refine x_get C (Nat.le_of_ble_eq_true rfl) xd_81 fl_X8_37 (q := (0, 91, 0)) (v := .ref (xad E (91))) rfl rfl dX8_judge_46 ?_
          refine x_iload_n C 1 dX8_judge_49 rfl rfl ?_
          refine x_ald C (Nat.le_of_ble_eq_true rfl) xd_91 (v := nI m) (vp_in_nI (show q < 4 by omega) (by decide)) (by rw [nI_clamp (show q < 2 ^ 31 by omega), Nat.zero_add, Nat.one_mul]; exact hm) dX8_judge_50 ?_
          refine x_icmp_ge C (tgt := 92) dX8_judge_51 (by decide) (fun h3 => ?_) (fun h3 => absurd h3 (nI_nlt (a := k) (b := m) (by omega) (by omega)))
          refine x_iconst C (v := 0) dX8_judge_92 (by decide) ?_
          exact x_oret C (mpost_of (V := mv σ) (Eq.trans (if_pos (by first | assumption | ((try simp only [rng, mayQ, tI_lt, tI_eq, cvr_0, mvr_0, cvr_c, mvr_c, ruleQ, tn_999, tl_200, tl_999, bitsQ, tl_16, tl_32, tl_40, tl_0, tl_1, tl_2, tl_3, tl_4, tl_5, tl_6, tl_7, tl_8, tl_9, tl_10, tl_11, tl_12, tl_13, tl_40, tl_99] at h1 ⊢) <;> omega))) (Eq.trans (congrArg (fun z => judS z (mv σ)) (nI_clamp (by omega))) (jud_no h2 hm hmb hnf (by omega)))) (by rw [mv_v11]) (by rw [cv_v11]) rfl) dX8_judge_93
        | succ j ih =>
          intro k hk hnf
          refine x_iload_n C 2 dX8_judge_44 rfl rfl ?_
          refine x_aload_n C 0 dX8_judge_45 rfl rfl ?_
          refine x_get C (Nat.le_of_ble_eq_true rfl) xd_81 fl_X8_37 (q := (0, 91, 0)) (v := .ref (xad E (91))) rfl rfl dX8_judge_46 ?_
          refine x_iload_n C 1 dX8_judge_49 rfl rfl ?_
          refine x_ald C (Nat.le_of_ble_eq_true rfl) xd_91 (v := nI m) (vp_in_nI (show q < 4 by omega) (by decide)) (by rw [nI_clamp (show q < 2 ^ 31 by omega), Nat.zero_add, Nat.one_mul]; exact hm) dX8_judge_50 ?_
          refine x_icmp_ge C (tgt := 92) dX8_judge_51 (by decide) (fun h4 => absurd (nI_lt (a := k) (b := m) (by omega) (by omega)) h4) (fun h4 => ?_)
          refine x_aload_n C 0 dX8_judge_54 rfl rfl ?_
          refine x_aload_n C 0 dX8_judge_55 rfl rfl ?_
          refine x_get C (Nat.le_of_ble_eq_true rfl) xd_81 fl_X8_13 (q := (0, 83, 0)) (v := .ref (xad E (83))) rfl rfl dX8_judge_56 ?_
          refine x_callVv C (As := [.ref (xad E (83))]) (rest := []) (cM_goesBy l E σ τ 11 (by decide) (stepsG (σ 10) k) (gI_steps hg k) (gT_steps hgT k (by omega)).1 hlv) kv_X8_108 (x_recv C (Nat.le_of_ble_eq_true rfl) xd_81 rfl) ⟨Nat.le_of_ble_eq_true rfl, Nat.le_of_ble_eq_true rfl⟩ rfl rfl (Nat.le_of_ble_eq_true rfl) dX8_judge_59 ?_
          refine x_aload_n C 0 dX8_judge_62 rfl rfl ?_
          refine x_get C (Nat.le_of_ble_eq_true rfl) xd_81 fl_X8_13 (q := (0, 83, 0)) (v := .ref (xad E (83))) rfl rfl dX8_judge_63 ?_
          refine x_iconst C (v := 4) dX8_judge_66 (by decide) ?_
          refine x_ald C (Nat.le_of_ble_eq_true rfl) xd_83 (v := (stepG (stepsG (σ 10) k)) 4) (vp_in_nI (show 4 < 284 by omega) (by decide)) (by rw [(show (4 : Int32).toNatClampNeg = 4 from by decide), Nat.zero_add, Nat.one_mul]; exact (congrFun (va_up_self _ _ _) _)) dX8_judge_67 ?_
          refine x_aload_n C 0 dX8_judge_68 rfl rfl ?_
          refine x_get C (Nat.le_of_ble_eq_true rfl) xd_81 fl_X8_40 (q := (0, 92, 0)) (v := .ref (xad E (92))) rfl rfl dX8_judge_69 ?_
          refine x_bipush C (v := 40) dX8_judge_72 (by decide) ?_
          refine x_iload_n C 1 dX8_judge_74 rfl rfl ?_
          refine x_imul C dX8_judge_75 ?_
          refine WM.topi (y := nI (40 * q)) (pk_mul 40 q) ?_
          refine x_iload_n C 2 dX8_judge_76 rfl rfl ?_
          refine x_iadd C dX8_judge_77 ?_
          refine WM.topi (y := nI (40 * q + k)) (nI_add (40 * q) k) ?_
          refine x_ald C (Nat.le_of_ble_eq_true rfl) xd_92 (v := σ 20 (40 * q + k)) (vp_in_nI (show 40 * q + k < 160 by omega) (by decide)) (by rw [(nI_clamp (show 40 * q + k < 2 ^ 31 by omega)), Nat.zero_add, Nat.one_mul]; exact (congrFun (va_up_ne _ (j := 20) (k := 11) _ (by decide)) _)) dX8_judge_78 ?_
          refine x_icmp_eq C (tgt := 86) dX8_judge_79 (by decide) (fun h5 => ?_) (fun h5 => ?_)
          · refine x_iinc C (v := nI (k + 1)) (lv1 := [(2, .int (nI (k + 1))), (0, .ref (xad E (81))), (1, .int (nI q))]) 2 dX8_judge_86 rfl (nI_add k 1) (by decide) rfl ?_
            refine x_goto2 C (tgt := 44) dX8_judge_89 (by decide) ?_
            refine WM.keep [1, 2, 0] (lv' := [(0, .ref (xad E (81))), (1, .int (nI q)), (2, .int (nI (k + 1)))]) rfl ?_
            exact WM.to (ih (k + 1) (by omega) (hyp_s hnf (Decidable.not_not.mpr h5))) rfl rfl rfl rfl
          · refine x_iconst C (v := 1) dX8_judge_82 (by decide) ?_
            refine x_iload_n C 2 dX8_judge_83 rfl rfl ?_
            refine x_iadd C dX8_judge_84 ?_
            refine WM.topi (y := nI (1 + k)) (nI_add 1 k) ?_
            exact x_oret C (mpost_of (V := mv σ) (Eq.trans (if_pos (by first | assumption | ((try simp only [rng, mayQ, tI_lt, tI_eq, cvr_0, mvr_0, cvr_c, mvr_c, ruleQ, tn_999, tl_200, tl_999, bitsQ, tl_16, tl_32, tl_40, tl_0, tl_1, tl_2, tl_3, tl_4, tl_5, tl_6, tl_7, tl_8, tl_9, tl_10, tl_11, tl_12, tl_13, tl_40, tl_99] at h1 ⊢) <;> omega))) (Eq.trans (congrArg (fun z => judS z (mv σ)) (nI_clamp (by omega))) (jud_at h2 hm hmb hnf (by omega) h5))) (by rw [mv_v11]) (by rw [cv_v11]) rfl) dX8_judge_85
      refine WM.keep [1, 2, 0] rfl ?_
      exact WM.to (loop (m) 0 (by omega) (fun i hi => absurd hi (Nat.not_lt_zero i))) rfl rfl rfl rfl
    · refine x_aload_n C 0 dX8_judge_23 rfl rfl ?_
      refine x_ldcw C dX8_judge_24 kc_X8_279 ?_
      refine x_callVi C (As := [.int ((-1000006))]) (rest := []) (c_finds l E σ τ 5 (by decide) (-1000006) (by decide)) kv_X8_61 (x_recv C (Nat.le_of_ble_eq_true rfl) xd_81 rfl) ⟨Nat.le_of_ble_eq_true rfl, Nat.le_of_ble_eq_true rfl⟩ rfl rfl (Nat.le_of_ble_eq_true rfl) dX8_judge_27 ?_
      exact x_oret C (mpost_of (V := u2 (mv σ) 2 5 (σ 14 5 + 1)) (Eq.trans (if_pos (by first | assumption | ((try simp only [rng, mayQ, tI_lt, tI_eq, cvr_0, mvr_0, cvr_c, mvr_c, ruleQ, tn_999, tl_200, tl_999, bitsQ, tl_16, tl_32, tl_40, tl_0, tl_1, tl_2, tl_3, tl_4, tl_5, tl_6, tl_7, tl_8, tl_9, tl_10, tl_11, tl_12, tl_13, tl_40, tl_99] at h1 ⊢) <;> omega))) (Eq.trans (congrArg (fun z => judS z (mv σ)) (nI_clamp (by omega))) (if_pos h2))) (by rw [mv_u14]) (by rw [cv_u14]) rfl) dX8_judge_30
  · refine x_aload_n C 0 dX8_judge_7 rfl rfl ?_
    refine x_ldc C dX8_judge_8 kc_X8_46 ?_
    refine x_callVi C (As := [.int ((-1000001))]) (rest := []) (c_finds l E σ τ 0 (by decide) (-1000001) (by decide)) kv_X8_61 (x_recv C (Nat.le_of_ble_eq_true rfl) xd_81 rfl) ⟨Nat.le_of_ble_eq_true rfl, Nat.le_of_ble_eq_true rfl⟩ rfl rfl (Nat.le_of_ble_eq_true rfl) dX8_judge_10 ?_
    exact x_oret C (mpost_of (V := u2 (mv σ) 2 0 (σ 14 0 + 1)) (if_neg (by first | assumption | ((try simp only [rng, mayQ, tI_lt, tI_eq, cvr_0, mvr_0, cvr_c, mvr_c, ruleQ, tn_999, tl_200, tl_999, bitsQ, tl_16, tl_32, tl_40, tl_0, tl_1, tl_2, tl_3, tl_4, tl_5, tl_6, tl_7, tl_8, tl_9, tl_10, tl_11, tl_12, tl_13, tl_40, tl_99] at h1 ⊢) <;> omega))) (by rw [mv_u14]) (by rw [cv_u14]) rfl) dX8_judge_13
