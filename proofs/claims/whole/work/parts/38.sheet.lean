/-! sheets -/
theorem xs_0 {q : Nat} (h : q < 4) : xd (73 + 2 * q) = (1, [(0, 74 + 2 * q, 0), (1, 7, q), (1, 8, q)]) := by
  match q, h with
  | 0, _ => rfl
  | 1, _ => rfl
  | 2, _ => rfl
  | 3, _ => rfl
theorem xs_1 {q : Nat} (h : q < 4) : xd (74 + 2 * q) = (9, [(40, 9, 40 * q), (1, 0, 0)]) := by
  match q, h with
  | 0, _ => rfl
  | 1, _ => rfl
  | 2, _ => rfl
  | 3, _ => rfl
abbrev bitsQ (b : Int32) : Prop := b = 0 ∨ b = 8 ∨ b = 16 ∨ b = 32
def szI (bits size : Int32) : Int32 := if bits = 0 then 0 else size
def clrN (g : Nat → Int32) (q k : Nat) : Nat → Int32 := fun i => if 40 * q ≤ i ∧ i < 40 * q + k then 0 else g i
theorem clr_0 (g : Nat → Int32) (q : Nat) : clrN g q 0 = g := by
  funext i
  exact if_neg (by omega)
theorem clr_s (g : Nat → Int32) (q k : Nat) : upd (clrN g q k) (40 * q + k) 0 = clrN g q (k + 1) := by
  funext i
  by_cases h : i = 40 * q + k
  · subst h
    rw [upd_at]
    exact (if_pos (by omega)).symm
  · rw [upd_ne h]
    unfold clrN
    by_cases h2 : 40 * q ≤ i ∧ i < 40 * q + k
    · rw [if_pos h2, if_pos (by omega)]
    · rw [if_neg h2, if_neg (by omega)]
def sheetS (q : Nat) (bits size : Int32) (s : xV) : Int32 × xV := (szI bits size, va_up (u2 (u2 s 5 q bits) 6 q (szI bits size)) 7 (clrN (s 7) q 40))
def sp_sheet (sh bits size : Int32) (s : xV) : Int32 × xV := if rng sh 0 3 ∧ bitsQ bits then (if size < 0 then sizeF s else if 40 < size then bad s else sheetS sh.toNatClampNeg bits size s) else bad s
def cutI (bits v : Int32) : Int32 := if bits = 8 then Int8.toInt32 (Int32.toInt8 v) else if bits = 16 then Int16.toInt32 (Int32.toInt16 v) else v
def writeS (q p : Nat) (v : Int32) (s : xV) : Int32 × xV := (1, u2 s 7 (40 * q + p) (cutI (s 5 q) v))
def wrS (q : Nat) (place v : Int32) (s : xV) : Int32 × xV := if s 5 q = 0 then miss s else if rng place 0 (s 6 q - 1) then writeS q place.toNatClampNeg v s else bad s
def sp_write (sh place v : Int32) (s : xV) : Int32 × xV := if rng sh 0 3 then wrS sh.toNatClampNeg place v s else bad s
set_option maxHeartbeats 4000000 in
set_option maxRecDepth 100000 in
theorem c_shbegin (l : Launch) (E : xE) (σ : Nat → Nat → Int32) (τ : Nat → Int64) (q : Nat) (hq : q < 4) (bits size : Int32) : xMv l yX1_begin cX1_begin 4 0 0 E [.ref (xad E (73 + 2 * q)), .int (bits), .int (size)] (σ) (τ) (va_up (u2 (u2 σ 7 q bits) 8 q (szI bits size)) 9 (clrN (σ 9) q 40)) (τ) := by
  refine xMv_of (own := RX1) (by decide +kernel) rfl (Nat.le_of_ble_eq_true rfl) ?_
  intro zp ze zs zm za zb zh zc C
  refine WM.to (lv1 := [(0, .ref (xad E (73 + 2 * q))), (1, .int (bits)), (2, .int (size))]) (st1 := []) (σ1 := σ) (τ1 := τ) ?_ rfl rfl rfl rfl
  refine x_aload_n C 0 dX1_begin_0 rfl rfl ?_
  refine x_iload_n C 1 dX1_begin_1 rfl rfl ?_
  refine x_put C (σ' := u2 σ 7 q (bits)) (by omega) (xs_0 (show q < 4 by omega)) fp_X1_13 rfl rfl rfl rfl dX1_begin_2 ?_
  refine x_aload_n C 0 dX1_begin_5 rfl rfl ?_
  refine x_iload_n C 1 dX1_begin_6 rfl rfl ?_
  refine x_if_ne C (tgt := 14) dX1_begin_7 (by decide) (fun h1 => ?_) (fun h1 => ?_)
  · refine x_iload_n C 2 dX1_begin_14 rfl rfl ?_
    refine WM.topi (y := szI bits size) (if_neg h1).symm ?_
    refine x_put C (σ' := u2 (u2 σ 7 q (bits)) 8 q (szI bits size)) (by omega) (xs_0 (show q < 4 by omega)) fp_X1_17 rfl rfl rfl rfl dX1_begin_15 ?_
    refine x_iconst C (v := 0) dX1_begin_18 (by decide) ?_
    refine x_istore_n C (lv1 := [(3, .int (0)), (0, .ref (xad E (73 + 2 * q))), (1, .int (bits)), (2, .int (size))]) dX1_begin_19 rfl (by decide) rfl ?_
    have loop : ∀ (j k : Nat), j + k = 40 → WM zp l ze { frames := 0, cells := 0, slots := 0, locals := 0 } zs zm za zb zh zc 0 0 (MQ zb (va_Qv (fun _ : Unit => True) (fun _ t => xP E (va_up (u2 (u2 σ 7 q bits) 8 q (szI bits size)) 9 (clrN (σ 9) q 40)) (τ) t.heap) (xA E)) za zs 0 0 (xA E)) E (xA E) 4 (va_up (u2 (u2 σ 7 q bits) 8 q (szI bits size)) 9 (clrN (σ 9) q k)) (τ) 20 [(0, .ref (xad E (73 + 2 * q))), (3, .int (nI k))] [] := by
      intro j
      induction j with
      | zero =>
        intro k hk
        refine x_iload_n C 1 dX1_begin_20 rfl rfl ?_
        refine x_bipush C (v := 40) dX1_begin_21 (by decide) ?_
        refine x_icmp_ge C (tgt := 39) dX1_begin_23 (by decide) (fun h2 => ?_) (fun h2 => absurd h2 (nI_nlt (a := k) (b := 40) (by omega) (by omega)))
        exact x_vret C (by rw [show k = 40 by omega]) rfl dX1_begin_39
      | succ j ih =>
        intro k hk
        refine x_iload_n C 1 dX1_begin_20 rfl rfl ?_
        refine x_bipush C (v := 40) dX1_begin_21 (by decide) ?_
        refine x_icmp_ge C (tgt := 39) dX1_begin_23 (by decide) (fun h3 => absurd (nI_lt (a := k) (b := 40) (by omega) (by omega)) h3) (fun h3 => ?_)
        refine x_aload_n C 0 dX1_begin_26 rfl rfl ?_
        refine x_get C (by omega) (xs_0 (show q < 4 by omega)) fl_X1_9 (q := (0, 74 + 2 * q, 0)) (v := .ref (xad E (74 + 2 * q))) rfl rfl dX1_begin_27 ?_
        refine x_iload_n C 1 dX1_begin_30 rfl rfl ?_
        refine x_iconst C (v := 0) dX1_begin_31 (by decide) ?_
        refine x_ast C (σ' := va_up (u2 (u2 σ 7 q bits) 8 q (szI bits size)) 9 (upd (clrN (σ 9) q k) (40 * q + k) (0))) (by omega) (xs_1 (show q < 4 by omega)) (by decide) (vp_in_nI (show k < 40 by omega) (by decide)) (by rw [(nI_clamp (show k < 2 ^ 31 by omega)), Nat.one_mul]; exact (u2_bank _ _ _ _ _)) dX1_begin_32 ?_
        refine x_iinc C (v := nI (k + 1)) (lv1 := [(3, .int (nI (k + 1))), (0, .ref (xad E (73 + 2 * q)))]) 1 dX1_begin_33 rfl (nI_add k 1) (by decide) rfl ?_
        refine x_goto2 C (tgt := 20) dX1_begin_36 (by decide) ?_
        refine WM.keep [1, 0] (lv' := [(0, .ref (xad E (73 + 2 * q))), (3, .int (nI (k + 1)))]) rfl ?_
        exact WM.to (ih (k + 1) (by omega)) (congrArg (va_up _ _) (clr_s _ _ _)) rfl rfl rfl
    refine WM.keep [1, 0] rfl ?_
    exact WM.to (loop (40) 0 (by omega)) (Eq.trans (xself _ _).symm (congrArg (va_up _ _) (clr_0 _ _).symm)) rfl rfl rfl
  · refine x_iconst C (v := 0) dX1_begin_10 (by decide) ?_
    refine x_goto2 C (tgt := 15) dX1_begin_11 (by decide) ?_
    refine WM.topi (y := szI bits size) (if_pos h1).symm ?_
    refine x_put C (σ' := u2 (u2 σ 7 q (bits)) 8 q (szI bits size)) (by omega) (xs_0 (show q < 4 by omega)) fp_X1_17 rfl rfl rfl rfl dX1_begin_15 ?_
    refine x_iconst C (v := 0) dX1_begin_18 (by decide) ?_
    refine x_istore_n C (lv1 := [(3, .int (0)), (0, .ref (xad E (73 + 2 * q))), (1, .int (bits)), (2, .int (size))]) dX1_begin_19 rfl (by decide) rfl ?_
    have loop : ∀ (j k : Nat), j + k = 40 → WM zp l ze { frames := 0, cells := 0, slots := 0, locals := 0 } zs zm za zb zh zc 0 0 (MQ zb (va_Qv (fun _ : Unit => True) (fun _ t => xP E (va_up (u2 (u2 σ 7 q bits) 8 q (szI bits size)) 9 (clrN (σ 9) q 40)) (τ) t.heap) (xA E)) za zs 0 0 (xA E)) E (xA E) 4 (va_up (u2 (u2 σ 7 q bits) 8 q (szI bits size)) 9 (clrN (σ 9) q k)) (τ) 20 [(0, .ref (xad E (73 + 2 * q))), (3, .int (nI k))] [] := by
      intro j
      induction j with
      | zero =>
        intro k hk
        refine x_iload_n C 1 dX1_begin_20 rfl rfl ?_
        refine x_bipush C (v := 40) dX1_begin_21 (by decide) ?_
        refine x_icmp_ge C (tgt := 39) dX1_begin_23 (by decide) (fun h4 => ?_) (fun h4 => absurd h4 (nI_nlt (a := k) (b := 40) (by omega) (by omega)))
        exact x_vret C (by rw [show k = 40 by omega]) rfl dX1_begin_39
      | succ j ih =>
        intro k hk
        refine x_iload_n C 1 dX1_begin_20 rfl rfl ?_
        refine x_bipush C (v := 40) dX1_begin_21 (by decide) ?_
        refine x_icmp_ge C (tgt := 39) dX1_begin_23 (by decide) (fun h5 => absurd (nI_lt (a := k) (b := 40) (by omega) (by omega)) h5) (fun h5 => ?_)
        refine x_aload_n C 0 dX1_begin_26 rfl rfl ?_
        refine x_get C (by omega) (xs_0 (show q < 4 by omega)) fl_X1_9 (q := (0, 74 + 2 * q, 0)) (v := .ref (xad E (74 + 2 * q))) rfl rfl dX1_begin_27 ?_
        refine x_iload_n C 1 dX1_begin_30 rfl rfl ?_
        refine x_iconst C (v := 0) dX1_begin_31 (by decide) ?_
        refine x_ast C (σ' := va_up (u2 (u2 σ 7 q bits) 8 q (szI bits size)) 9 (upd (clrN (σ 9) q k) (40 * q + k) (0))) (by omega) (xs_1 (show q < 4 by omega)) (by decide) (vp_in_nI (show k < 40 by omega) (by decide)) (by rw [(nI_clamp (show k < 2 ^ 31 by omega)), Nat.one_mul]; exact (u2_bank _ _ _ _ _)) dX1_begin_32 ?_
        refine x_iinc C (v := nI (k + 1)) (lv1 := [(3, .int (nI (k + 1))), (0, .ref (xad E (73 + 2 * q)))]) 1 dX1_begin_33 rfl (nI_add k 1) (by decide) rfl ?_
        refine x_goto2 C (tgt := 20) dX1_begin_36 (by decide) ?_
        refine WM.keep [1, 0] (lv' := [(0, .ref (xad E (73 + 2 * q))), (3, .int (nI (k + 1)))]) rfl ?_
        exact WM.to (ih (k + 1) (by omega)) (congrArg (va_up _ _) (clr_s _ _ _)) rfl rfl rfl
    refine WM.keep [1, 0] rfl ?_
    exact WM.to (loop (40) 0 (by omega)) (Eq.trans (xself _ _).symm (congrArg (va_up _ _) (clr_0 _ _).symm)) rfl rfl rfl
set_option maxHeartbeats 4000000 in
set_option maxRecDepth 100000 in
theorem k_sheet (l : Launch) (E : xE) (σ : Nat → Nat → Int32) (τ : Nat → Int64) (T : Nat) (hT : T < 1073741824) (sh bits size : Int32) (hI : Inv (cv σ) T) : xOi l yX7_sheet cX7_sheet 5 .int 2 44 E [.ref (xad E (0)), .int (sh), .int (bits), .int (size)] σ τ (cpost (sp_sheet sh bits size (cv σ)) σ) := by
  refine xOi_of (own := RX7) (by decide +kernel) rfl (Nat.le_of_ble_eq_true rfl) ?_
  intro zp ze zs zm za zb zh zc C
  refine WM.to (lv1 := [(0, .ref (xad E (0))), (1, .int (sh)), (2, .int (bits)), (3, .int (size))]) (st1 := []) (σ1 := σ) (τ1 := τ) ?_ rfl rfl rfl rfl
  have hg : gI (σ 0) := hI.g
  have hgT : gT (σ 0) T := hI.t
  have h0 : 0 ≤ (σ 0 10).toInt := hI.h0
  refine x_iload_n C 2 dX7_sheet_0 rfl rfl ?_
  refine x_if_eq C (tgt := 22) dX7_sheet_1 (by decide) (fun h1 => ?_) (fun h1 => ?_)
  · refine x_iconst C (v := 1) dX7_sheet_22 (by decide) ?_
    refine x_goto2 C (tgt := 27) dX7_sheet_23 (by decide) ?_
    refine x_istore C (lv1 := [(4, .int (1)), (0, .ref (xad E (0))), (1, .int (sh)), (2, .int (bits)), (3, .int (size))]) dX7_sheet_27 (by decide) rfl ?_
    refine x_iload_n C 2 dX7_sheet_29 rfl rfl ?_
    refine x_callSi C (As := [.int (sh)]) (rest := []) (c_isSheet l E σ τ sh) ks_X7_261 ⟨Nat.le_of_ble_eq_true rfl, Nat.le_of_ble_eq_true rfl⟩ rfl rfl (Nat.le_of_ble_eq_true rfl) dX7_sheet_30 ?_
    refine x_ifeqB C (tgt := 41) dX7_sheet_33 (by decide) (fun h2 => ?_) (fun h2 => ?_)
    · refine x_aload_n C 1 dX7_sheet_41 rfl rfl ?_
      refine x_ldc C dX7_sheet_42 kc_X7_63 ?_
      refine x_callVi C (As := [.int ((-1000001))]) (rest := []) (c_finding l E σ τ 0 (by decide) (-1000001) (by decide)) kv_X7_64 (x_recv C (Nat.le_of_ble_eq_true rfl) xd_0 rfl) ⟨Nat.le_of_ble_eq_true rfl, Nat.le_of_ble_eq_true rfl⟩ rfl rfl (Nat.le_of_ble_eq_true rfl) dX7_sheet_44 ?_
      exact x_oret C (cpost_of (V := u2 (cv σ) 2 0 (σ 4 0 + 1)) (if_neg (by first | assumption | ((try simp only [rng, mayQ, tI_lt, tI_eq, cvr_0, mvr_0, cvr_c, mvr_c, ruleQ, tn_999, tl_200, tl_999, bitsQ, tl_16, tl_32, tl_40, tl_0, tl_1, tl_2, tl_3, tl_4, tl_5, tl_6, tl_7, tl_8, tl_9, tl_10, tl_11, tl_12, tl_13, tl_16, tl_32, tl_40, tl_99] at h1 h2 ⊢) <;> omega))) (by rw [cv_u4]) (by rw [mv_u4]) rfl) dX7_sheet_47
    · refine x_iload C 0 dX7_sheet_36 rfl ?_
      refine x_if_ne C (tgt := 48) dX7_sheet_38 (by decide) (fun h3 => ?_) (fun h3 => absurd h3 (by decide))
      refine x_iload_n C 4 dX7_sheet_48 rfl rfl ?_
      refine x_if_ge C (tgt := 60) dX7_sheet_49 (by decide) (fun h4 => ?_) (fun h4 => ?_)
      · refine x_iload_n C 4 dX7_sheet_60 rfl rfl ?_
        refine x_bipush C (v := 40) dX7_sheet_61 (by decide) ?_
        refine x_icmp_le C (tgt := 73) dX7_sheet_63 (by decide) (fun h5 => ?_) (fun h5 => ?_)
        · obtain ⟨q, hqa, hqb, rfl⟩ := rngN (a := 0) (b := 3) h2 (by decide) (by decide) (by decide)
          refine x_aload_n C 1 dX7_sheet_73 rfl rfl ?_
          refine x_get C (Nat.le_of_ble_eq_true rfl) xd_0 fl_X7_33 (q := (0, 58, 0)) (v := .ref (xad E (58))) rfl rfl dX7_sheet_74 ?_
          refine x_iload_n C 2 dX7_sheet_77 rfl rfl ?_
          refine x_aldq C (Nat.le_of_ble_eq_true rfl) (t := 2) (Or.inr rfl) (z := 73 + 2 * q) xd_58 rfl (vp_in_nI (show q < 4 by omega) (by decide)) (by rw [nI_clamp (by omega)]) dX7_sheet_78 ?_
          refine x_iload_n C 3 dX7_sheet_79 rfl rfl ?_
          refine x_iload_n C 4 dX7_sheet_80 rfl rfl ?_
          refine x_callVv C (As := [.int (bits), .int (size)]) (rest := []) (c_shbegin l E σ τ q (by omega) bits size) kv_X7_265 (x_recv C (by omega) (xs_0 (show q < 4 by omega)) rfl) ⟨Nat.le_of_ble_eq_true rfl, Nat.le_of_ble_eq_true rfl⟩ rfl rfl (Nat.le_of_ble_eq_true rfl) dX7_sheet_81 ?_
          refine x_iload_n C 3 dX7_sheet_84 rfl rfl ?_
          refine x_if_ne C (tgt := 92) dX7_sheet_85 (by decide) (fun h6 => ?_) (fun h6 => ?_)
          · refine x_iload_n C 4 dX7_sheet_92 rfl rfl ?_
            exact x_oret C (cpost_of (V := va_up (u2 (u2 (cv σ) 5 q bits) 6 q (szI bits size)) 7 (clrN (σ 9) q 40)) (Eq.trans (if_pos (by first | assumption | ((try simp only [rng, mayQ, tI_lt, tI_eq, cvr_0, mvr_0, cvr_c, mvr_c, ruleQ, tn_999, tl_200, tl_999, bitsQ, tl_16, tl_32, tl_40, tl_0, tl_1, tl_2, tl_3, tl_4, tl_5, tl_6, tl_7, tl_8, tl_9, tl_10, tl_11, tl_12, tl_13, tl_16, tl_32, tl_40, tl_99] at h1 h2 h4 h5 ⊢) <;> omega))) (Eq.trans (if_neg (by first | assumption | ((try simp only [rng, mayQ, tI_lt, tI_eq, cvr_0, mvr_0, cvr_c, mvr_c, ruleQ, tn_999, tl_200, tl_999, bitsQ, tl_16, tl_32, tl_40, tl_0, tl_1, tl_2, tl_3, tl_4, tl_5, tl_6, tl_7, tl_8, tl_9, tl_10, tl_11, tl_12, tl_13, tl_16, tl_32, tl_40, tl_99] at h1 h2 h4 h5 ⊢) <;> omega))) (Eq.trans (if_neg (by first | assumption | ((try simp only [rng, mayQ, tI_lt, tI_eq, cvr_0, mvr_0, cvr_c, mvr_c, ruleQ, tn_999, tl_200, tl_999, bitsQ, tl_16, tl_32, tl_40, tl_0, tl_1, tl_2, tl_3, tl_4, tl_5, tl_6, tl_7, tl_8, tl_9, tl_10, tl_11, tl_12, tl_13, tl_16, tl_32, tl_40, tl_99] at h1 h2 h4 h5 ⊢) <;> omega))) (Eq.trans (congrArg (fun z => sheetS z bits size (cv σ)) (nI_clamp (by omega))) (congrArg (fun z => (z, _)) (if_neg h6)))))) (by rw [cv_v9, cv_u8, cv_u7]) (by rw [mv_v9, mv_u8, mv_u7]) rfl) dX7_sheet_93
          · refine x_iconst C (v := 0) dX7_sheet_88 (by decide) ?_
            refine x_goto2 C (tgt := 93) dX7_sheet_89 (by decide) ?_
            exact x_oret C (cpost_of (V := va_up (u2 (u2 (cv σ) 5 q bits) 6 q (szI bits size)) 7 (clrN (σ 9) q 40)) (Eq.trans (if_pos (by first | assumption | ((try simp only [rng, mayQ, tI_lt, tI_eq, cvr_0, mvr_0, cvr_c, mvr_c, ruleQ, tn_999, tl_200, tl_999, bitsQ, tl_16, tl_32, tl_40, tl_0, tl_1, tl_2, tl_3, tl_4, tl_5, tl_6, tl_7, tl_8, tl_9, tl_10, tl_11, tl_12, tl_13, tl_16, tl_32, tl_40, tl_99] at h1 h2 h4 h5 ⊢) <;> omega))) (Eq.trans (if_neg (by first | assumption | ((try simp only [rng, mayQ, tI_lt, tI_eq, cvr_0, mvr_0, cvr_c, mvr_c, ruleQ, tn_999, tl_200, tl_999, bitsQ, tl_16, tl_32, tl_40, tl_0, tl_1, tl_2, tl_3, tl_4, tl_5, tl_6, tl_7, tl_8, tl_9, tl_10, tl_11, tl_12, tl_13, tl_16, tl_32, tl_40, tl_99] at h1 h2 h4 h5 ⊢) <;> omega))) (Eq.trans (if_neg (by first | assumption | ((try simp only [rng, mayQ, tI_lt, tI_eq, cvr_0, mvr_0, cvr_c, mvr_c, ruleQ, tn_999, tl_200, tl_999, bitsQ, tl_16, tl_32, tl_40, tl_0, tl_1, tl_2, tl_3, tl_4, tl_5, tl_6, tl_7, tl_8, tl_9, tl_10, tl_11, tl_12, tl_13, tl_16, tl_32, tl_40, tl_99] at h1 h2 h4 h5 ⊢) <;> omega))) (Eq.trans (congrArg (fun z => sheetS z bits size (cv σ)) (nI_clamp (by omega))) (congrArg (fun z => (z, _)) (if_pos h6)))))) (by rw [cv_v9, cv_u8, cv_u7]) (by rw [mv_v9, mv_u8, mv_u7]) rfl) dX7_sheet_93
        · refine x_aload_n C 1 dX7_sheet_66 rfl rfl ?_
          refine x_ldc C dX7_sheet_67 kc_X7_63 ?_
          refine x_callVi C (As := [.int ((-1000001))]) (rest := []) (c_finding l E σ τ 0 (by decide) (-1000001) (by decide)) kv_X7_64 (x_recv C (Nat.le_of_ble_eq_true rfl) xd_0 rfl) ⟨Nat.le_of_ble_eq_true rfl, Nat.le_of_ble_eq_true rfl⟩ rfl rfl (Nat.le_of_ble_eq_true rfl) dX7_sheet_69 ?_
          exact x_oret C (cpost_of (V := u2 (cv σ) 2 0 (σ 4 0 + 1)) (Eq.trans (if_pos (by first | assumption | ((try simp only [rng, mayQ, tI_lt, tI_eq, cvr_0, mvr_0, cvr_c, mvr_c, ruleQ, tn_999, tl_200, tl_999, bitsQ, tl_16, tl_32, tl_40, tl_0, tl_1, tl_2, tl_3, tl_4, tl_5, tl_6, tl_7, tl_8, tl_9, tl_10, tl_11, tl_12, tl_13, tl_16, tl_32, tl_40, tl_99] at h1 h2 h4 h5 ⊢) <;> omega))) (Eq.trans (if_neg (by first | assumption | ((try simp only [rng, mayQ, tI_lt, tI_eq, cvr_0, mvr_0, cvr_c, mvr_c, ruleQ, tn_999, tl_200, tl_999, bitsQ, tl_16, tl_32, tl_40, tl_0, tl_1, tl_2, tl_3, tl_4, tl_5, tl_6, tl_7, tl_8, tl_9, tl_10, tl_11, tl_12, tl_13, tl_16, tl_32, tl_40, tl_99] at h1 h2 h4 h5 ⊢) <;> omega))) (if_pos (by first | assumption | ((try simp only [rng, mayQ, tI_lt, tI_eq, cvr_0, mvr_0, cvr_c, mvr_c, ruleQ, tn_999, tl_200, tl_999, bitsQ, tl_16, tl_32, tl_40, tl_0, tl_1, tl_2, tl_3, tl_4, tl_5, tl_6, tl_7, tl_8, tl_9, tl_10, tl_11, tl_12, tl_13, tl_16, tl_32, tl_40, tl_99] at h1 h2 h4 h5 ⊢) <;> omega))))) (by rw [cv_u4]) (by rw [mv_u4]) rfl) dX7_sheet_72
      · refine x_aload_n C 1 dX7_sheet_52 rfl rfl ?_
        refine x_ldcw C dX7_sheet_53 kc_X7_264 ?_
        refine x_callVi C (As := [.int ((-1000007))]) (rest := []) (c_finding l E σ τ 6 (by decide) (-1000007) (by decide)) kv_X7_64 (x_recv C (Nat.le_of_ble_eq_true rfl) xd_0 rfl) ⟨Nat.le_of_ble_eq_true rfl, Nat.le_of_ble_eq_true rfl⟩ rfl rfl (Nat.le_of_ble_eq_true rfl) dX7_sheet_56 ?_
        exact x_oret C (cpost_of (V := u2 (cv σ) 2 6 (σ 4 6 + 1)) (Eq.trans (if_pos (by first | assumption | ((try simp only [rng, mayQ, tI_lt, tI_eq, cvr_0, mvr_0, cvr_c, mvr_c, ruleQ, tn_999, tl_200, tl_999, bitsQ, tl_16, tl_32, tl_40, tl_0, tl_1, tl_2, tl_3, tl_4, tl_5, tl_6, tl_7, tl_8, tl_9, tl_10, tl_11, tl_12, tl_13, tl_16, tl_32, tl_40, tl_99] at h1 h2 h4 ⊢) <;> omega))) (if_pos (by first | assumption | ((try simp only [rng, mayQ, tI_lt, tI_eq, cvr_0, mvr_0, cvr_c, mvr_c, ruleQ, tn_999, tl_200, tl_999, bitsQ, tl_16, tl_32, tl_40, tl_0, tl_1, tl_2, tl_3, tl_4, tl_5, tl_6, tl_7, tl_8, tl_9, tl_10, tl_11, tl_12, tl_13, tl_16, tl_32, tl_40, tl_99] at h1 h2 h4 ⊢) <;> omega)))) (by rw [cv_u4]) (by rw [mv_u4]) rfl) dX7_sheet_59
  · refine x_iload_n C 2 dX7_sheet_4 rfl rfl ?_
    refine x_bipush C (v := 8) dX7_sheet_5 (by decide) ?_
    refine x_icmp_eq C (tgt := 22) dX7_sheet_7 (by decide) (fun h7 => ?_) (fun h7 => ?_)
    · refine x_iconst C (v := 1) dX7_sheet_22 (by decide) ?_
      refine x_goto2 C (tgt := 27) dX7_sheet_23 (by decide) ?_
      refine x_istore C (lv1 := [(4, .int (1)), (0, .ref (xad E (0))), (1, .int (sh)), (2, .int (bits)), (3, .int (size))]) dX7_sheet_27 (by decide) rfl ?_
      refine x_iload_n C 2 dX7_sheet_29 rfl rfl ?_
      refine x_callSi C (As := [.int (sh)]) (rest := []) (c_isSheet l E σ τ sh) ks_X7_261 ⟨Nat.le_of_ble_eq_true rfl, Nat.le_of_ble_eq_true rfl⟩ rfl rfl (Nat.le_of_ble_eq_true rfl) dX7_sheet_30 ?_
      refine x_ifeqB C (tgt := 41) dX7_sheet_33 (by decide) (fun h8 => ?_) (fun h8 => ?_)
      · refine x_aload_n C 1 dX7_sheet_41 rfl rfl ?_
        refine x_ldc C dX7_sheet_42 kc_X7_63 ?_
        refine x_callVi C (As := [.int ((-1000001))]) (rest := []) (c_finding l E σ τ 0 (by decide) (-1000001) (by decide)) kv_X7_64 (x_recv C (Nat.le_of_ble_eq_true rfl) xd_0 rfl) ⟨Nat.le_of_ble_eq_true rfl, Nat.le_of_ble_eq_true rfl⟩ rfl rfl (Nat.le_of_ble_eq_true rfl) dX7_sheet_44 ?_
        exact x_oret C (cpost_of (V := u2 (cv σ) 2 0 (σ 4 0 + 1)) (if_neg (by first | assumption | ((try simp only [rng, mayQ, tI_lt, tI_eq, cvr_0, mvr_0, cvr_c, mvr_c, ruleQ, tn_999, tl_200, tl_999, bitsQ, tl_16, tl_32, tl_40, tl_0, tl_1, tl_2, tl_3, tl_4, tl_5, tl_6, tl_7, tl_8, tl_9, tl_10, tl_11, tl_12, tl_13, tl_16, tl_32, tl_40, tl_99] at h1 h7 h8 ⊢) <;> omega))) (by rw [cv_u4]) (by rw [mv_u4]) rfl) dX7_sheet_47
      · refine x_iload C 0 dX7_sheet_36 rfl ?_
        refine x_if_ne C (tgt := 48) dX7_sheet_38 (by decide) (fun h9 => ?_) (fun h9 => absurd h9 (by decide))
        refine x_iload_n C 4 dX7_sheet_48 rfl rfl ?_
        refine x_if_ge C (tgt := 60) dX7_sheet_49 (by decide) (fun h10 => ?_) (fun h10 => ?_)
        · refine x_iload_n C 4 dX7_sheet_60 rfl rfl ?_
          refine x_bipush C (v := 40) dX7_sheet_61 (by decide) ?_
          refine x_icmp_le C (tgt := 73) dX7_sheet_63 (by decide) (fun h11 => ?_) (fun h11 => ?_)
          · obtain ⟨q, hqa, hqb, rfl⟩ := rngN (a := 0) (b := 3) h8 (by decide) (by decide) (by decide)
            refine x_aload_n C 1 dX7_sheet_73 rfl rfl ?_
            refine x_get C (Nat.le_of_ble_eq_true rfl) xd_0 fl_X7_33 (q := (0, 58, 0)) (v := .ref (xad E (58))) rfl rfl dX7_sheet_74 ?_
            refine x_iload_n C 2 dX7_sheet_77 rfl rfl ?_
            refine x_aldq C (Nat.le_of_ble_eq_true rfl) (t := 2) (Or.inr rfl) (z := 73 + 2 * q) xd_58 rfl (vp_in_nI (show q < 4 by omega) (by decide)) (by rw [nI_clamp (by omega)]) dX7_sheet_78 ?_
            refine x_iload_n C 3 dX7_sheet_79 rfl rfl ?_
            refine x_iload_n C 4 dX7_sheet_80 rfl rfl ?_
            refine x_callVv C (As := [.int (bits), .int (size)]) (rest := []) (c_shbegin l E σ τ q (by omega) bits size) kv_X7_265 (x_recv C (by omega) (xs_0 (show q < 4 by omega)) rfl) ⟨Nat.le_of_ble_eq_true rfl, Nat.le_of_ble_eq_true rfl⟩ rfl rfl (Nat.le_of_ble_eq_true rfl) dX7_sheet_81 ?_
            refine x_iload_n C 3 dX7_sheet_84 rfl rfl ?_
            refine x_if_ne C (tgt := 92) dX7_sheet_85 (by decide) (fun h12 => ?_) (fun h12 => ?_)
            · refine x_iload_n C 4 dX7_sheet_92 rfl rfl ?_
              exact x_oret C (cpost_of (V := va_up (u2 (u2 (cv σ) 5 q bits) 6 q (szI bits size)) 7 (clrN (σ 9) q 40)) (Eq.trans (if_pos (by first | assumption | ((try simp only [rng, mayQ, tI_lt, tI_eq, cvr_0, mvr_0, cvr_c, mvr_c, ruleQ, tn_999, tl_200, tl_999, bitsQ, tl_16, tl_32, tl_40, tl_0, tl_1, tl_2, tl_3, tl_4, tl_5, tl_6, tl_7, tl_8, tl_9, tl_10, tl_11, tl_12, tl_13, tl_16, tl_32, tl_40, tl_99] at h1 h7 h8 h10 h11 ⊢) <;> omega))) (Eq.trans (if_neg (by first | assumption | ((try simp only [rng, mayQ, tI_lt, tI_eq, cvr_0, mvr_0, cvr_c, mvr_c, ruleQ, tn_999, tl_200, tl_999, bitsQ, tl_16, tl_32, tl_40, tl_0, tl_1, tl_2, tl_3, tl_4, tl_5, tl_6, tl_7, tl_8, tl_9, tl_10, tl_11, tl_12, tl_13, tl_16, tl_32, tl_40, tl_99] at h1 h7 h8 h10 h11 ⊢) <;> omega))) (Eq.trans (if_neg (by first | assumption | ((try simp only [rng, mayQ, tI_lt, tI_eq, cvr_0, mvr_0, cvr_c, mvr_c, ruleQ, tn_999, tl_200, tl_999, bitsQ, tl_16, tl_32, tl_40, tl_0, tl_1, tl_2, tl_3, tl_4, tl_5, tl_6, tl_7, tl_8, tl_9, tl_10, tl_11, tl_12, tl_13, tl_16, tl_32, tl_40, tl_99] at h1 h7 h8 h10 h11 ⊢) <;> omega))) (Eq.trans (congrArg (fun z => sheetS z bits size (cv σ)) (nI_clamp (by omega))) (congrArg (fun z => (z, _)) (if_neg h12)))))) (by rw [cv_v9, cv_u8, cv_u7]) (by rw [mv_v9, mv_u8, mv_u7]) rfl) dX7_sheet_93
            · refine x_iconst C (v := 0) dX7_sheet_88 (by decide) ?_
              refine x_goto2 C (tgt := 93) dX7_sheet_89 (by decide) ?_
              exact x_oret C (cpost_of (V := va_up (u2 (u2 (cv σ) 5 q bits) 6 q (szI bits size)) 7 (clrN (σ 9) q 40)) (Eq.trans (if_pos (by first | assumption | ((try simp only [rng, mayQ, tI_lt, tI_eq, cvr_0, mvr_0, cvr_c, mvr_c, ruleQ, tn_999, tl_200, tl_999, bitsQ, tl_16, tl_32, tl_40, tl_0, tl_1, tl_2, tl_3, tl_4, tl_5, tl_6, tl_7, tl_8, tl_9, tl_10, tl_11, tl_12, tl_13, tl_16, tl_32, tl_40, tl_99] at h1 h7 h8 h10 h11 ⊢) <;> omega))) (Eq.trans (if_neg (by first | assumption | ((try simp only [rng, mayQ, tI_lt, tI_eq, cvr_0, mvr_0, cvr_c, mvr_c, ruleQ, tn_999, tl_200, tl_999, bitsQ, tl_16, tl_32, tl_40, tl_0, tl_1, tl_2, tl_3, tl_4, tl_5, tl_6, tl_7, tl_8, tl_9, tl_10, tl_11, tl_12, tl_13, tl_16, tl_32, tl_40, tl_99] at h1 h7 h8 h10 h11 ⊢) <;> omega))) (Eq.trans (if_neg (by first | assumption | ((try simp only [rng, mayQ, tI_lt, tI_eq, cvr_0, mvr_0, cvr_c, mvr_c, ruleQ, tn_999, tl_200, tl_999, bitsQ, tl_16, tl_32, tl_40, tl_0, tl_1, tl_2, tl_3, tl_4, tl_5, tl_6, tl_7, tl_8, tl_9, tl_10, tl_11, tl_12, tl_13, tl_16, tl_32, tl_40, tl_99] at h1 h7 h8 h10 h11 ⊢) <;> omega))) (Eq.trans (congrArg (fun z => sheetS z bits size (cv σ)) (nI_clamp (by omega))) (congrArg (fun z => (z, _)) (if_pos h12)))))) (by rw [cv_v9, cv_u8, cv_u7]) (by rw [mv_v9, mv_u8, mv_u7]) rfl) dX7_sheet_93
          · refine x_aload_n C 1 dX7_sheet_66 rfl rfl ?_
            refine x_ldc C dX7_sheet_67 kc_X7_63 ?_
            refine x_callVi C (As := [.int ((-1000001))]) (rest := []) (c_finding l E σ τ 0 (by decide) (-1000001) (by decide)) kv_X7_64 (x_recv C (Nat.le_of_ble_eq_true rfl) xd_0 rfl) ⟨Nat.le_of_ble_eq_true rfl, Nat.le_of_ble_eq_true rfl⟩ rfl rfl (Nat.le_of_ble_eq_true rfl) dX7_sheet_69 ?_
            exact x_oret C (cpost_of (V := u2 (cv σ) 2 0 (σ 4 0 + 1)) (Eq.trans (if_pos (by first | assumption | ((try simp only [rng, mayQ, tI_lt, tI_eq, cvr_0, mvr_0, cvr_c, mvr_c, ruleQ, tn_999, tl_200, tl_999, bitsQ, tl_16, tl_32, tl_40, tl_0, tl_1, tl_2, tl_3, tl_4, tl_5, tl_6, tl_7, tl_8, tl_9, tl_10, tl_11, tl_12, tl_13, tl_16, tl_32, tl_40, tl_99] at h1 h7 h8 h10 h11 ⊢) <;> omega))) (Eq.trans (if_neg (by first | assumption | ((try simp only [rng, mayQ, tI_lt, tI_eq, cvr_0, mvr_0, cvr_c, mvr_c, ruleQ, tn_999, tl_200, tl_999, bitsQ, tl_16, tl_32, tl_40, tl_0, tl_1, tl_2, tl_3, tl_4, tl_5, tl_6, tl_7, tl_8, tl_9, tl_10, tl_11, tl_12, tl_13, tl_16, tl_32, tl_40, tl_99] at h1 h7 h8 h10 h11 ⊢) <;> omega))) (if_pos (by first | assumption | ((try simp only [rng, mayQ, tI_lt, tI_eq, cvr_0, mvr_0, cvr_c, mvr_c, ruleQ, tn_999, tl_200, tl_999, bitsQ, tl_16, tl_32, tl_40, tl_0, tl_1, tl_2, tl_3, tl_4, tl_5, tl_6, tl_7, tl_8, tl_9, tl_10, tl_11, tl_12, tl_13, tl_16, tl_32, tl_40, tl_99] at h1 h7 h8 h10 h11 ⊢) <;> omega))))) (by rw [cv_u4]) (by rw [mv_u4]) rfl) dX7_sheet_72
        · refine x_aload_n C 1 dX7_sheet_52 rfl rfl ?_
          refine x_ldcw C dX7_sheet_53 kc_X7_264 ?_
          refine x_callVi C (As := [.int ((-1000007))]) (rest := []) (c_finding l E σ τ 6 (by decide) (-1000007) (by decide)) kv_X7_64 (x_recv C (Nat.le_of_ble_eq_true rfl) xd_0 rfl) ⟨Nat.le_of_ble_eq_true rfl, Nat.le_of_ble_eq_true rfl⟩ rfl rfl (Nat.le_of_ble_eq_true rfl) dX7_sheet_56 ?_
          exact x_oret C (cpost_of (V := u2 (cv σ) 2 6 (σ 4 6 + 1)) (Eq.trans (if_pos (by first | assumption | ((try simp only [rng, mayQ, tI_lt, tI_eq, cvr_0, mvr_0, cvr_c, mvr_c, ruleQ, tn_999, tl_200, tl_999, bitsQ, tl_16, tl_32, tl_40, tl_0, tl_1, tl_2, tl_3, tl_4, tl_5, tl_6, tl_7, tl_8, tl_9, tl_10, tl_11, tl_12, tl_13, tl_16, tl_32, tl_40, tl_99] at h1 h7 h8 h10 ⊢) <;> omega))) (if_pos (by first | assumption | ((try simp only [rng, mayQ, tI_lt, tI_eq, cvr_0, mvr_0, cvr_c, mvr_c, ruleQ, tn_999, tl_200, tl_999, bitsQ, tl_16, tl_32, tl_40, tl_0, tl_1, tl_2, tl_3, tl_4, tl_5, tl_6, tl_7, tl_8, tl_9, tl_10, tl_11, tl_12, tl_13, tl_16, tl_32, tl_40, tl_99] at h1 h7 h8 h10 ⊢) <;> omega)))) (by rw [cv_u4]) (by rw [mv_u4]) rfl) dX7_sheet_59
    · refine x_iload_n C 2 dX7_sheet_10 rfl rfl ?_
      refine x_bipush C (v := 16) dX7_sheet_11 (by decide) ?_
      refine x_icmp_eq C (tgt := 22) dX7_sheet_13 (by decide) (fun h13 => ?_) (fun h13 => ?_)
      · refine x_iconst C (v := 1) dX7_sheet_22 (by decide) ?_
        refine x_goto2 C (tgt := 27) dX7_sheet_23 (by decide) ?_
        refine x_istore C (lv1 := [(4, .int (1)), (0, .ref (xad E (0))), (1, .int (sh)), (2, .int (bits)), (3, .int (size))]) dX7_sheet_27 (by decide) rfl ?_
        refine x_iload_n C 2 dX7_sheet_29 rfl rfl ?_
        refine x_callSi C (As := [.int (sh)]) (rest := []) (c_isSheet l E σ τ sh) ks_X7_261 ⟨Nat.le_of_ble_eq_true rfl, Nat.le_of_ble_eq_true rfl⟩ rfl rfl (Nat.le_of_ble_eq_true rfl) dX7_sheet_30 ?_
        refine x_ifeqB C (tgt := 41) dX7_sheet_33 (by decide) (fun h14 => ?_) (fun h14 => ?_)
        · refine x_aload_n C 1 dX7_sheet_41 rfl rfl ?_
          refine x_ldc C dX7_sheet_42 kc_X7_63 ?_
          refine x_callVi C (As := [.int ((-1000001))]) (rest := []) (c_finding l E σ τ 0 (by decide) (-1000001) (by decide)) kv_X7_64 (x_recv C (Nat.le_of_ble_eq_true rfl) xd_0 rfl) ⟨Nat.le_of_ble_eq_true rfl, Nat.le_of_ble_eq_true rfl⟩ rfl rfl (Nat.le_of_ble_eq_true rfl) dX7_sheet_44 ?_
          exact x_oret C (cpost_of (V := u2 (cv σ) 2 0 (σ 4 0 + 1)) (if_neg (by first | assumption | ((try simp only [rng, mayQ, tI_lt, tI_eq, cvr_0, mvr_0, cvr_c, mvr_c, ruleQ, tn_999, tl_200, tl_999, bitsQ, tl_16, tl_32, tl_40, tl_0, tl_1, tl_2, tl_3, tl_4, tl_5, tl_6, tl_7, tl_8, tl_9, tl_10, tl_11, tl_12, tl_13, tl_16, tl_32, tl_40, tl_99] at h1 h7 h13 h14 ⊢) <;> omega))) (by rw [cv_u4]) (by rw [mv_u4]) rfl) dX7_sheet_47
        · refine x_iload C 0 dX7_sheet_36 rfl ?_
          refine x_if_ne C (tgt := 48) dX7_sheet_38 (by decide) (fun h15 => ?_) (fun h15 => absurd h15 (by decide))
          refine x_iload_n C 4 dX7_sheet_48 rfl rfl ?_
          refine x_if_ge C (tgt := 60) dX7_sheet_49 (by decide) (fun h16 => ?_) (fun h16 => ?_)
          · refine x_iload_n C 4 dX7_sheet_60 rfl rfl ?_
            refine x_bipush C (v := 40) dX7_sheet_61 (by decide) ?_
            refine x_icmp_le C (tgt := 73) dX7_sheet_63 (by decide) (fun h17 => ?_) (fun h17 => ?_)
            · obtain ⟨q, hqa, hqb, rfl⟩ := rngN (a := 0) (b := 3) h14 (by decide) (by decide) (by decide)
              refine x_aload_n C 1 dX7_sheet_73 rfl rfl ?_
              refine x_get C (Nat.le_of_ble_eq_true rfl) xd_0 fl_X7_33 (q := (0, 58, 0)) (v := .ref (xad E (58))) rfl rfl dX7_sheet_74 ?_
              refine x_iload_n C 2 dX7_sheet_77 rfl rfl ?_
              refine x_aldq C (Nat.le_of_ble_eq_true rfl) (t := 2) (Or.inr rfl) (z := 73 + 2 * q) xd_58 rfl (vp_in_nI (show q < 4 by omega) (by decide)) (by rw [nI_clamp (by omega)]) dX7_sheet_78 ?_
              refine x_iload_n C 3 dX7_sheet_79 rfl rfl ?_
              refine x_iload_n C 4 dX7_sheet_80 rfl rfl ?_
              refine x_callVv C (As := [.int (bits), .int (size)]) (rest := []) (c_shbegin l E σ τ q (by omega) bits size) kv_X7_265 (x_recv C (by omega) (xs_0 (show q < 4 by omega)) rfl) ⟨Nat.le_of_ble_eq_true rfl, Nat.le_of_ble_eq_true rfl⟩ rfl rfl (Nat.le_of_ble_eq_true rfl) dX7_sheet_81 ?_
              refine x_iload_n C 3 dX7_sheet_84 rfl rfl ?_
              refine x_if_ne C (tgt := 92) dX7_sheet_85 (by decide) (fun h18 => ?_) (fun h18 => ?_)
              · refine x_iload_n C 4 dX7_sheet_92 rfl rfl ?_
                exact x_oret C (cpost_of (V := va_up (u2 (u2 (cv σ) 5 q bits) 6 q (szI bits size)) 7 (clrN (σ 9) q 40)) (Eq.trans (if_pos (by first | assumption | ((try simp only [rng, mayQ, tI_lt, tI_eq, cvr_0, mvr_0, cvr_c, mvr_c, ruleQ, tn_999, tl_200, tl_999, bitsQ, tl_16, tl_32, tl_40, tl_0, tl_1, tl_2, tl_3, tl_4, tl_5, tl_6, tl_7, tl_8, tl_9, tl_10, tl_11, tl_12, tl_13, tl_16, tl_32, tl_40, tl_99] at h1 h7 h13 h14 h16 h17 ⊢) <;> omega))) (Eq.trans (if_neg (by first | assumption | ((try simp only [rng, mayQ, tI_lt, tI_eq, cvr_0, mvr_0, cvr_c, mvr_c, ruleQ, tn_999, tl_200, tl_999, bitsQ, tl_16, tl_32, tl_40, tl_0, tl_1, tl_2, tl_3, tl_4, tl_5, tl_6, tl_7, tl_8, tl_9, tl_10, tl_11, tl_12, tl_13, tl_16, tl_32, tl_40, tl_99] at h1 h7 h13 h14 h16 h17 ⊢) <;> omega))) (Eq.trans (if_neg (by first | assumption | ((try simp only [rng, mayQ, tI_lt, tI_eq, cvr_0, mvr_0, cvr_c, mvr_c, ruleQ, tn_999, tl_200, tl_999, bitsQ, tl_16, tl_32, tl_40, tl_0, tl_1, tl_2, tl_3, tl_4, tl_5, tl_6, tl_7, tl_8, tl_9, tl_10, tl_11, tl_12, tl_13, tl_16, tl_32, tl_40, tl_99] at h1 h7 h13 h14 h16 h17 ⊢) <;> omega))) (Eq.trans (congrArg (fun z => sheetS z bits size (cv σ)) (nI_clamp (by omega))) (congrArg (fun z => (z, _)) (if_neg h18)))))) (by rw [cv_v9, cv_u8, cv_u7]) (by rw [mv_v9, mv_u8, mv_u7]) rfl) dX7_sheet_93
              · refine x_iconst C (v := 0) dX7_sheet_88 (by decide) ?_
                refine x_goto2 C (tgt := 93) dX7_sheet_89 (by decide) ?_
                exact x_oret C (cpost_of (V := va_up (u2 (u2 (cv σ) 5 q bits) 6 q (szI bits size)) 7 (clrN (σ 9) q 40)) (Eq.trans (if_pos (by first | assumption | ((try simp only [rng, mayQ, tI_lt, tI_eq, cvr_0, mvr_0, cvr_c, mvr_c, ruleQ, tn_999, tl_200, tl_999, bitsQ, tl_16, tl_32, tl_40, tl_0, tl_1, tl_2, tl_3, tl_4, tl_5, tl_6, tl_7, tl_8, tl_9, tl_10, tl_11, tl_12, tl_13, tl_16, tl_32, tl_40, tl_99] at h1 h7 h13 h14 h16 h17 ⊢) <;> omega))) (Eq.trans (if_neg (by first | assumption | ((try simp only [rng, mayQ, tI_lt, tI_eq, cvr_0, mvr_0, cvr_c, mvr_c, ruleQ, tn_999, tl_200, tl_999, bitsQ, tl_16, tl_32, tl_40, tl_0, tl_1, tl_2, tl_3, tl_4, tl_5, tl_6, tl_7, tl_8, tl_9, tl_10, tl_11, tl_12, tl_13, tl_16, tl_32, tl_40, tl_99] at h1 h7 h13 h14 h16 h17 ⊢) <;> omega))) (Eq.trans (if_neg (by first | assumption | ((try simp only [rng, mayQ, tI_lt, tI_eq, cvr_0, mvr_0, cvr_c, mvr_c, ruleQ, tn_999, tl_200, tl_999, bitsQ, tl_16, tl_32, tl_40, tl_0, tl_1, tl_2, tl_3, tl_4, tl_5, tl_6, tl_7, tl_8, tl_9, tl_10, tl_11, tl_12, tl_13, tl_16, tl_32, tl_40, tl_99] at h1 h7 h13 h14 h16 h17 ⊢) <;> omega))) (Eq.trans (congrArg (fun z => sheetS z bits size (cv σ)) (nI_clamp (by omega))) (congrArg (fun z => (z, _)) (if_pos h18)))))) (by rw [cv_v9, cv_u8, cv_u7]) (by rw [mv_v9, mv_u8, mv_u7]) rfl) dX7_sheet_93
            · refine x_aload_n C 1 dX7_sheet_66 rfl rfl ?_
              refine x_ldc C dX7_sheet_67 kc_X7_63 ?_
              refine x_callVi C (As := [.int ((-1000001))]) (rest := []) (c_finding l E σ τ 0 (by decide) (-1000001) (by decide)) kv_X7_64 (x_recv C (Nat.le_of_ble_eq_true rfl) xd_0 rfl) ⟨Nat.le_of_ble_eq_true rfl, Nat.le_of_ble_eq_true rfl⟩ rfl rfl (Nat.le_of_ble_eq_true rfl) dX7_sheet_69 ?_
              exact x_oret C (cpost_of (V := u2 (cv σ) 2 0 (σ 4 0 + 1)) (Eq.trans (if_pos (by first | assumption | ((try simp only [rng, mayQ, tI_lt, tI_eq, cvr_0, mvr_0, cvr_c, mvr_c, ruleQ, tn_999, tl_200, tl_999, bitsQ, tl_16, tl_32, tl_40, tl_0, tl_1, tl_2, tl_3, tl_4, tl_5, tl_6, tl_7, tl_8, tl_9, tl_10, tl_11, tl_12, tl_13, tl_16, tl_32, tl_40, tl_99] at h1 h7 h13 h14 h16 h17 ⊢) <;> omega))) (Eq.trans (if_neg (by first | assumption | ((try simp only [rng, mayQ, tI_lt, tI_eq, cvr_0, mvr_0, cvr_c, mvr_c, ruleQ, tn_999, tl_200, tl_999, bitsQ, tl_16, tl_32, tl_40, tl_0, tl_1, tl_2, tl_3, tl_4, tl_5, tl_6, tl_7, tl_8, tl_9, tl_10, tl_11, tl_12, tl_13, tl_16, tl_32, tl_40, tl_99] at h1 h7 h13 h14 h16 h17 ⊢) <;> omega))) (if_pos (by first | assumption | ((try simp only [rng, mayQ, tI_lt, tI_eq, cvr_0, mvr_0, cvr_c, mvr_c, ruleQ, tn_999, tl_200, tl_999, bitsQ, tl_16, tl_32, tl_40, tl_0, tl_1, tl_2, tl_3, tl_4, tl_5, tl_6, tl_7, tl_8, tl_9, tl_10, tl_11, tl_12, tl_13, tl_16, tl_32, tl_40, tl_99] at h1 h7 h13 h14 h16 h17 ⊢) <;> omega))))) (by rw [cv_u4]) (by rw [mv_u4]) rfl) dX7_sheet_72
          · refine x_aload_n C 1 dX7_sheet_52 rfl rfl ?_
            refine x_ldcw C dX7_sheet_53 kc_X7_264 ?_
            refine x_callVi C (As := [.int ((-1000007))]) (rest := []) (c_finding l E σ τ 6 (by decide) (-1000007) (by decide)) kv_X7_64 (x_recv C (Nat.le_of_ble_eq_true rfl) xd_0 rfl) ⟨Nat.le_of_ble_eq_true rfl, Nat.le_of_ble_eq_true rfl⟩ rfl rfl (Nat.le_of_ble_eq_true rfl) dX7_sheet_56 ?_
            exact x_oret C (cpost_of (V := u2 (cv σ) 2 6 (σ 4 6 + 1)) (Eq.trans (if_pos (by first | assumption | ((try simp only [rng, mayQ, tI_lt, tI_eq, cvr_0, mvr_0, cvr_c, mvr_c, ruleQ, tn_999, tl_200, tl_999, bitsQ, tl_16, tl_32, tl_40, tl_0, tl_1, tl_2, tl_3, tl_4, tl_5, tl_6, tl_7, tl_8, tl_9, tl_10, tl_11, tl_12, tl_13, tl_16, tl_32, tl_40, tl_99] at h1 h7 h13 h14 h16 ⊢) <;> omega))) (if_pos (by first | assumption | ((try simp only [rng, mayQ, tI_lt, tI_eq, cvr_0, mvr_0, cvr_c, mvr_c, ruleQ, tn_999, tl_200, tl_999, bitsQ, tl_16, tl_32, tl_40, tl_0, tl_1, tl_2, tl_3, tl_4, tl_5, tl_6, tl_7, tl_8, tl_9, tl_10, tl_11, tl_12, tl_13, tl_16, tl_32, tl_40, tl_99] at h1 h7 h13 h14 h16 ⊢) <;> omega)))) (by rw [cv_u4]) (by rw [mv_u4]) rfl) dX7_sheet_59
      · refine x_iload_n C 2 dX7_sheet_16 rfl rfl ?_
        refine x_bipush C (v := 32) dX7_sheet_17 (by decide) ?_
        refine x_icmp_ne C (tgt := 26) dX7_sheet_19 (by decide) (fun h19 => ?_) (fun h19 => ?_)
        · refine x_iconst C (v := 0) dX7_sheet_26 (by decide) ?_
          refine x_istore C (lv1 := [(4, .int (0)), (0, .ref (xad E (0))), (1, .int (sh)), (2, .int (bits)), (3, .int (size))]) dX7_sheet_27 (by decide) rfl ?_
          refine x_iload_n C 2 dX7_sheet_29 rfl rfl ?_
          refine x_callSi C (As := [.int (sh)]) (rest := []) (c_isSheet l E σ τ sh) ks_X7_261 ⟨Nat.le_of_ble_eq_true rfl, Nat.le_of_ble_eq_true rfl⟩ rfl rfl (Nat.le_of_ble_eq_true rfl) dX7_sheet_30 ?_
          refine x_ifeqB C (tgt := 41) dX7_sheet_33 (by decide) (fun h20 => ?_) (fun h20 => ?_)
          · refine x_aload_n C 1 dX7_sheet_41 rfl rfl ?_
            refine x_ldc C dX7_sheet_42 kc_X7_63 ?_
            refine x_callVi C (As := [.int ((-1000001))]) (rest := []) (c_finding l E σ τ 0 (by decide) (-1000001) (by decide)) kv_X7_64 (x_recv C (Nat.le_of_ble_eq_true rfl) xd_0 rfl) ⟨Nat.le_of_ble_eq_true rfl, Nat.le_of_ble_eq_true rfl⟩ rfl rfl (Nat.le_of_ble_eq_true rfl) dX7_sheet_44 ?_
            exact x_oret C (cpost_of (V := u2 (cv σ) 2 0 (σ 4 0 + 1)) (if_neg (by first | assumption | ((try simp only [rng, mayQ, tI_lt, tI_eq, cvr_0, mvr_0, cvr_c, mvr_c, ruleQ, tn_999, tl_200, tl_999, bitsQ, tl_16, tl_32, tl_40, tl_0, tl_1, tl_2, tl_3, tl_4, tl_5, tl_6, tl_7, tl_8, tl_9, tl_10, tl_11, tl_12, tl_13, tl_16, tl_32, tl_40, tl_99] at h1 h7 h13 h19 h20 ⊢) <;> omega))) (by rw [cv_u4]) (by rw [mv_u4]) rfl) dX7_sheet_47
          · refine x_iload C 0 dX7_sheet_36 rfl ?_
            refine x_if_ne C (tgt := 48) dX7_sheet_38 (by decide) (fun h21 => absurd h21 (by decide)) (fun h21 => ?_)
            refine x_aload_n C 1 dX7_sheet_41 rfl rfl ?_
            refine x_ldc C dX7_sheet_42 kc_X7_63 ?_
            refine x_callVi C (As := [.int ((-1000001))]) (rest := []) (c_finding l E σ τ 0 (by decide) (-1000001) (by decide)) kv_X7_64 (x_recv C (Nat.le_of_ble_eq_true rfl) xd_0 rfl) ⟨Nat.le_of_ble_eq_true rfl, Nat.le_of_ble_eq_true rfl⟩ rfl rfl (Nat.le_of_ble_eq_true rfl) dX7_sheet_44 ?_
            exact x_oret C (cpost_of (V := u2 (cv σ) 2 0 (σ 4 0 + 1)) (if_neg (by first | assumption | ((try simp only [rng, mayQ, tI_lt, tI_eq, cvr_0, mvr_0, cvr_c, mvr_c, ruleQ, tn_999, tl_200, tl_999, bitsQ, tl_16, tl_32, tl_40, tl_0, tl_1, tl_2, tl_3, tl_4, tl_5, tl_6, tl_7, tl_8, tl_9, tl_10, tl_11, tl_12, tl_13, tl_16, tl_32, tl_40, tl_99] at h1 h7 h13 h19 h20 ⊢) <;> omega))) (by rw [cv_u4]) (by rw [mv_u4]) rfl) dX7_sheet_47
        · refine x_iconst C (v := 1) dX7_sheet_22 (by decide) ?_
          refine x_goto2 C (tgt := 27) dX7_sheet_23 (by decide) ?_
          refine x_istore C (lv1 := [(4, .int (1)), (0, .ref (xad E (0))), (1, .int (sh)), (2, .int (bits)), (3, .int (size))]) dX7_sheet_27 (by decide) rfl ?_
          refine x_iload_n C 2 dX7_sheet_29 rfl rfl ?_
          refine x_callSi C (As := [.int (sh)]) (rest := []) (c_isSheet l E σ τ sh) ks_X7_261 ⟨Nat.le_of_ble_eq_true rfl, Nat.le_of_ble_eq_true rfl⟩ rfl rfl (Nat.le_of_ble_eq_true rfl) dX7_sheet_30 ?_
          refine x_ifeqB C (tgt := 41) dX7_sheet_33 (by decide) (fun h22 => ?_) (fun h22 => ?_)
          · refine x_aload_n C 1 dX7_sheet_41 rfl rfl ?_
            refine x_ldc C dX7_sheet_42 kc_X7_63 ?_
            refine x_callVi C (As := [.int ((-1000001))]) (rest := []) (c_finding l E σ τ 0 (by decide) (-1000001) (by decide)) kv_X7_64 (x_recv C (Nat.le_of_ble_eq_true rfl) xd_0 rfl) ⟨Nat.le_of_ble_eq_true rfl, Nat.le_of_ble_eq_true rfl⟩ rfl rfl (Nat.le_of_ble_eq_true rfl) dX7_sheet_44 ?_
            exact x_oret C (cpost_of (V := u2 (cv σ) 2 0 (σ 4 0 + 1)) (if_neg (by first | assumption | ((try simp only [rng, mayQ, tI_lt, tI_eq, cvr_0, mvr_0, cvr_c, mvr_c, ruleQ, tn_999, tl_200, tl_999, bitsQ, tl_16, tl_32, tl_40, tl_0, tl_1, tl_2, tl_3, tl_4, tl_5, tl_6, tl_7, tl_8, tl_9, tl_10, tl_11, tl_12, tl_13, tl_16, tl_32, tl_40, tl_99] at h1 h7 h13 h19 h22 ⊢) <;> omega))) (by rw [cv_u4]) (by rw [mv_u4]) rfl) dX7_sheet_47
          · refine x_iload C 0 dX7_sheet_36 rfl ?_
            refine x_if_ne C (tgt := 48) dX7_sheet_38 (by decide) (fun h23 => ?_) (fun h23 => absurd h23 (by decide))
            refine x_iload_n C 4 dX7_sheet_48 rfl rfl ?_
            refine x_if_ge C (tgt := 60) dX7_sheet_49 (by decide) (fun h24 => ?_) (fun h24 => ?_)
            · refine x_iload_n C 4 dX7_sheet_60 rfl rfl ?_
              refine x_bipush C (v := 40) dX7_sheet_61 (by decide) ?_
              refine x_icmp_le C (tgt := 73) dX7_sheet_63 (by decide) (fun h25 => ?_) (fun h25 => ?_)
              · obtain ⟨q, hqa, hqb, rfl⟩ := rngN (a := 0) (b := 3) h22 (by decide) (by decide) (by decide)
                refine x_aload_n C 1 dX7_sheet_73 rfl rfl ?_
                refine x_get C (Nat.le_of_ble_eq_true rfl) xd_0 fl_X7_33 (q := (0, 58, 0)) (v := .ref (xad E (58))) rfl rfl dX7_sheet_74 ?_
                refine x_iload_n C 2 dX7_sheet_77 rfl rfl ?_
                refine x_aldq C (Nat.le_of_ble_eq_true rfl) (t := 2) (Or.inr rfl) (z := 73 + 2 * q) xd_58 rfl (vp_in_nI (show q < 4 by omega) (by decide)) (by rw [nI_clamp (by omega)]) dX7_sheet_78 ?_
                refine x_iload_n C 3 dX7_sheet_79 rfl rfl ?_
                refine x_iload_n C 4 dX7_sheet_80 rfl rfl ?_
                refine x_callVv C (As := [.int (bits), .int (size)]) (rest := []) (c_shbegin l E σ τ q (by omega) bits size) kv_X7_265 (x_recv C (by omega) (xs_0 (show q < 4 by omega)) rfl) ⟨Nat.le_of_ble_eq_true rfl, Nat.le_of_ble_eq_true rfl⟩ rfl rfl (Nat.le_of_ble_eq_true rfl) dX7_sheet_81 ?_
                refine x_iload_n C 3 dX7_sheet_84 rfl rfl ?_
                refine x_if_ne C (tgt := 92) dX7_sheet_85 (by decide) (fun h26 => ?_) (fun h26 => ?_)
                · refine x_iload_n C 4 dX7_sheet_92 rfl rfl ?_
                  exact x_oret C (cpost_of (V := va_up (u2 (u2 (cv σ) 5 q bits) 6 q (szI bits size)) 7 (clrN (σ 9) q 40)) (Eq.trans (if_pos (by first | assumption | ((try simp only [rng, mayQ, tI_lt, tI_eq, cvr_0, mvr_0, cvr_c, mvr_c, ruleQ, tn_999, tl_200, tl_999, bitsQ, tl_16, tl_32, tl_40, tl_0, tl_1, tl_2, tl_3, tl_4, tl_5, tl_6, tl_7, tl_8, tl_9, tl_10, tl_11, tl_12, tl_13, tl_16, tl_32, tl_40, tl_99] at h1 h7 h13 h19 h22 h24 h25 ⊢) <;> omega))) (Eq.trans (if_neg (by first | assumption | ((try simp only [rng, mayQ, tI_lt, tI_eq, cvr_0, mvr_0, cvr_c, mvr_c, ruleQ, tn_999, tl_200, tl_999, bitsQ, tl_16, tl_32, tl_40, tl_0, tl_1, tl_2, tl_3, tl_4, tl_5, tl_6, tl_7, tl_8, tl_9, tl_10, tl_11, tl_12, tl_13, tl_16, tl_32, tl_40, tl_99] at h1 h7 h13 h19 h22 h24 h25 ⊢) <;> omega))) (Eq.trans (if_neg (by first | assumption | ((try simp only [rng, mayQ, tI_lt, tI_eq, cvr_0, mvr_0, cvr_c, mvr_c, ruleQ, tn_999, tl_200, tl_999, bitsQ, tl_16, tl_32, tl_40, tl_0, tl_1, tl_2, tl_3, tl_4, tl_5, tl_6, tl_7, tl_8, tl_9, tl_10, tl_11, tl_12, tl_13, tl_16, tl_32, tl_40, tl_99] at h1 h7 h13 h19 h22 h24 h25 ⊢) <;> omega))) (Eq.trans (congrArg (fun z => sheetS z bits size (cv σ)) (nI_clamp (by omega))) (congrArg (fun z => (z, _)) (if_neg h26)))))) (by rw [cv_v9, cv_u8, cv_u7]) (by rw [mv_v9, mv_u8, mv_u7]) rfl) dX7_sheet_93
                · refine x_iconst C (v := 0) dX7_sheet_88 (by decide) ?_
                  refine x_goto2 C (tgt := 93) dX7_sheet_89 (by decide) ?_
                  exact x_oret C (cpost_of (V := va_up (u2 (u2 (cv σ) 5 q bits) 6 q (szI bits size)) 7 (clrN (σ 9) q 40)) (Eq.trans (if_pos (by first | assumption | ((try simp only [rng, mayQ, tI_lt, tI_eq, cvr_0, mvr_0, cvr_c, mvr_c, ruleQ, tn_999, tl_200, tl_999, bitsQ, tl_16, tl_32, tl_40, tl_0, tl_1, tl_2, tl_3, tl_4, tl_5, tl_6, tl_7, tl_8, tl_9, tl_10, tl_11, tl_12, tl_13, tl_16, tl_32, tl_40, tl_99] at h1 h7 h13 h19 h22 h24 h25 ⊢) <;> omega))) (Eq.trans (if_neg (by first | assumption | ((try simp only [rng, mayQ, tI_lt, tI_eq, cvr_0, mvr_0, cvr_c, mvr_c, ruleQ, tn_999, tl_200, tl_999, bitsQ, tl_16, tl_32, tl_40, tl_0, tl_1, tl_2, tl_3, tl_4, tl_5, tl_6, tl_7, tl_8, tl_9, tl_10, tl_11, tl_12, tl_13, tl_16, tl_32, tl_40, tl_99] at h1 h7 h13 h19 h22 h24 h25 ⊢) <;> omega))) (Eq.trans (if_neg (by first | assumption | ((try simp only [rng, mayQ, tI_lt, tI_eq, cvr_0, mvr_0, cvr_c, mvr_c, ruleQ, tn_999, tl_200, tl_999, bitsQ, tl_16, tl_32, tl_40, tl_0, tl_1, tl_2, tl_3, tl_4, tl_5, tl_6, tl_7, tl_8, tl_9, tl_10, tl_11, tl_12, tl_13, tl_16, tl_32, tl_40, tl_99] at h1 h7 h13 h19 h22 h24 h25 ⊢) <;> omega))) (Eq.trans (congrArg (fun z => sheetS z bits size (cv σ)) (nI_clamp (by omega))) (congrArg (fun z => (z, _)) (if_pos h26)))))) (by rw [cv_v9, cv_u8, cv_u7]) (by rw [mv_v9, mv_u8, mv_u7]) rfl) dX7_sheet_93
              · refine x_aload_n C 1 dX7_sheet_66 rfl rfl ?_
                refine x_ldc C dX7_sheet_67 kc_X7_63 ?_
                refine x_callVi C (As := [.int ((-1000001))]) (rest := []) (c_finding l E σ τ 0 (by decide) (-1000001) (by decide)) kv_X7_64 (x_recv C (Nat.le_of_ble_eq_true rfl) xd_0 rfl) ⟨Nat.le_of_ble_eq_true rfl, Nat.le_of_ble_eq_true rfl⟩ rfl rfl (Nat.le_of_ble_eq_true rfl) dX7_sheet_69 ?_
                exact x_oret C (cpost_of (V := u2 (cv σ) 2 0 (σ 4 0 + 1)) (Eq.trans (if_pos (by first | assumption | ((try simp only [rng, mayQ, tI_lt, tI_eq, cvr_0, mvr_0, cvr_c, mvr_c, ruleQ, tn_999, tl_200, tl_999, bitsQ, tl_16, tl_32, tl_40, tl_0, tl_1, tl_2, tl_3, tl_4, tl_5, tl_6, tl_7, tl_8, tl_9, tl_10, tl_11, tl_12, tl_13, tl_16, tl_32, tl_40, tl_99] at h1 h7 h13 h19 h22 h24 h25 ⊢) <;> omega))) (Eq.trans (if_neg (by first | assumption | ((try simp only [rng, mayQ, tI_lt, tI_eq, cvr_0, mvr_0, cvr_c, mvr_c, ruleQ, tn_999, tl_200, tl_999, bitsQ, tl_16, tl_32, tl_40, tl_0, tl_1, tl_2, tl_3, tl_4, tl_5, tl_6, tl_7, tl_8, tl_9, tl_10, tl_11, tl_12, tl_13, tl_16, tl_32, tl_40, tl_99] at h1 h7 h13 h19 h22 h24 h25 ⊢) <;> omega))) (if_pos (by first | assumption | ((try simp only [rng, mayQ, tI_lt, tI_eq, cvr_0, mvr_0, cvr_c, mvr_c, ruleQ, tn_999, tl_200, tl_999, bitsQ, tl_16, tl_32, tl_40, tl_0, tl_1, tl_2, tl_3, tl_4, tl_5, tl_6, tl_7, tl_8, tl_9, tl_10, tl_11, tl_12, tl_13, tl_16, tl_32, tl_40, tl_99] at h1 h7 h13 h19 h22 h24 h25 ⊢) <;> omega))))) (by rw [cv_u4]) (by rw [mv_u4]) rfl) dX7_sheet_72
            · refine x_aload_n C 1 dX7_sheet_52 rfl rfl ?_
              refine x_ldcw C dX7_sheet_53 kc_X7_264 ?_
              refine x_callVi C (As := [.int ((-1000007))]) (rest := []) (c_finding l E σ τ 6 (by decide) (-1000007) (by decide)) kv_X7_64 (x_recv C (Nat.le_of_ble_eq_true rfl) xd_0 rfl) ⟨Nat.le_of_ble_eq_true rfl, Nat.le_of_ble_eq_true rfl⟩ rfl rfl (Nat.le_of_ble_eq_true rfl) dX7_sheet_56 ?_
              exact x_oret C (cpost_of (V := u2 (cv σ) 2 6 (σ 4 6 + 1)) (Eq.trans (if_pos (by first | assumption | ((try simp only [rng, mayQ, tI_lt, tI_eq, cvr_0, mvr_0, cvr_c, mvr_c, ruleQ, tn_999, tl_200, tl_999, bitsQ, tl_16, tl_32, tl_40, tl_0, tl_1, tl_2, tl_3, tl_4, tl_5, tl_6, tl_7, tl_8, tl_9, tl_10, tl_11, tl_12, tl_13, tl_16, tl_32, tl_40, tl_99] at h1 h7 h13 h19 h22 h24 ⊢) <;> omega))) (if_pos (by first | assumption | ((try simp only [rng, mayQ, tI_lt, tI_eq, cvr_0, mvr_0, cvr_c, mvr_c, ruleQ, tn_999, tl_200, tl_999, bitsQ, tl_16, tl_32, tl_40, tl_0, tl_1, tl_2, tl_3, tl_4, tl_5, tl_6, tl_7, tl_8, tl_9, tl_10, tl_11, tl_12, tl_13, tl_16, tl_32, tl_40, tl_99] at h1 h7 h13 h19 h22 h24 ⊢) <;> omega)))) (by rw [cv_u4]) (by rw [mv_u4]) rfl) dX7_sheet_59
set_option maxHeartbeats 4000000 in
set_option maxRecDepth 100000 in
theorem m_sheet (l : Launch) (E : xE) (σ : Nat → Nat → Int32) (τ : Nat → Int64) (T : Nat) (hT : T < 1073741824) (sh bits size : Int32) (hI : Inv (mv σ) T) (hlv : ∀ j, j < 12 → σ 15 j = (xzl 1).getD j 0) : xOi l yX8_sheet cX8_sheet 5 .int 2 45 E [.ref (xad E (81)), .int (sh), .int (bits), .int (size)] σ τ (mpost (sp_sheet sh bits size (mv σ)) σ) := by
  refine xOi_of (own := RX8) (by decide +kernel) rfl (Nat.le_of_ble_eq_true rfl) ?_
  intro zp ze zs zm za zb zh zc C
  refine WM.to (lv1 := [(0, .ref (xad E (81))), (1, .int (sh)), (2, .int (bits)), (3, .int (size))]) (st1 := []) (σ1 := σ) (τ1 := τ) ?_ rfl rfl rfl rfl
  have hg : gI (σ 10) := hI.g
  have hgT : gT (σ 10) T := hI.t
  have h0 : 0 ≤ (σ 10 10).toInt := hI.h0
  refine x_iload_n C 1 dX8_sheet_0 rfl rfl ?_
  refine x_callSi C (As := [.int (sh)]) (rest := []) (c_misSheet l E σ τ sh) ks_X8_284 ⟨Nat.le_of_ble_eq_true rfl, Nat.le_of_ble_eq_true rfl⟩ rfl rfl (Nat.le_of_ble_eq_true rfl) dX8_sheet_1 ?_
  refine x_ifeqB C (tgt := 29) dX8_sheet_4 (by decide) (fun h1 => ?_) (fun h1 => ?_)
  · refine x_aload_n C 0 dX8_sheet_29 rfl rfl ?_
    refine x_ldc C dX8_sheet_30 kc_X8_46 ?_
    refine x_callVi C (As := [.int ((-1000001))]) (rest := []) (c_finds l E σ τ 0 (by decide) (-1000001) (by decide)) kv_X8_61 (x_recv C (Nat.le_of_ble_eq_true rfl) xd_81 rfl) ⟨Nat.le_of_ble_eq_true rfl, Nat.le_of_ble_eq_true rfl⟩ rfl rfl (Nat.le_of_ble_eq_true rfl) dX8_sheet_32 ?_
    exact x_oret C (mpost_of (V := u2 (mv σ) 2 0 (σ 14 0 + 1)) (if_neg (by first | assumption | ((try simp only [rng, mayQ, tI_lt, tI_eq, cvr_0, mvr_0, cvr_c, mvr_c, ruleQ, tn_999, tl_200, tl_999, bitsQ, tl_16, tl_32, tl_40, tl_0, tl_1, tl_2, tl_3, tl_4, tl_5, tl_6, tl_7, tl_8, tl_9, tl_10, tl_11, tl_12, tl_13, tl_16, tl_32, tl_40, tl_99] at h1 ⊢) <;> omega))) (by rw [mv_u14]) (by rw [cv_u14]) rfl) dX8_sheet_35
  · refine x_iload_n C 2 dX8_sheet_7 rfl rfl ?_
    refine x_if_eq C (tgt := 36) dX8_sheet_8 (by decide) (fun h2 => ?_) (fun h2 => ?_)
    · refine x_iload_n C 3 dX8_sheet_36 rfl rfl ?_
      refine x_if_ge C (tgt := 48) dX8_sheet_37 (by decide) (fun h3 => ?_) (fun h3 => ?_)
      · refine x_iload_n C 3 dX8_sheet_48 rfl rfl ?_
        refine x_bipush C (v := 40) dX8_sheet_49 (by decide) ?_
        refine x_icmp_le C (tgt := 61) dX8_sheet_51 (by decide) (fun h4 => ?_) (fun h4 => ?_)
        · obtain ⟨q, hqa, hqb, rfl⟩ := rngN (a := 0) (b := 3) h1 (by decide) (by decide) (by decide)
          refine x_aload_n C 0 dX8_sheet_61 rfl rfl ?_
          refine x_get C (Nat.le_of_ble_eq_true rfl) xd_81 fl_X8_34 (q := (0, 90, 0)) (v := .ref (xad E (90))) rfl rfl dX8_sheet_62 ?_
          refine x_iload_n C 1 dX8_sheet_65 rfl rfl ?_
          refine x_iload_n C 2 dX8_sheet_66 rfl rfl ?_
          refine x_ast C (σ' := u2 σ 18 q (bits)) (Nat.le_of_ble_eq_true rfl) xd_90 (by decide) (vp_in_nI (show q < 4 by omega) (by decide)) (by rw [(nI_clamp (show q < 2 ^ 31 by omega)), Nat.zero_add, Nat.one_mul]) dX8_sheet_67 ?_
          refine x_aload_n C 0 dX8_sheet_68 rfl rfl ?_
          refine x_get C (Nat.le_of_ble_eq_true rfl) xd_81 fl_X8_37 (q := (0, 91, 0)) (v := .ref (xad E (91))) rfl rfl dX8_sheet_69 ?_
          refine x_iload_n C 1 dX8_sheet_72 rfl rfl ?_
          refine x_iload_n C 2 dX8_sheet_73 rfl rfl ?_
          refine x_if_ne C (tgt := 81) dX8_sheet_74 (by decide) (fun h5 => ?_) (fun h5 => ?_)
          · refine x_iload_n C 3 dX8_sheet_81 rfl rfl ?_
            refine WM.topi (y := szI bits size) (if_neg h5).symm ?_
            refine x_ast C (σ' := u2 (u2 σ 18 q (bits)) 19 q (szI bits size)) (Nat.le_of_ble_eq_true rfl) xd_91 (by decide) (vp_in_nI (show q < 4 by omega) (by decide)) (by rw [(nI_clamp (show q < 2 ^ 31 by omega)), Nat.zero_add, Nat.one_mul]) dX8_sheet_82 ?_
            refine x_iconst C (v := 0) dX8_sheet_83 (by decide) ?_
            refine x_istore C (lv1 := [(4, .int (0)), (0, .ref (xad E (81))), (1, .int (nI q)), (2, .int (bits)), (3, .int (size))]) dX8_sheet_84 (by decide) rfl ?_
            have loop : ∀ (j k : Nat), j + k = 40 → WM zp l ze { frames := 2, cells := 0, slots := 0, locals := 45 } zs zm za zb zh zc 0 0 (MQ zb (va_Qi (fun r (u : xV × (Nat → Int64)) => (mpost (sp_sheet (nI q) bits size (mv σ)) σ) r u.1) (fun u t => xP E u.1 u.2 t.heap) (xA E)) za zs 0 0 (xA E)) E (xA E) 5 (va_up (u2 (u2 σ 18 q bits) 19 q (szI bits size)) 20 (clrN (σ 20) q k)) (τ) 86 [(0, .ref (xad E (81))), (1, .int (nI q)), (4, .int (nI k))] [] := by
              intro j
              induction j with
              | zero =>
                intro k hk
                refine x_iload C 2 dX8_sheet_86 rfl ?_
                refine x_bipush C (v := 40) dX8_sheet_88 (by decide) ?_
                refine x_icmp_ge C (tgt := 112) dX8_sheet_90 (by decide) (fun h6 => ?_) (fun h6 => absurd h6 (nI_nlt (a := k) (b := 40) (by omega) (by omega)))
                obtain rfl : k = 40 := by omega
                refine x_aload_n C 0 dX8_sheet_112 rfl rfl ?_
                refine x_get C (Nat.le_of_ble_eq_true rfl) xd_81 fl_X8_37 (q := (0, 91, 0)) (v := .ref (xad E (91))) rfl rfl dX8_sheet_113 ?_
                refine x_iload_n C 1 dX8_sheet_116 rfl rfl ?_
                refine x_ald C (Nat.le_of_ble_eq_true rfl) xd_91 (v := szI bits size) (vp_in_nI (show q < 4 by omega) (by decide)) (by rw [(nI_clamp (show q < 2 ^ 31 by omega)), Nat.zero_add, Nat.one_mul]; exact (Eq.trans (congrFun (va_up_ne _ (j := 19) (k := 20) _ (by decide)) _) (u2_at _ _ _ _))) dX8_sheet_117 ?_
                exact x_oret C (mpost_of (V := va_up (u2 (u2 (mv σ) 5 q bits) 6 q (szI bits size)) 7 (clrN (σ 20) q 40)) (Eq.trans (if_pos (by first | assumption | ((try simp only [rng, mayQ, tI_lt, tI_eq, cvr_0, mvr_0, cvr_c, mvr_c, ruleQ, tn_999, tl_200, tl_999, bitsQ, tl_16, tl_32, tl_40, tl_0, tl_1, tl_2, tl_3, tl_4, tl_5, tl_6, tl_7, tl_8, tl_9, tl_10, tl_11, tl_12, tl_13, tl_16, tl_32, tl_40, tl_99] at h1 h2 h3 h4 ⊢) <;> omega))) (Eq.trans (if_neg (by first | assumption | ((try simp only [rng, mayQ, tI_lt, tI_eq, cvr_0, mvr_0, cvr_c, mvr_c, ruleQ, tn_999, tl_200, tl_999, bitsQ, tl_16, tl_32, tl_40, tl_0, tl_1, tl_2, tl_3, tl_4, tl_5, tl_6, tl_7, tl_8, tl_9, tl_10, tl_11, tl_12, tl_13, tl_16, tl_32, tl_40, tl_99] at h1 h2 h3 h4 ⊢) <;> omega))) (Eq.trans (if_neg (by first | assumption | ((try simp only [rng, mayQ, tI_lt, tI_eq, cvr_0, mvr_0, cvr_c, mvr_c, ruleQ, tn_999, tl_200, tl_999, bitsQ, tl_16, tl_32, tl_40, tl_0, tl_1, tl_2, tl_3, tl_4, tl_5, tl_6, tl_7, tl_8, tl_9, tl_10, tl_11, tl_12, tl_13, tl_16, tl_32, tl_40, tl_99] at h1 h2 h3 h4 ⊢) <;> omega))) (congrArg (fun z => sheetS z bits size (mv σ)) (nI_clamp (by omega)))))) (by rw [mv_v20, mv_u19, mv_u18]) (by rw [cv_v20, cv_u19, cv_u18]) rfl) dX8_sheet_118
              | succ j ih =>
                intro k hk
                refine x_iload C 2 dX8_sheet_86 rfl ?_
                refine x_bipush C (v := 40) dX8_sheet_88 (by decide) ?_
                refine x_icmp_ge C (tgt := 112) dX8_sheet_90 (by decide) (fun h7 => absurd (nI_lt (a := k) (b := 40) (by omega) (by omega)) h7) (fun h7 => ?_)
                refine x_aload_n C 0 dX8_sheet_93 rfl rfl ?_
                refine x_get C (Nat.le_of_ble_eq_true rfl) xd_81 fl_X8_40 (q := (0, 92, 0)) (v := .ref (xad E (92))) rfl rfl dX8_sheet_94 ?_
                refine x_bipush C (v := 40) dX8_sheet_97 (by decide) ?_
                refine x_iload_n C 1 dX8_sheet_99 rfl rfl ?_
                refine x_imul C dX8_sheet_100 ?_
                refine WM.topi (y := nI (40 * q)) (pk_mul 40 q) ?_
                refine x_iload C 2 dX8_sheet_101 rfl ?_
                refine x_iadd C dX8_sheet_103 ?_
                refine WM.topi (y := nI (40 * q + k)) (nI_add (40 * q) k) ?_
                refine x_iconst C (v := 0) dX8_sheet_104 (by decide) ?_
                refine x_ast C (σ' := va_up (u2 (u2 σ 18 q bits) 19 q (szI bits size)) 20 (upd (clrN (σ 20) q k) (40 * q + k) (0))) (Nat.le_of_ble_eq_true rfl) xd_92 (by decide) (vp_in_nI (show 40 * q + k < 160 by omega) (by decide)) (by rw [(nI_clamp (show 40 * q + k < 2 ^ 31 by omega)), Nat.zero_add, Nat.one_mul]; exact (u2_bank _ _ _ _ _)) dX8_sheet_105 ?_
                refine x_iinc C (v := nI (k + 1)) (lv1 := [(4, .int (nI (k + 1))), (0, .ref (xad E (81))), (1, .int (nI q))]) 2 dX8_sheet_106 rfl (nI_add k 1) (by decide) rfl ?_
                refine x_goto2 C (tgt := 86) dX8_sheet_109 (by decide) ?_
                refine WM.keep [1, 2, 0] (lv' := [(0, .ref (xad E (81))), (1, .int (nI q)), (4, .int (nI (k + 1)))]) rfl ?_
                exact WM.to (ih (k + 1) (by omega)) (congrArg (va_up _ _) (clr_s _ _ _)) rfl rfl rfl
            refine WM.keep [1, 2, 0] rfl ?_
            exact WM.to (loop (40) 0 (by omega)) (Eq.trans (xself _ _).symm (congrArg (va_up _ _) (clr_0 _ _).symm)) rfl rfl rfl
          · refine x_iconst C (v := 0) dX8_sheet_77 (by decide) ?_
            refine x_goto2 C (tgt := 82) dX8_sheet_78 (by decide) ?_
            refine WM.topi (y := szI bits size) (if_pos h5).symm ?_
            refine x_ast C (σ' := u2 (u2 σ 18 q (bits)) 19 q (szI bits size)) (Nat.le_of_ble_eq_true rfl) xd_91 (by decide) (vp_in_nI (show q < 4 by omega) (by decide)) (by rw [(nI_clamp (show q < 2 ^ 31 by omega)), Nat.zero_add, Nat.one_mul]) dX8_sheet_82 ?_
            refine x_iconst C (v := 0) dX8_sheet_83 (by decide) ?_
            refine x_istore C (lv1 := [(4, .int (0)), (0, .ref (xad E (81))), (1, .int (nI q)), (2, .int (bits)), (3, .int (size))]) dX8_sheet_84 (by decide) rfl ?_
            have loop : ∀ (j k : Nat), j + k = 40 → WM zp l ze { frames := 2, cells := 0, slots := 0, locals := 45 } zs zm za zb zh zc 0 0 (MQ zb (va_Qi (fun r (u : xV × (Nat → Int64)) => (mpost (sp_sheet (nI q) bits size (mv σ)) σ) r u.1) (fun u t => xP E u.1 u.2 t.heap) (xA E)) za zs 0 0 (xA E)) E (xA E) 5 (va_up (u2 (u2 σ 18 q bits) 19 q (szI bits size)) 20 (clrN (σ 20) q k)) (τ) 86 [(0, .ref (xad E (81))), (1, .int (nI q)), (4, .int (nI k))] [] := by
              intro j
              induction j with
              | zero =>
                intro k hk
                refine x_iload C 2 dX8_sheet_86 rfl ?_
                refine x_bipush C (v := 40) dX8_sheet_88 (by decide) ?_
                refine x_icmp_ge C (tgt := 112) dX8_sheet_90 (by decide) (fun h8 => ?_) (fun h8 => absurd h8 (nI_nlt (a := k) (b := 40) (by omega) (by omega)))
                obtain rfl : k = 40 := by omega
                refine x_aload_n C 0 dX8_sheet_112 rfl rfl ?_
                refine x_get C (Nat.le_of_ble_eq_true rfl) xd_81 fl_X8_37 (q := (0, 91, 0)) (v := .ref (xad E (91))) rfl rfl dX8_sheet_113 ?_
                refine x_iload_n C 1 dX8_sheet_116 rfl rfl ?_
                refine x_ald C (Nat.le_of_ble_eq_true rfl) xd_91 (v := szI bits size) (vp_in_nI (show q < 4 by omega) (by decide)) (by rw [(nI_clamp (show q < 2 ^ 31 by omega)), Nat.zero_add, Nat.one_mul]; exact (Eq.trans (congrFun (va_up_ne _ (j := 19) (k := 20) _ (by decide)) _) (u2_at _ _ _ _))) dX8_sheet_117 ?_
                exact x_oret C (mpost_of (V := va_up (u2 (u2 (mv σ) 5 q bits) 6 q (szI bits size)) 7 (clrN (σ 20) q 40)) (Eq.trans (if_pos (by first | assumption | ((try simp only [rng, mayQ, tI_lt, tI_eq, cvr_0, mvr_0, cvr_c, mvr_c, ruleQ, tn_999, tl_200, tl_999, bitsQ, tl_16, tl_32, tl_40, tl_0, tl_1, tl_2, tl_3, tl_4, tl_5, tl_6, tl_7, tl_8, tl_9, tl_10, tl_11, tl_12, tl_13, tl_16, tl_32, tl_40, tl_99] at h1 h2 h3 h4 ⊢) <;> omega))) (Eq.trans (if_neg (by first | assumption | ((try simp only [rng, mayQ, tI_lt, tI_eq, cvr_0, mvr_0, cvr_c, mvr_c, ruleQ, tn_999, tl_200, tl_999, bitsQ, tl_16, tl_32, tl_40, tl_0, tl_1, tl_2, tl_3, tl_4, tl_5, tl_6, tl_7, tl_8, tl_9, tl_10, tl_11, tl_12, tl_13, tl_16, tl_32, tl_40, tl_99] at h1 h2 h3 h4 ⊢) <;> omega))) (Eq.trans (if_neg (by first | assumption | ((try simp only [rng, mayQ, tI_lt, tI_eq, cvr_0, mvr_0, cvr_c, mvr_c, ruleQ, tn_999, tl_200, tl_999, bitsQ, tl_16, tl_32, tl_40, tl_0, tl_1, tl_2, tl_3, tl_4, tl_5, tl_6, tl_7, tl_8, tl_9, tl_10, tl_11, tl_12, tl_13, tl_16, tl_32, tl_40, tl_99] at h1 h2 h3 h4 ⊢) <;> omega))) (congrArg (fun z => sheetS z bits size (mv σ)) (nI_clamp (by omega)))))) (by rw [mv_v20, mv_u19, mv_u18]) (by rw [cv_v20, cv_u19, cv_u18]) rfl) dX8_sheet_118
              | succ j ih =>
                intro k hk
                refine x_iload C 2 dX8_sheet_86 rfl ?_
                refine x_bipush C (v := 40) dX8_sheet_88 (by decide) ?_
                refine x_icmp_ge C (tgt := 112) dX8_sheet_90 (by decide) (fun h9 => absurd (nI_lt (a := k) (b := 40) (by omega) (by omega)) h9) (fun h9 => ?_)
                refine x_aload_n C 0 dX8_sheet_93 rfl rfl ?_
                refine x_get C (Nat.le_of_ble_eq_true rfl) xd_81 fl_X8_40 (q := (0, 92, 0)) (v := .ref (xad E (92))) rfl rfl dX8_sheet_94 ?_
                refine x_bipush C (v := 40) dX8_sheet_97 (by decide) ?_
                refine x_iload_n C 1 dX8_sheet_99 rfl rfl ?_
                refine x_imul C dX8_sheet_100 ?_
                refine WM.topi (y := nI (40 * q)) (pk_mul 40 q) ?_
                refine x_iload C 2 dX8_sheet_101 rfl ?_
                refine x_iadd C dX8_sheet_103 ?_
                refine WM.topi (y := nI (40 * q + k)) (nI_add (40 * q) k) ?_
                refine x_iconst C (v := 0) dX8_sheet_104 (by decide) ?_
                refine x_ast C (σ' := va_up (u2 (u2 σ 18 q bits) 19 q (szI bits size)) 20 (upd (clrN (σ 20) q k) (40 * q + k) (0))) (Nat.le_of_ble_eq_true rfl) xd_92 (by decide) (vp_in_nI (show 40 * q + k < 160 by omega) (by decide)) (by rw [(nI_clamp (show 40 * q + k < 2 ^ 31 by omega)), Nat.zero_add, Nat.one_mul]; exact (u2_bank _ _ _ _ _)) dX8_sheet_105 ?_
                refine x_iinc C (v := nI (k + 1)) (lv1 := [(4, .int (nI (k + 1))), (0, .ref (xad E (81))), (1, .int (nI q))]) 2 dX8_sheet_106 rfl (nI_add k 1) (by decide) rfl ?_
                refine x_goto2 C (tgt := 86) dX8_sheet_109 (by decide) ?_
                refine WM.keep [1, 2, 0] (lv' := [(0, .ref (xad E (81))), (1, .int (nI q)), (4, .int (nI (k + 1)))]) rfl ?_
                exact WM.to (ih (k + 1) (by omega)) (congrArg (va_up _ _) (clr_s _ _ _)) rfl rfl rfl
            refine WM.keep [1, 2, 0] rfl ?_
            exact WM.to (loop (40) 0 (by omega)) (Eq.trans (xself _ _).symm (congrArg (va_up _ _) (clr_0 _ _).symm)) rfl rfl rfl
        · refine x_aload_n C 0 dX8_sheet_54 rfl rfl ?_
          refine x_ldc C dX8_sheet_55 kc_X8_46 ?_
          refine x_callVi C (As := [.int ((-1000001))]) (rest := []) (c_finds l E σ τ 0 (by decide) (-1000001) (by decide)) kv_X8_61 (x_recv C (Nat.le_of_ble_eq_true rfl) xd_81 rfl) ⟨Nat.le_of_ble_eq_true rfl, Nat.le_of_ble_eq_true rfl⟩ rfl rfl (Nat.le_of_ble_eq_true rfl) dX8_sheet_57 ?_
          exact x_oret C (mpost_of (V := u2 (mv σ) 2 0 (σ 14 0 + 1)) (Eq.trans (if_pos (by first | assumption | ((try simp only [rng, mayQ, tI_lt, tI_eq, cvr_0, mvr_0, cvr_c, mvr_c, ruleQ, tn_999, tl_200, tl_999, bitsQ, tl_16, tl_32, tl_40, tl_0, tl_1, tl_2, tl_3, tl_4, tl_5, tl_6, tl_7, tl_8, tl_9, tl_10, tl_11, tl_12, tl_13, tl_16, tl_32, tl_40, tl_99] at h1 h2 h3 h4 ⊢) <;> omega))) (Eq.trans (if_neg (by first | assumption | ((try simp only [rng, mayQ, tI_lt, tI_eq, cvr_0, mvr_0, cvr_c, mvr_c, ruleQ, tn_999, tl_200, tl_999, bitsQ, tl_16, tl_32, tl_40, tl_0, tl_1, tl_2, tl_3, tl_4, tl_5, tl_6, tl_7, tl_8, tl_9, tl_10, tl_11, tl_12, tl_13, tl_16, tl_32, tl_40, tl_99] at h1 h2 h3 h4 ⊢) <;> omega))) (if_pos (by first | assumption | ((try simp only [rng, mayQ, tI_lt, tI_eq, cvr_0, mvr_0, cvr_c, mvr_c, ruleQ, tn_999, tl_200, tl_999, bitsQ, tl_16, tl_32, tl_40, tl_0, tl_1, tl_2, tl_3, tl_4, tl_5, tl_6, tl_7, tl_8, tl_9, tl_10, tl_11, tl_12, tl_13, tl_16, tl_32, tl_40, tl_99] at h1 h2 h3 h4 ⊢) <;> omega))))) (by rw [mv_u14]) (by rw [cv_u14]) rfl) dX8_sheet_60
      · refine x_aload_n C 0 dX8_sheet_40 rfl rfl ?_
        refine x_ldcw C dX8_sheet_41 kc_X8_287 ?_
        refine x_callVi C (As := [.int ((-1000007))]) (rest := []) (c_finds l E σ τ 6 (by decide) (-1000007) (by decide)) kv_X8_61 (x_recv C (Nat.le_of_ble_eq_true rfl) xd_81 rfl) ⟨Nat.le_of_ble_eq_true rfl, Nat.le_of_ble_eq_true rfl⟩ rfl rfl (Nat.le_of_ble_eq_true rfl) dX8_sheet_44 ?_
        exact x_oret C (mpost_of (V := u2 (mv σ) 2 6 (σ 14 6 + 1)) (Eq.trans (if_pos (by first | assumption | ((try simp only [rng, mayQ, tI_lt, tI_eq, cvr_0, mvr_0, cvr_c, mvr_c, ruleQ, tn_999, tl_200, tl_999, bitsQ, tl_16, tl_32, tl_40, tl_0, tl_1, tl_2, tl_3, tl_4, tl_5, tl_6, tl_7, tl_8, tl_9, tl_10, tl_11, tl_12, tl_13, tl_16, tl_32, tl_40, tl_99] at h1 h2 h3 ⊢) <;> omega))) (if_pos (by first | assumption | ((try simp only [rng, mayQ, tI_lt, tI_eq, cvr_0, mvr_0, cvr_c, mvr_c, ruleQ, tn_999, tl_200, tl_999, bitsQ, tl_16, tl_32, tl_40, tl_0, tl_1, tl_2, tl_3, tl_4, tl_5, tl_6, tl_7, tl_8, tl_9, tl_10, tl_11, tl_12, tl_13, tl_16, tl_32, tl_40, tl_99] at h1 h2 h3 ⊢) <;> omega)))) (by rw [mv_u14]) (by rw [cv_u14]) rfl) dX8_sheet_47
    · refine x_iload_n C 2 dX8_sheet_11 rfl rfl ?_
      refine x_bipush C (v := 8) dX8_sheet_12 (by decide) ?_
      refine x_icmp_eq C (tgt := 36) dX8_sheet_14 (by decide) (fun h10 => ?_) (fun h10 => ?_)
      · refine x_iload_n C 3 dX8_sheet_36 rfl rfl ?_
        refine x_if_ge C (tgt := 48) dX8_sheet_37 (by decide) (fun h11 => ?_) (fun h11 => ?_)
        · refine x_iload_n C 3 dX8_sheet_48 rfl rfl ?_
          refine x_bipush C (v := 40) dX8_sheet_49 (by decide) ?_
          refine x_icmp_le C (tgt := 61) dX8_sheet_51 (by decide) (fun h12 => ?_) (fun h12 => ?_)
          · obtain ⟨q, hqa, hqb, rfl⟩ := rngN (a := 0) (b := 3) h1 (by decide) (by decide) (by decide)
            refine x_aload_n C 0 dX8_sheet_61 rfl rfl ?_
            refine x_get C (Nat.le_of_ble_eq_true rfl) xd_81 fl_X8_34 (q := (0, 90, 0)) (v := .ref (xad E (90))) rfl rfl dX8_sheet_62 ?_
            refine x_iload_n C 1 dX8_sheet_65 rfl rfl ?_
            refine x_iload_n C 2 dX8_sheet_66 rfl rfl ?_
            refine x_ast C (σ' := u2 σ 18 q (bits)) (Nat.le_of_ble_eq_true rfl) xd_90 (by decide) (vp_in_nI (show q < 4 by omega) (by decide)) (by rw [(nI_clamp (show q < 2 ^ 31 by omega)), Nat.zero_add, Nat.one_mul]) dX8_sheet_67 ?_
            refine x_aload_n C 0 dX8_sheet_68 rfl rfl ?_
            refine x_get C (Nat.le_of_ble_eq_true rfl) xd_81 fl_X8_37 (q := (0, 91, 0)) (v := .ref (xad E (91))) rfl rfl dX8_sheet_69 ?_
            refine x_iload_n C 1 dX8_sheet_72 rfl rfl ?_
            refine x_iload_n C 2 dX8_sheet_73 rfl rfl ?_
            refine x_if_ne C (tgt := 81) dX8_sheet_74 (by decide) (fun h13 => ?_) (fun h13 => ?_)
            · refine x_iload_n C 3 dX8_sheet_81 rfl rfl ?_
              refine WM.topi (y := szI bits size) (if_neg h13).symm ?_
              refine x_ast C (σ' := u2 (u2 σ 18 q (bits)) 19 q (szI bits size)) (Nat.le_of_ble_eq_true rfl) xd_91 (by decide) (vp_in_nI (show q < 4 by omega) (by decide)) (by rw [(nI_clamp (show q < 2 ^ 31 by omega)), Nat.zero_add, Nat.one_mul]) dX8_sheet_82 ?_
              refine x_iconst C (v := 0) dX8_sheet_83 (by decide) ?_
              refine x_istore C (lv1 := [(4, .int (0)), (0, .ref (xad E (81))), (1, .int (nI q)), (2, .int (bits)), (3, .int (size))]) dX8_sheet_84 (by decide) rfl ?_
              have loop : ∀ (j k : Nat), j + k = 40 → WM zp l ze { frames := 2, cells := 0, slots := 0, locals := 45 } zs zm za zb zh zc 0 0 (MQ zb (va_Qi (fun r (u : xV × (Nat → Int64)) => (mpost (sp_sheet (nI q) bits size (mv σ)) σ) r u.1) (fun u t => xP E u.1 u.2 t.heap) (xA E)) za zs 0 0 (xA E)) E (xA E) 5 (va_up (u2 (u2 σ 18 q bits) 19 q (szI bits size)) 20 (clrN (σ 20) q k)) (τ) 86 [(0, .ref (xad E (81))), (1, .int (nI q)), (4, .int (nI k))] [] := by
                intro j
                induction j with
                | zero =>
                  intro k hk
                  refine x_iload C 2 dX8_sheet_86 rfl ?_
                  refine x_bipush C (v := 40) dX8_sheet_88 (by decide) ?_
                  refine x_icmp_ge C (tgt := 112) dX8_sheet_90 (by decide) (fun h14 => ?_) (fun h14 => absurd h14 (nI_nlt (a := k) (b := 40) (by omega) (by omega)))
                  obtain rfl : k = 40 := by omega
                  refine x_aload_n C 0 dX8_sheet_112 rfl rfl ?_
                  refine x_get C (Nat.le_of_ble_eq_true rfl) xd_81 fl_X8_37 (q := (0, 91, 0)) (v := .ref (xad E (91))) rfl rfl dX8_sheet_113 ?_
                  refine x_iload_n C 1 dX8_sheet_116 rfl rfl ?_
                  refine x_ald C (Nat.le_of_ble_eq_true rfl) xd_91 (v := szI bits size) (vp_in_nI (show q < 4 by omega) (by decide)) (by rw [(nI_clamp (show q < 2 ^ 31 by omega)), Nat.zero_add, Nat.one_mul]; exact (Eq.trans (congrFun (va_up_ne _ (j := 19) (k := 20) _ (by decide)) _) (u2_at _ _ _ _))) dX8_sheet_117 ?_
                  exact x_oret C (mpost_of (V := va_up (u2 (u2 (mv σ) 5 q bits) 6 q (szI bits size)) 7 (clrN (σ 20) q 40)) (Eq.trans (if_pos (by first | assumption | ((try simp only [rng, mayQ, tI_lt, tI_eq, cvr_0, mvr_0, cvr_c, mvr_c, ruleQ, tn_999, tl_200, tl_999, bitsQ, tl_16, tl_32, tl_40, tl_0, tl_1, tl_2, tl_3, tl_4, tl_5, tl_6, tl_7, tl_8, tl_9, tl_10, tl_11, tl_12, tl_13, tl_16, tl_32, tl_40, tl_99] at h1 h2 h10 h11 h12 ⊢) <;> omega))) (Eq.trans (if_neg (by first | assumption | ((try simp only [rng, mayQ, tI_lt, tI_eq, cvr_0, mvr_0, cvr_c, mvr_c, ruleQ, tn_999, tl_200, tl_999, bitsQ, tl_16, tl_32, tl_40, tl_0, tl_1, tl_2, tl_3, tl_4, tl_5, tl_6, tl_7, tl_8, tl_9, tl_10, tl_11, tl_12, tl_13, tl_16, tl_32, tl_40, tl_99] at h1 h2 h10 h11 h12 ⊢) <;> omega))) (Eq.trans (if_neg (by first | assumption | ((try simp only [rng, mayQ, tI_lt, tI_eq, cvr_0, mvr_0, cvr_c, mvr_c, ruleQ, tn_999, tl_200, tl_999, bitsQ, tl_16, tl_32, tl_40, tl_0, tl_1, tl_2, tl_3, tl_4, tl_5, tl_6, tl_7, tl_8, tl_9, tl_10, tl_11, tl_12, tl_13, tl_16, tl_32, tl_40, tl_99] at h1 h2 h10 h11 h12 ⊢) <;> omega))) (congrArg (fun z => sheetS z bits size (mv σ)) (nI_clamp (by omega)))))) (by rw [mv_v20, mv_u19, mv_u18]) (by rw [cv_v20, cv_u19, cv_u18]) rfl) dX8_sheet_118
                | succ j ih =>
                  intro k hk
                  refine x_iload C 2 dX8_sheet_86 rfl ?_
                  refine x_bipush C (v := 40) dX8_sheet_88 (by decide) ?_
                  refine x_icmp_ge C (tgt := 112) dX8_sheet_90 (by decide) (fun h15 => absurd (nI_lt (a := k) (b := 40) (by omega) (by omega)) h15) (fun h15 => ?_)
                  refine x_aload_n C 0 dX8_sheet_93 rfl rfl ?_
                  refine x_get C (Nat.le_of_ble_eq_true rfl) xd_81 fl_X8_40 (q := (0, 92, 0)) (v := .ref (xad E (92))) rfl rfl dX8_sheet_94 ?_
                  refine x_bipush C (v := 40) dX8_sheet_97 (by decide) ?_
                  refine x_iload_n C 1 dX8_sheet_99 rfl rfl ?_
                  refine x_imul C dX8_sheet_100 ?_
                  refine WM.topi (y := nI (40 * q)) (pk_mul 40 q) ?_
                  refine x_iload C 2 dX8_sheet_101 rfl ?_
                  refine x_iadd C dX8_sheet_103 ?_
                  refine WM.topi (y := nI (40 * q + k)) (nI_add (40 * q) k) ?_
                  refine x_iconst C (v := 0) dX8_sheet_104 (by decide) ?_
                  refine x_ast C (σ' := va_up (u2 (u2 σ 18 q bits) 19 q (szI bits size)) 20 (upd (clrN (σ 20) q k) (40 * q + k) (0))) (Nat.le_of_ble_eq_true rfl) xd_92 (by decide) (vp_in_nI (show 40 * q + k < 160 by omega) (by decide)) (by rw [(nI_clamp (show 40 * q + k < 2 ^ 31 by omega)), Nat.zero_add, Nat.one_mul]; exact (u2_bank _ _ _ _ _)) dX8_sheet_105 ?_
                  refine x_iinc C (v := nI (k + 1)) (lv1 := [(4, .int (nI (k + 1))), (0, .ref (xad E (81))), (1, .int (nI q))]) 2 dX8_sheet_106 rfl (nI_add k 1) (by decide) rfl ?_
                  refine x_goto2 C (tgt := 86) dX8_sheet_109 (by decide) ?_
                  refine WM.keep [1, 2, 0] (lv' := [(0, .ref (xad E (81))), (1, .int (nI q)), (4, .int (nI (k + 1)))]) rfl ?_
                  exact WM.to (ih (k + 1) (by omega)) (congrArg (va_up _ _) (clr_s _ _ _)) rfl rfl rfl
              refine WM.keep [1, 2, 0] rfl ?_
              exact WM.to (loop (40) 0 (by omega)) (Eq.trans (xself _ _).symm (congrArg (va_up _ _) (clr_0 _ _).symm)) rfl rfl rfl
            · refine x_iconst C (v := 0) dX8_sheet_77 (by decide) ?_
              refine x_goto2 C (tgt := 82) dX8_sheet_78 (by decide) ?_
              refine WM.topi (y := szI bits size) (if_pos h13).symm ?_
              refine x_ast C (σ' := u2 (u2 σ 18 q (bits)) 19 q (szI bits size)) (Nat.le_of_ble_eq_true rfl) xd_91 (by decide) (vp_in_nI (show q < 4 by omega) (by decide)) (by rw [(nI_clamp (show q < 2 ^ 31 by omega)), Nat.zero_add, Nat.one_mul]) dX8_sheet_82 ?_
              refine x_iconst C (v := 0) dX8_sheet_83 (by decide) ?_
              refine x_istore C (lv1 := [(4, .int (0)), (0, .ref (xad E (81))), (1, .int (nI q)), (2, .int (bits)), (3, .int (size))]) dX8_sheet_84 (by decide) rfl ?_
              have loop : ∀ (j k : Nat), j + k = 40 → WM zp l ze { frames := 2, cells := 0, slots := 0, locals := 45 } zs zm za zb zh zc 0 0 (MQ zb (va_Qi (fun r (u : xV × (Nat → Int64)) => (mpost (sp_sheet (nI q) bits size (mv σ)) σ) r u.1) (fun u t => xP E u.1 u.2 t.heap) (xA E)) za zs 0 0 (xA E)) E (xA E) 5 (va_up (u2 (u2 σ 18 q bits) 19 q (szI bits size)) 20 (clrN (σ 20) q k)) (τ) 86 [(0, .ref (xad E (81))), (1, .int (nI q)), (4, .int (nI k))] [] := by
                intro j
                induction j with
                | zero =>
                  intro k hk
                  refine x_iload C 2 dX8_sheet_86 rfl ?_
                  refine x_bipush C (v := 40) dX8_sheet_88 (by decide) ?_
                  refine x_icmp_ge C (tgt := 112) dX8_sheet_90 (by decide) (fun h16 => ?_) (fun h16 => absurd h16 (nI_nlt (a := k) (b := 40) (by omega) (by omega)))
                  obtain rfl : k = 40 := by omega
                  refine x_aload_n C 0 dX8_sheet_112 rfl rfl ?_
                  refine x_get C (Nat.le_of_ble_eq_true rfl) xd_81 fl_X8_37 (q := (0, 91, 0)) (v := .ref (xad E (91))) rfl rfl dX8_sheet_113 ?_
                  refine x_iload_n C 1 dX8_sheet_116 rfl rfl ?_
                  refine x_ald C (Nat.le_of_ble_eq_true rfl) xd_91 (v := szI bits size) (vp_in_nI (show q < 4 by omega) (by decide)) (by rw [(nI_clamp (show q < 2 ^ 31 by omega)), Nat.zero_add, Nat.one_mul]; exact (Eq.trans (congrFun (va_up_ne _ (j := 19) (k := 20) _ (by decide)) _) (u2_at _ _ _ _))) dX8_sheet_117 ?_
                  exact x_oret C (mpost_of (V := va_up (u2 (u2 (mv σ) 5 q bits) 6 q (szI bits size)) 7 (clrN (σ 20) q 40)) (Eq.trans (if_pos (by first | assumption | ((try simp only [rng, mayQ, tI_lt, tI_eq, cvr_0, mvr_0, cvr_c, mvr_c, ruleQ, tn_999, tl_200, tl_999, bitsQ, tl_16, tl_32, tl_40, tl_0, tl_1, tl_2, tl_3, tl_4, tl_5, tl_6, tl_7, tl_8, tl_9, tl_10, tl_11, tl_12, tl_13, tl_16, tl_32, tl_40, tl_99] at h1 h2 h10 h11 h12 ⊢) <;> omega))) (Eq.trans (if_neg (by first | assumption | ((try simp only [rng, mayQ, tI_lt, tI_eq, cvr_0, mvr_0, cvr_c, mvr_c, ruleQ, tn_999, tl_200, tl_999, bitsQ, tl_16, tl_32, tl_40, tl_0, tl_1, tl_2, tl_3, tl_4, tl_5, tl_6, tl_7, tl_8, tl_9, tl_10, tl_11, tl_12, tl_13, tl_16, tl_32, tl_40, tl_99] at h1 h2 h10 h11 h12 ⊢) <;> omega))) (Eq.trans (if_neg (by first | assumption | ((try simp only [rng, mayQ, tI_lt, tI_eq, cvr_0, mvr_0, cvr_c, mvr_c, ruleQ, tn_999, tl_200, tl_999, bitsQ, tl_16, tl_32, tl_40, tl_0, tl_1, tl_2, tl_3, tl_4, tl_5, tl_6, tl_7, tl_8, tl_9, tl_10, tl_11, tl_12, tl_13, tl_16, tl_32, tl_40, tl_99] at h1 h2 h10 h11 h12 ⊢) <;> omega))) (congrArg (fun z => sheetS z bits size (mv σ)) (nI_clamp (by omega)))))) (by rw [mv_v20, mv_u19, mv_u18]) (by rw [cv_v20, cv_u19, cv_u18]) rfl) dX8_sheet_118
                | succ j ih =>
                  intro k hk
                  refine x_iload C 2 dX8_sheet_86 rfl ?_
                  refine x_bipush C (v := 40) dX8_sheet_88 (by decide) ?_
                  refine x_icmp_ge C (tgt := 112) dX8_sheet_90 (by decide) (fun h17 => absurd (nI_lt (a := k) (b := 40) (by omega) (by omega)) h17) (fun h17 => ?_)
                  refine x_aload_n C 0 dX8_sheet_93 rfl rfl ?_
                  refine x_get C (Nat.le_of_ble_eq_true rfl) xd_81 fl_X8_40 (q := (0, 92, 0)) (v := .ref (xad E (92))) rfl rfl dX8_sheet_94 ?_
                  refine x_bipush C (v := 40) dX8_sheet_97 (by decide) ?_
                  refine x_iload_n C 1 dX8_sheet_99 rfl rfl ?_
                  refine x_imul C dX8_sheet_100 ?_
                  refine WM.topi (y := nI (40 * q)) (pk_mul 40 q) ?_
                  refine x_iload C 2 dX8_sheet_101 rfl ?_
                  refine x_iadd C dX8_sheet_103 ?_
                  refine WM.topi (y := nI (40 * q + k)) (nI_add (40 * q) k) ?_
                  refine x_iconst C (v := 0) dX8_sheet_104 (by decide) ?_
                  refine x_ast C (σ' := va_up (u2 (u2 σ 18 q bits) 19 q (szI bits size)) 20 (upd (clrN (σ 20) q k) (40 * q + k) (0))) (Nat.le_of_ble_eq_true rfl) xd_92 (by decide) (vp_in_nI (show 40 * q + k < 160 by omega) (by decide)) (by rw [(nI_clamp (show 40 * q + k < 2 ^ 31 by omega)), Nat.zero_add, Nat.one_mul]; exact (u2_bank _ _ _ _ _)) dX8_sheet_105 ?_
                  refine x_iinc C (v := nI (k + 1)) (lv1 := [(4, .int (nI (k + 1))), (0, .ref (xad E (81))), (1, .int (nI q))]) 2 dX8_sheet_106 rfl (nI_add k 1) (by decide) rfl ?_
                  refine x_goto2 C (tgt := 86) dX8_sheet_109 (by decide) ?_
                  refine WM.keep [1, 2, 0] (lv' := [(0, .ref (xad E (81))), (1, .int (nI q)), (4, .int (nI (k + 1)))]) rfl ?_
                  exact WM.to (ih (k + 1) (by omega)) (congrArg (va_up _ _) (clr_s _ _ _)) rfl rfl rfl
              refine WM.keep [1, 2, 0] rfl ?_
              exact WM.to (loop (40) 0 (by omega)) (Eq.trans (xself _ _).symm (congrArg (va_up _ _) (clr_0 _ _).symm)) rfl rfl rfl
          · refine x_aload_n C 0 dX8_sheet_54 rfl rfl ?_
            refine x_ldc C dX8_sheet_55 kc_X8_46 ?_
            refine x_callVi C (As := [.int ((-1000001))]) (rest := []) (c_finds l E σ τ 0 (by decide) (-1000001) (by decide)) kv_X8_61 (x_recv C (Nat.le_of_ble_eq_true rfl) xd_81 rfl) ⟨Nat.le_of_ble_eq_true rfl, Nat.le_of_ble_eq_true rfl⟩ rfl rfl (Nat.le_of_ble_eq_true rfl) dX8_sheet_57 ?_
            exact x_oret C (mpost_of (V := u2 (mv σ) 2 0 (σ 14 0 + 1)) (Eq.trans (if_pos (by first | assumption | ((try simp only [rng, mayQ, tI_lt, tI_eq, cvr_0, mvr_0, cvr_c, mvr_c, ruleQ, tn_999, tl_200, tl_999, bitsQ, tl_16, tl_32, tl_40, tl_0, tl_1, tl_2, tl_3, tl_4, tl_5, tl_6, tl_7, tl_8, tl_9, tl_10, tl_11, tl_12, tl_13, tl_16, tl_32, tl_40, tl_99] at h1 h2 h10 h11 h12 ⊢) <;> omega))) (Eq.trans (if_neg (by first | assumption | ((try simp only [rng, mayQ, tI_lt, tI_eq, cvr_0, mvr_0, cvr_c, mvr_c, ruleQ, tn_999, tl_200, tl_999, bitsQ, tl_16, tl_32, tl_40, tl_0, tl_1, tl_2, tl_3, tl_4, tl_5, tl_6, tl_7, tl_8, tl_9, tl_10, tl_11, tl_12, tl_13, tl_16, tl_32, tl_40, tl_99] at h1 h2 h10 h11 h12 ⊢) <;> omega))) (if_pos (by first | assumption | ((try simp only [rng, mayQ, tI_lt, tI_eq, cvr_0, mvr_0, cvr_c, mvr_c, ruleQ, tn_999, tl_200, tl_999, bitsQ, tl_16, tl_32, tl_40, tl_0, tl_1, tl_2, tl_3, tl_4, tl_5, tl_6, tl_7, tl_8, tl_9, tl_10, tl_11, tl_12, tl_13, tl_16, tl_32, tl_40, tl_99] at h1 h2 h10 h11 h12 ⊢) <;> omega))))) (by rw [mv_u14]) (by rw [cv_u14]) rfl) dX8_sheet_60
        · refine x_aload_n C 0 dX8_sheet_40 rfl rfl ?_
          refine x_ldcw C dX8_sheet_41 kc_X8_287 ?_
          refine x_callVi C (As := [.int ((-1000007))]) (rest := []) (c_finds l E σ τ 6 (by decide) (-1000007) (by decide)) kv_X8_61 (x_recv C (Nat.le_of_ble_eq_true rfl) xd_81 rfl) ⟨Nat.le_of_ble_eq_true rfl, Nat.le_of_ble_eq_true rfl⟩ rfl rfl (Nat.le_of_ble_eq_true rfl) dX8_sheet_44 ?_
          exact x_oret C (mpost_of (V := u2 (mv σ) 2 6 (σ 14 6 + 1)) (Eq.trans (if_pos (by first | assumption | ((try simp only [rng, mayQ, tI_lt, tI_eq, cvr_0, mvr_0, cvr_c, mvr_c, ruleQ, tn_999, tl_200, tl_999, bitsQ, tl_16, tl_32, tl_40, tl_0, tl_1, tl_2, tl_3, tl_4, tl_5, tl_6, tl_7, tl_8, tl_9, tl_10, tl_11, tl_12, tl_13, tl_16, tl_32, tl_40, tl_99] at h1 h2 h10 h11 ⊢) <;> omega))) (if_pos (by first | assumption | ((try simp only [rng, mayQ, tI_lt, tI_eq, cvr_0, mvr_0, cvr_c, mvr_c, ruleQ, tn_999, tl_200, tl_999, bitsQ, tl_16, tl_32, tl_40, tl_0, tl_1, tl_2, tl_3, tl_4, tl_5, tl_6, tl_7, tl_8, tl_9, tl_10, tl_11, tl_12, tl_13, tl_16, tl_32, tl_40, tl_99] at h1 h2 h10 h11 ⊢) <;> omega)))) (by rw [mv_u14]) (by rw [cv_u14]) rfl) dX8_sheet_47
      · refine x_iload_n C 2 dX8_sheet_17 rfl rfl ?_
        refine x_bipush C (v := 16) dX8_sheet_18 (by decide) ?_
        refine x_icmp_eq C (tgt := 36) dX8_sheet_20 (by decide) (fun h18 => ?_) (fun h18 => ?_)
        · refine x_iload_n C 3 dX8_sheet_36 rfl rfl ?_
          refine x_if_ge C (tgt := 48) dX8_sheet_37 (by decide) (fun h19 => ?_) (fun h19 => ?_)
          · refine x_iload_n C 3 dX8_sheet_48 rfl rfl ?_
            refine x_bipush C (v := 40) dX8_sheet_49 (by decide) ?_
            refine x_icmp_le C (tgt := 61) dX8_sheet_51 (by decide) (fun h20 => ?_) (fun h20 => ?_)
            · obtain ⟨q, hqa, hqb, rfl⟩ := rngN (a := 0) (b := 3) h1 (by decide) (by decide) (by decide)
              refine x_aload_n C 0 dX8_sheet_61 rfl rfl ?_
              refine x_get C (Nat.le_of_ble_eq_true rfl) xd_81 fl_X8_34 (q := (0, 90, 0)) (v := .ref (xad E (90))) rfl rfl dX8_sheet_62 ?_
              refine x_iload_n C 1 dX8_sheet_65 rfl rfl ?_
              refine x_iload_n C 2 dX8_sheet_66 rfl rfl ?_
              refine x_ast C (σ' := u2 σ 18 q (bits)) (Nat.le_of_ble_eq_true rfl) xd_90 (by decide) (vp_in_nI (show q < 4 by omega) (by decide)) (by rw [(nI_clamp (show q < 2 ^ 31 by omega)), Nat.zero_add, Nat.one_mul]) dX8_sheet_67 ?_
              refine x_aload_n C 0 dX8_sheet_68 rfl rfl ?_
              refine x_get C (Nat.le_of_ble_eq_true rfl) xd_81 fl_X8_37 (q := (0, 91, 0)) (v := .ref (xad E (91))) rfl rfl dX8_sheet_69 ?_
              refine x_iload_n C 1 dX8_sheet_72 rfl rfl ?_
              refine x_iload_n C 2 dX8_sheet_73 rfl rfl ?_
              refine x_if_ne C (tgt := 81) dX8_sheet_74 (by decide) (fun h21 => ?_) (fun h21 => ?_)
              · refine x_iload_n C 3 dX8_sheet_81 rfl rfl ?_
                refine WM.topi (y := szI bits size) (if_neg h21).symm ?_
                refine x_ast C (σ' := u2 (u2 σ 18 q (bits)) 19 q (szI bits size)) (Nat.le_of_ble_eq_true rfl) xd_91 (by decide) (vp_in_nI (show q < 4 by omega) (by decide)) (by rw [(nI_clamp (show q < 2 ^ 31 by omega)), Nat.zero_add, Nat.one_mul]) dX8_sheet_82 ?_
                refine x_iconst C (v := 0) dX8_sheet_83 (by decide) ?_
                refine x_istore C (lv1 := [(4, .int (0)), (0, .ref (xad E (81))), (1, .int (nI q)), (2, .int (bits)), (3, .int (size))]) dX8_sheet_84 (by decide) rfl ?_
                have loop : ∀ (j k : Nat), j + k = 40 → WM zp l ze { frames := 2, cells := 0, slots := 0, locals := 45 } zs zm za zb zh zc 0 0 (MQ zb (va_Qi (fun r (u : xV × (Nat → Int64)) => (mpost (sp_sheet (nI q) bits size (mv σ)) σ) r u.1) (fun u t => xP E u.1 u.2 t.heap) (xA E)) za zs 0 0 (xA E)) E (xA E) 5 (va_up (u2 (u2 σ 18 q bits) 19 q (szI bits size)) 20 (clrN (σ 20) q k)) (τ) 86 [(0, .ref (xad E (81))), (1, .int (nI q)), (4, .int (nI k))] [] := by
                  intro j
                  induction j with
                  | zero =>
                    intro k hk
                    refine x_iload C 2 dX8_sheet_86 rfl ?_
                    refine x_bipush C (v := 40) dX8_sheet_88 (by decide) ?_
                    refine x_icmp_ge C (tgt := 112) dX8_sheet_90 (by decide) (fun h22 => ?_) (fun h22 => absurd h22 (nI_nlt (a := k) (b := 40) (by omega) (by omega)))
                    obtain rfl : k = 40 := by omega
                    refine x_aload_n C 0 dX8_sheet_112 rfl rfl ?_
                    refine x_get C (Nat.le_of_ble_eq_true rfl) xd_81 fl_X8_37 (q := (0, 91, 0)) (v := .ref (xad E (91))) rfl rfl dX8_sheet_113 ?_
                    refine x_iload_n C 1 dX8_sheet_116 rfl rfl ?_
                    refine x_ald C (Nat.le_of_ble_eq_true rfl) xd_91 (v := szI bits size) (vp_in_nI (show q < 4 by omega) (by decide)) (by rw [(nI_clamp (show q < 2 ^ 31 by omega)), Nat.zero_add, Nat.one_mul]; exact (Eq.trans (congrFun (va_up_ne _ (j := 19) (k := 20) _ (by decide)) _) (u2_at _ _ _ _))) dX8_sheet_117 ?_
                    exact x_oret C (mpost_of (V := va_up (u2 (u2 (mv σ) 5 q bits) 6 q (szI bits size)) 7 (clrN (σ 20) q 40)) (Eq.trans (if_pos (by first | assumption | ((try simp only [rng, mayQ, tI_lt, tI_eq, cvr_0, mvr_0, cvr_c, mvr_c, ruleQ, tn_999, tl_200, tl_999, bitsQ, tl_16, tl_32, tl_40, tl_0, tl_1, tl_2, tl_3, tl_4, tl_5, tl_6, tl_7, tl_8, tl_9, tl_10, tl_11, tl_12, tl_13, tl_16, tl_32, tl_40, tl_99] at h1 h2 h10 h18 h19 h20 ⊢) <;> omega))) (Eq.trans (if_neg (by first | assumption | ((try simp only [rng, mayQ, tI_lt, tI_eq, cvr_0, mvr_0, cvr_c, mvr_c, ruleQ, tn_999, tl_200, tl_999, bitsQ, tl_16, tl_32, tl_40, tl_0, tl_1, tl_2, tl_3, tl_4, tl_5, tl_6, tl_7, tl_8, tl_9, tl_10, tl_11, tl_12, tl_13, tl_16, tl_32, tl_40, tl_99] at h1 h2 h10 h18 h19 h20 ⊢) <;> omega))) (Eq.trans (if_neg (by first | assumption | ((try simp only [rng, mayQ, tI_lt, tI_eq, cvr_0, mvr_0, cvr_c, mvr_c, ruleQ, tn_999, tl_200, tl_999, bitsQ, tl_16, tl_32, tl_40, tl_0, tl_1, tl_2, tl_3, tl_4, tl_5, tl_6, tl_7, tl_8, tl_9, tl_10, tl_11, tl_12, tl_13, tl_16, tl_32, tl_40, tl_99] at h1 h2 h10 h18 h19 h20 ⊢) <;> omega))) (congrArg (fun z => sheetS z bits size (mv σ)) (nI_clamp (by omega)))))) (by rw [mv_v20, mv_u19, mv_u18]) (by rw [cv_v20, cv_u19, cv_u18]) rfl) dX8_sheet_118
                  | succ j ih =>
                    intro k hk
                    refine x_iload C 2 dX8_sheet_86 rfl ?_
                    refine x_bipush C (v := 40) dX8_sheet_88 (by decide) ?_
                    refine x_icmp_ge C (tgt := 112) dX8_sheet_90 (by decide) (fun h23 => absurd (nI_lt (a := k) (b := 40) (by omega) (by omega)) h23) (fun h23 => ?_)
                    refine x_aload_n C 0 dX8_sheet_93 rfl rfl ?_
                    refine x_get C (Nat.le_of_ble_eq_true rfl) xd_81 fl_X8_40 (q := (0, 92, 0)) (v := .ref (xad E (92))) rfl rfl dX8_sheet_94 ?_
                    refine x_bipush C (v := 40) dX8_sheet_97 (by decide) ?_
                    refine x_iload_n C 1 dX8_sheet_99 rfl rfl ?_
                    refine x_imul C dX8_sheet_100 ?_
                    refine WM.topi (y := nI (40 * q)) (pk_mul 40 q) ?_
                    refine x_iload C 2 dX8_sheet_101 rfl ?_
                    refine x_iadd C dX8_sheet_103 ?_
                    refine WM.topi (y := nI (40 * q + k)) (nI_add (40 * q) k) ?_
                    refine x_iconst C (v := 0) dX8_sheet_104 (by decide) ?_
                    refine x_ast C (σ' := va_up (u2 (u2 σ 18 q bits) 19 q (szI bits size)) 20 (upd (clrN (σ 20) q k) (40 * q + k) (0))) (Nat.le_of_ble_eq_true rfl) xd_92 (by decide) (vp_in_nI (show 40 * q + k < 160 by omega) (by decide)) (by rw [(nI_clamp (show 40 * q + k < 2 ^ 31 by omega)), Nat.zero_add, Nat.one_mul]; exact (u2_bank _ _ _ _ _)) dX8_sheet_105 ?_
                    refine x_iinc C (v := nI (k + 1)) (lv1 := [(4, .int (nI (k + 1))), (0, .ref (xad E (81))), (1, .int (nI q))]) 2 dX8_sheet_106 rfl (nI_add k 1) (by decide) rfl ?_
                    refine x_goto2 C (tgt := 86) dX8_sheet_109 (by decide) ?_
                    refine WM.keep [1, 2, 0] (lv' := [(0, .ref (xad E (81))), (1, .int (nI q)), (4, .int (nI (k + 1)))]) rfl ?_
                    exact WM.to (ih (k + 1) (by omega)) (congrArg (va_up _ _) (clr_s _ _ _)) rfl rfl rfl
                refine WM.keep [1, 2, 0] rfl ?_
                exact WM.to (loop (40) 0 (by omega)) (Eq.trans (xself _ _).symm (congrArg (va_up _ _) (clr_0 _ _).symm)) rfl rfl rfl
              · refine x_iconst C (v := 0) dX8_sheet_77 (by decide) ?_
                refine x_goto2 C (tgt := 82) dX8_sheet_78 (by decide) ?_
                refine WM.topi (y := szI bits size) (if_pos h21).symm ?_
                refine x_ast C (σ' := u2 (u2 σ 18 q (bits)) 19 q (szI bits size)) (Nat.le_of_ble_eq_true rfl) xd_91 (by decide) (vp_in_nI (show q < 4 by omega) (by decide)) (by rw [(nI_clamp (show q < 2 ^ 31 by omega)), Nat.zero_add, Nat.one_mul]) dX8_sheet_82 ?_
                refine x_iconst C (v := 0) dX8_sheet_83 (by decide) ?_
                refine x_istore C (lv1 := [(4, .int (0)), (0, .ref (xad E (81))), (1, .int (nI q)), (2, .int (bits)), (3, .int (size))]) dX8_sheet_84 (by decide) rfl ?_
                have loop : ∀ (j k : Nat), j + k = 40 → WM zp l ze { frames := 2, cells := 0, slots := 0, locals := 45 } zs zm za zb zh zc 0 0 (MQ zb (va_Qi (fun r (u : xV × (Nat → Int64)) => (mpost (sp_sheet (nI q) bits size (mv σ)) σ) r u.1) (fun u t => xP E u.1 u.2 t.heap) (xA E)) za zs 0 0 (xA E)) E (xA E) 5 (va_up (u2 (u2 σ 18 q bits) 19 q (szI bits size)) 20 (clrN (σ 20) q k)) (τ) 86 [(0, .ref (xad E (81))), (1, .int (nI q)), (4, .int (nI k))] [] := by
                  intro j
                  induction j with
                  | zero =>
                    intro k hk
                    refine x_iload C 2 dX8_sheet_86 rfl ?_
                    refine x_bipush C (v := 40) dX8_sheet_88 (by decide) ?_
                    refine x_icmp_ge C (tgt := 112) dX8_sheet_90 (by decide) (fun h24 => ?_) (fun h24 => absurd h24 (nI_nlt (a := k) (b := 40) (by omega) (by omega)))
                    obtain rfl : k = 40 := by omega
                    refine x_aload_n C 0 dX8_sheet_112 rfl rfl ?_
                    refine x_get C (Nat.le_of_ble_eq_true rfl) xd_81 fl_X8_37 (q := (0, 91, 0)) (v := .ref (xad E (91))) rfl rfl dX8_sheet_113 ?_
                    refine x_iload_n C 1 dX8_sheet_116 rfl rfl ?_
                    refine x_ald C (Nat.le_of_ble_eq_true rfl) xd_91 (v := szI bits size) (vp_in_nI (show q < 4 by omega) (by decide)) (by rw [(nI_clamp (show q < 2 ^ 31 by omega)), Nat.zero_add, Nat.one_mul]; exact (Eq.trans (congrFun (va_up_ne _ (j := 19) (k := 20) _ (by decide)) _) (u2_at _ _ _ _))) dX8_sheet_117 ?_
                    exact x_oret C (mpost_of (V := va_up (u2 (u2 (mv σ) 5 q bits) 6 q (szI bits size)) 7 (clrN (σ 20) q 40)) (Eq.trans (if_pos (by first | assumption | ((try simp only [rng, mayQ, tI_lt, tI_eq, cvr_0, mvr_0, cvr_c, mvr_c, ruleQ, tn_999, tl_200, tl_999, bitsQ, tl_16, tl_32, tl_40, tl_0, tl_1, tl_2, tl_3, tl_4, tl_5, tl_6, tl_7, tl_8, tl_9, tl_10, tl_11, tl_12, tl_13, tl_16, tl_32, tl_40, tl_99] at h1 h2 h10 h18 h19 h20 ⊢) <;> omega))) (Eq.trans (if_neg (by first | assumption | ((try simp only [rng, mayQ, tI_lt, tI_eq, cvr_0, mvr_0, cvr_c, mvr_c, ruleQ, tn_999, tl_200, tl_999, bitsQ, tl_16, tl_32, tl_40, tl_0, tl_1, tl_2, tl_3, tl_4, tl_5, tl_6, tl_7, tl_8, tl_9, tl_10, tl_11, tl_12, tl_13, tl_16, tl_32, tl_40, tl_99] at h1 h2 h10 h18 h19 h20 ⊢) <;> omega))) (Eq.trans (if_neg (by first | assumption | ((try simp only [rng, mayQ, tI_lt, tI_eq, cvr_0, mvr_0, cvr_c, mvr_c, ruleQ, tn_999, tl_200, tl_999, bitsQ, tl_16, tl_32, tl_40, tl_0, tl_1, tl_2, tl_3, tl_4, tl_5, tl_6, tl_7, tl_8, tl_9, tl_10, tl_11, tl_12, tl_13, tl_16, tl_32, tl_40, tl_99] at h1 h2 h10 h18 h19 h20 ⊢) <;> omega))) (congrArg (fun z => sheetS z bits size (mv σ)) (nI_clamp (by omega)))))) (by rw [mv_v20, mv_u19, mv_u18]) (by rw [cv_v20, cv_u19, cv_u18]) rfl) dX8_sheet_118
                  | succ j ih =>
                    intro k hk
                    refine x_iload C 2 dX8_sheet_86 rfl ?_
                    refine x_bipush C (v := 40) dX8_sheet_88 (by decide) ?_
                    refine x_icmp_ge C (tgt := 112) dX8_sheet_90 (by decide) (fun h25 => absurd (nI_lt (a := k) (b := 40) (by omega) (by omega)) h25) (fun h25 => ?_)
                    refine x_aload_n C 0 dX8_sheet_93 rfl rfl ?_
                    refine x_get C (Nat.le_of_ble_eq_true rfl) xd_81 fl_X8_40 (q := (0, 92, 0)) (v := .ref (xad E (92))) rfl rfl dX8_sheet_94 ?_
                    refine x_bipush C (v := 40) dX8_sheet_97 (by decide) ?_
                    refine x_iload_n C 1 dX8_sheet_99 rfl rfl ?_
                    refine x_imul C dX8_sheet_100 ?_
                    refine WM.topi (y := nI (40 * q)) (pk_mul 40 q) ?_
                    refine x_iload C 2 dX8_sheet_101 rfl ?_
                    refine x_iadd C dX8_sheet_103 ?_
                    refine WM.topi (y := nI (40 * q + k)) (nI_add (40 * q) k) ?_
                    refine x_iconst C (v := 0) dX8_sheet_104 (by decide) ?_
                    refine x_ast C (σ' := va_up (u2 (u2 σ 18 q bits) 19 q (szI bits size)) 20 (upd (clrN (σ 20) q k) (40 * q + k) (0))) (Nat.le_of_ble_eq_true rfl) xd_92 (by decide) (vp_in_nI (show 40 * q + k < 160 by omega) (by decide)) (by rw [(nI_clamp (show 40 * q + k < 2 ^ 31 by omega)), Nat.zero_add, Nat.one_mul]; exact (u2_bank _ _ _ _ _)) dX8_sheet_105 ?_
                    refine x_iinc C (v := nI (k + 1)) (lv1 := [(4, .int (nI (k + 1))), (0, .ref (xad E (81))), (1, .int (nI q))]) 2 dX8_sheet_106 rfl (nI_add k 1) (by decide) rfl ?_
                    refine x_goto2 C (tgt := 86) dX8_sheet_109 (by decide) ?_
                    refine WM.keep [1, 2, 0] (lv' := [(0, .ref (xad E (81))), (1, .int (nI q)), (4, .int (nI (k + 1)))]) rfl ?_
                    exact WM.to (ih (k + 1) (by omega)) (congrArg (va_up _ _) (clr_s _ _ _)) rfl rfl rfl
                refine WM.keep [1, 2, 0] rfl ?_
                exact WM.to (loop (40) 0 (by omega)) (Eq.trans (xself _ _).symm (congrArg (va_up _ _) (clr_0 _ _).symm)) rfl rfl rfl
            · refine x_aload_n C 0 dX8_sheet_54 rfl rfl ?_
              refine x_ldc C dX8_sheet_55 kc_X8_46 ?_
              refine x_callVi C (As := [.int ((-1000001))]) (rest := []) (c_finds l E σ τ 0 (by decide) (-1000001) (by decide)) kv_X8_61 (x_recv C (Nat.le_of_ble_eq_true rfl) xd_81 rfl) ⟨Nat.le_of_ble_eq_true rfl, Nat.le_of_ble_eq_true rfl⟩ rfl rfl (Nat.le_of_ble_eq_true rfl) dX8_sheet_57 ?_
              exact x_oret C (mpost_of (V := u2 (mv σ) 2 0 (σ 14 0 + 1)) (Eq.trans (if_pos (by first | assumption | ((try simp only [rng, mayQ, tI_lt, tI_eq, cvr_0, mvr_0, cvr_c, mvr_c, ruleQ, tn_999, tl_200, tl_999, bitsQ, tl_16, tl_32, tl_40, tl_0, tl_1, tl_2, tl_3, tl_4, tl_5, tl_6, tl_7, tl_8, tl_9, tl_10, tl_11, tl_12, tl_13, tl_16, tl_32, tl_40, tl_99] at h1 h2 h10 h18 h19 h20 ⊢) <;> omega))) (Eq.trans (if_neg (by first | assumption | ((try simp only [rng, mayQ, tI_lt, tI_eq, cvr_0, mvr_0, cvr_c, mvr_c, ruleQ, tn_999, tl_200, tl_999, bitsQ, tl_16, tl_32, tl_40, tl_0, tl_1, tl_2, tl_3, tl_4, tl_5, tl_6, tl_7, tl_8, tl_9, tl_10, tl_11, tl_12, tl_13, tl_16, tl_32, tl_40, tl_99] at h1 h2 h10 h18 h19 h20 ⊢) <;> omega))) (if_pos (by first | assumption | ((try simp only [rng, mayQ, tI_lt, tI_eq, cvr_0, mvr_0, cvr_c, mvr_c, ruleQ, tn_999, tl_200, tl_999, bitsQ, tl_16, tl_32, tl_40, tl_0, tl_1, tl_2, tl_3, tl_4, tl_5, tl_6, tl_7, tl_8, tl_9, tl_10, tl_11, tl_12, tl_13, tl_16, tl_32, tl_40, tl_99] at h1 h2 h10 h18 h19 h20 ⊢) <;> omega))))) (by rw [mv_u14]) (by rw [cv_u14]) rfl) dX8_sheet_60
          · refine x_aload_n C 0 dX8_sheet_40 rfl rfl ?_
            refine x_ldcw C dX8_sheet_41 kc_X8_287 ?_
            refine x_callVi C (As := [.int ((-1000007))]) (rest := []) (c_finds l E σ τ 6 (by decide) (-1000007) (by decide)) kv_X8_61 (x_recv C (Nat.le_of_ble_eq_true rfl) xd_81 rfl) ⟨Nat.le_of_ble_eq_true rfl, Nat.le_of_ble_eq_true rfl⟩ rfl rfl (Nat.le_of_ble_eq_true rfl) dX8_sheet_44 ?_
            exact x_oret C (mpost_of (V := u2 (mv σ) 2 6 (σ 14 6 + 1)) (Eq.trans (if_pos (by first | assumption | ((try simp only [rng, mayQ, tI_lt, tI_eq, cvr_0, mvr_0, cvr_c, mvr_c, ruleQ, tn_999, tl_200, tl_999, bitsQ, tl_16, tl_32, tl_40, tl_0, tl_1, tl_2, tl_3, tl_4, tl_5, tl_6, tl_7, tl_8, tl_9, tl_10, tl_11, tl_12, tl_13, tl_16, tl_32, tl_40, tl_99] at h1 h2 h10 h18 h19 ⊢) <;> omega))) (if_pos (by first | assumption | ((try simp only [rng, mayQ, tI_lt, tI_eq, cvr_0, mvr_0, cvr_c, mvr_c, ruleQ, tn_999, tl_200, tl_999, bitsQ, tl_16, tl_32, tl_40, tl_0, tl_1, tl_2, tl_3, tl_4, tl_5, tl_6, tl_7, tl_8, tl_9, tl_10, tl_11, tl_12, tl_13, tl_16, tl_32, tl_40, tl_99] at h1 h2 h10 h18 h19 ⊢) <;> omega)))) (by rw [mv_u14]) (by rw [cv_u14]) rfl) dX8_sheet_47
        · refine x_iload_n C 2 dX8_sheet_23 rfl rfl ?_
          refine x_bipush C (v := 32) dX8_sheet_24 (by decide) ?_
          refine x_icmp_eq C (tgt := 36) dX8_sheet_26 (by decide) (fun h26 => ?_) (fun h26 => ?_)
          · refine x_iload_n C 3 dX8_sheet_36 rfl rfl ?_
            refine x_if_ge C (tgt := 48) dX8_sheet_37 (by decide) (fun h27 => ?_) (fun h27 => ?_)
            · refine x_iload_n C 3 dX8_sheet_48 rfl rfl ?_
              refine x_bipush C (v := 40) dX8_sheet_49 (by decide) ?_
              refine x_icmp_le C (tgt := 61) dX8_sheet_51 (by decide) (fun h28 => ?_) (fun h28 => ?_)
              · obtain ⟨q, hqa, hqb, rfl⟩ := rngN (a := 0) (b := 3) h1 (by decide) (by decide) (by decide)
                refine x_aload_n C 0 dX8_sheet_61 rfl rfl ?_
                refine x_get C (Nat.le_of_ble_eq_true rfl) xd_81 fl_X8_34 (q := (0, 90, 0)) (v := .ref (xad E (90))) rfl rfl dX8_sheet_62 ?_
                refine x_iload_n C 1 dX8_sheet_65 rfl rfl ?_
                refine x_iload_n C 2 dX8_sheet_66 rfl rfl ?_
                refine x_ast C (σ' := u2 σ 18 q (bits)) (Nat.le_of_ble_eq_true rfl) xd_90 (by decide) (vp_in_nI (show q < 4 by omega) (by decide)) (by rw [(nI_clamp (show q < 2 ^ 31 by omega)), Nat.zero_add, Nat.one_mul]) dX8_sheet_67 ?_
                refine x_aload_n C 0 dX8_sheet_68 rfl rfl ?_
                refine x_get C (Nat.le_of_ble_eq_true rfl) xd_81 fl_X8_37 (q := (0, 91, 0)) (v := .ref (xad E (91))) rfl rfl dX8_sheet_69 ?_
                refine x_iload_n C 1 dX8_sheet_72 rfl rfl ?_
                refine x_iload_n C 2 dX8_sheet_73 rfl rfl ?_
                refine x_if_ne C (tgt := 81) dX8_sheet_74 (by decide) (fun h29 => ?_) (fun h29 => ?_)
                · refine x_iload_n C 3 dX8_sheet_81 rfl rfl ?_
                  refine WM.topi (y := szI bits size) (if_neg h29).symm ?_
                  refine x_ast C (σ' := u2 (u2 σ 18 q (bits)) 19 q (szI bits size)) (Nat.le_of_ble_eq_true rfl) xd_91 (by decide) (vp_in_nI (show q < 4 by omega) (by decide)) (by rw [(nI_clamp (show q < 2 ^ 31 by omega)), Nat.zero_add, Nat.one_mul]) dX8_sheet_82 ?_
                  refine x_iconst C (v := 0) dX8_sheet_83 (by decide) ?_
                  refine x_istore C (lv1 := [(4, .int (0)), (0, .ref (xad E (81))), (1, .int (nI q)), (2, .int (bits)), (3, .int (size))]) dX8_sheet_84 (by decide) rfl ?_
                  have loop : ∀ (j k : Nat), j + k = 40 → WM zp l ze { frames := 2, cells := 0, slots := 0, locals := 45 } zs zm za zb zh zc 0 0 (MQ zb (va_Qi (fun r (u : xV × (Nat → Int64)) => (mpost (sp_sheet (nI q) bits size (mv σ)) σ) r u.1) (fun u t => xP E u.1 u.2 t.heap) (xA E)) za zs 0 0 (xA E)) E (xA E) 5 (va_up (u2 (u2 σ 18 q bits) 19 q (szI bits size)) 20 (clrN (σ 20) q k)) (τ) 86 [(0, .ref (xad E (81))), (1, .int (nI q)), (4, .int (nI k))] [] := by
                    intro j
                    induction j with
                    | zero =>
                      intro k hk
                      refine x_iload C 2 dX8_sheet_86 rfl ?_
                      refine x_bipush C (v := 40) dX8_sheet_88 (by decide) ?_
                      refine x_icmp_ge C (tgt := 112) dX8_sheet_90 (by decide) (fun h30 => ?_) (fun h30 => absurd h30 (nI_nlt (a := k) (b := 40) (by omega) (by omega)))
                      obtain rfl : k = 40 := by omega
                      refine x_aload_n C 0 dX8_sheet_112 rfl rfl ?_
                      refine x_get C (Nat.le_of_ble_eq_true rfl) xd_81 fl_X8_37 (q := (0, 91, 0)) (v := .ref (xad E (91))) rfl rfl dX8_sheet_113 ?_
                      refine x_iload_n C 1 dX8_sheet_116 rfl rfl ?_
                      refine x_ald C (Nat.le_of_ble_eq_true rfl) xd_91 (v := szI bits size) (vp_in_nI (show q < 4 by omega) (by decide)) (by rw [(nI_clamp (show q < 2 ^ 31 by omega)), Nat.zero_add, Nat.one_mul]; exact (Eq.trans (congrFun (va_up_ne _ (j := 19) (k := 20) _ (by decide)) _) (u2_at _ _ _ _))) dX8_sheet_117 ?_
                      exact x_oret C (mpost_of (V := va_up (u2 (u2 (mv σ) 5 q bits) 6 q (szI bits size)) 7 (clrN (σ 20) q 40)) (Eq.trans (if_pos (by first | assumption | ((try simp only [rng, mayQ, tI_lt, tI_eq, cvr_0, mvr_0, cvr_c, mvr_c, ruleQ, tn_999, tl_200, tl_999, bitsQ, tl_16, tl_32, tl_40, tl_0, tl_1, tl_2, tl_3, tl_4, tl_5, tl_6, tl_7, tl_8, tl_9, tl_10, tl_11, tl_12, tl_13, tl_16, tl_32, tl_40, tl_99] at h1 h2 h10 h18 h26 h27 h28 ⊢) <;> omega))) (Eq.trans (if_neg (by first | assumption | ((try simp only [rng, mayQ, tI_lt, tI_eq, cvr_0, mvr_0, cvr_c, mvr_c, ruleQ, tn_999, tl_200, tl_999, bitsQ, tl_16, tl_32, tl_40, tl_0, tl_1, tl_2, tl_3, tl_4, tl_5, tl_6, tl_7, tl_8, tl_9, tl_10, tl_11, tl_12, tl_13, tl_16, tl_32, tl_40, tl_99] at h1 h2 h10 h18 h26 h27 h28 ⊢) <;> omega))) (Eq.trans (if_neg (by first | assumption | ((try simp only [rng, mayQ, tI_lt, tI_eq, cvr_0, mvr_0, cvr_c, mvr_c, ruleQ, tn_999, tl_200, tl_999, bitsQ, tl_16, tl_32, tl_40, tl_0, tl_1, tl_2, tl_3, tl_4, tl_5, tl_6, tl_7, tl_8, tl_9, tl_10, tl_11, tl_12, tl_13, tl_16, tl_32, tl_40, tl_99] at h1 h2 h10 h18 h26 h27 h28 ⊢) <;> omega))) (congrArg (fun z => sheetS z bits size (mv σ)) (nI_clamp (by omega)))))) (by rw [mv_v20, mv_u19, mv_u18]) (by rw [cv_v20, cv_u19, cv_u18]) rfl) dX8_sheet_118
                    | succ j ih =>
                      intro k hk
                      refine x_iload C 2 dX8_sheet_86 rfl ?_
                      refine x_bipush C (v := 40) dX8_sheet_88 (by decide) ?_
                      refine x_icmp_ge C (tgt := 112) dX8_sheet_90 (by decide) (fun h31 => absurd (nI_lt (a := k) (b := 40) (by omega) (by omega)) h31) (fun h31 => ?_)
                      refine x_aload_n C 0 dX8_sheet_93 rfl rfl ?_
                      refine x_get C (Nat.le_of_ble_eq_true rfl) xd_81 fl_X8_40 (q := (0, 92, 0)) (v := .ref (xad E (92))) rfl rfl dX8_sheet_94 ?_
                      refine x_bipush C (v := 40) dX8_sheet_97 (by decide) ?_
                      refine x_iload_n C 1 dX8_sheet_99 rfl rfl ?_
                      refine x_imul C dX8_sheet_100 ?_
                      refine WM.topi (y := nI (40 * q)) (pk_mul 40 q) ?_
                      refine x_iload C 2 dX8_sheet_101 rfl ?_
                      refine x_iadd C dX8_sheet_103 ?_
                      refine WM.topi (y := nI (40 * q + k)) (nI_add (40 * q) k) ?_
                      refine x_iconst C (v := 0) dX8_sheet_104 (by decide) ?_
                      refine x_ast C (σ' := va_up (u2 (u2 σ 18 q bits) 19 q (szI bits size)) 20 (upd (clrN (σ 20) q k) (40 * q + k) (0))) (Nat.le_of_ble_eq_true rfl) xd_92 (by decide) (vp_in_nI (show 40 * q + k < 160 by omega) (by decide)) (by rw [(nI_clamp (show 40 * q + k < 2 ^ 31 by omega)), Nat.zero_add, Nat.one_mul]; exact (u2_bank _ _ _ _ _)) dX8_sheet_105 ?_
                      refine x_iinc C (v := nI (k + 1)) (lv1 := [(4, .int (nI (k + 1))), (0, .ref (xad E (81))), (1, .int (nI q))]) 2 dX8_sheet_106 rfl (nI_add k 1) (by decide) rfl ?_
                      refine x_goto2 C (tgt := 86) dX8_sheet_109 (by decide) ?_
                      refine WM.keep [1, 2, 0] (lv' := [(0, .ref (xad E (81))), (1, .int (nI q)), (4, .int (nI (k + 1)))]) rfl ?_
                      exact WM.to (ih (k + 1) (by omega)) (congrArg (va_up _ _) (clr_s _ _ _)) rfl rfl rfl
                  refine WM.keep [1, 2, 0] rfl ?_
                  exact WM.to (loop (40) 0 (by omega)) (Eq.trans (xself _ _).symm (congrArg (va_up _ _) (clr_0 _ _).symm)) rfl rfl rfl
                · refine x_iconst C (v := 0) dX8_sheet_77 (by decide) ?_
                  refine x_goto2 C (tgt := 82) dX8_sheet_78 (by decide) ?_
                  refine WM.topi (y := szI bits size) (if_pos h29).symm ?_
                  refine x_ast C (σ' := u2 (u2 σ 18 q (bits)) 19 q (szI bits size)) (Nat.le_of_ble_eq_true rfl) xd_91 (by decide) (vp_in_nI (show q < 4 by omega) (by decide)) (by rw [(nI_clamp (show q < 2 ^ 31 by omega)), Nat.zero_add, Nat.one_mul]) dX8_sheet_82 ?_
                  refine x_iconst C (v := 0) dX8_sheet_83 (by decide) ?_
                  refine x_istore C (lv1 := [(4, .int (0)), (0, .ref (xad E (81))), (1, .int (nI q)), (2, .int (bits)), (3, .int (size))]) dX8_sheet_84 (by decide) rfl ?_
                  have loop : ∀ (j k : Nat), j + k = 40 → WM zp l ze { frames := 2, cells := 0, slots := 0, locals := 45 } zs zm za zb zh zc 0 0 (MQ zb (va_Qi (fun r (u : xV × (Nat → Int64)) => (mpost (sp_sheet (nI q) bits size (mv σ)) σ) r u.1) (fun u t => xP E u.1 u.2 t.heap) (xA E)) za zs 0 0 (xA E)) E (xA E) 5 (va_up (u2 (u2 σ 18 q bits) 19 q (szI bits size)) 20 (clrN (σ 20) q k)) (τ) 86 [(0, .ref (xad E (81))), (1, .int (nI q)), (4, .int (nI k))] [] := by
                    intro j
                    induction j with
                    | zero =>
                      intro k hk
                      refine x_iload C 2 dX8_sheet_86 rfl ?_
                      refine x_bipush C (v := 40) dX8_sheet_88 (by decide) ?_
                      refine x_icmp_ge C (tgt := 112) dX8_sheet_90 (by decide) (fun h32 => ?_) (fun h32 => absurd h32 (nI_nlt (a := k) (b := 40) (by omega) (by omega)))
                      obtain rfl : k = 40 := by omega
                      refine x_aload_n C 0 dX8_sheet_112 rfl rfl ?_
                      refine x_get C (Nat.le_of_ble_eq_true rfl) xd_81 fl_X8_37 (q := (0, 91, 0)) (v := .ref (xad E (91))) rfl rfl dX8_sheet_113 ?_
                      refine x_iload_n C 1 dX8_sheet_116 rfl rfl ?_
                      refine x_ald C (Nat.le_of_ble_eq_true rfl) xd_91 (v := szI bits size) (vp_in_nI (show q < 4 by omega) (by decide)) (by rw [(nI_clamp (show q < 2 ^ 31 by omega)), Nat.zero_add, Nat.one_mul]; exact (Eq.trans (congrFun (va_up_ne _ (j := 19) (k := 20) _ (by decide)) _) (u2_at _ _ _ _))) dX8_sheet_117 ?_
                      exact x_oret C (mpost_of (V := va_up (u2 (u2 (mv σ) 5 q bits) 6 q (szI bits size)) 7 (clrN (σ 20) q 40)) (Eq.trans (if_pos (by first | assumption | ((try simp only [rng, mayQ, tI_lt, tI_eq, cvr_0, mvr_0, cvr_c, mvr_c, ruleQ, tn_999, tl_200, tl_999, bitsQ, tl_16, tl_32, tl_40, tl_0, tl_1, tl_2, tl_3, tl_4, tl_5, tl_6, tl_7, tl_8, tl_9, tl_10, tl_11, tl_12, tl_13, tl_16, tl_32, tl_40, tl_99] at h1 h2 h10 h18 h26 h27 h28 ⊢) <;> omega))) (Eq.trans (if_neg (by first | assumption | ((try simp only [rng, mayQ, tI_lt, tI_eq, cvr_0, mvr_0, cvr_c, mvr_c, ruleQ, tn_999, tl_200, tl_999, bitsQ, tl_16, tl_32, tl_40, tl_0, tl_1, tl_2, tl_3, tl_4, tl_5, tl_6, tl_7, tl_8, tl_9, tl_10, tl_11, tl_12, tl_13, tl_16, tl_32, tl_40, tl_99] at h1 h2 h10 h18 h26 h27 h28 ⊢) <;> omega))) (Eq.trans (if_neg (by first | assumption | ((try simp only [rng, mayQ, tI_lt, tI_eq, cvr_0, mvr_0, cvr_c, mvr_c, ruleQ, tn_999, tl_200, tl_999, bitsQ, tl_16, tl_32, tl_40, tl_0, tl_1, tl_2, tl_3, tl_4, tl_5, tl_6, tl_7, tl_8, tl_9, tl_10, tl_11, tl_12, tl_13, tl_16, tl_32, tl_40, tl_99] at h1 h2 h10 h18 h26 h27 h28 ⊢) <;> omega))) (congrArg (fun z => sheetS z bits size (mv σ)) (nI_clamp (by omega)))))) (by rw [mv_v20, mv_u19, mv_u18]) (by rw [cv_v20, cv_u19, cv_u18]) rfl) dX8_sheet_118
                    | succ j ih =>
                      intro k hk
                      refine x_iload C 2 dX8_sheet_86 rfl ?_
                      refine x_bipush C (v := 40) dX8_sheet_88 (by decide) ?_
                      refine x_icmp_ge C (tgt := 112) dX8_sheet_90 (by decide) (fun h33 => absurd (nI_lt (a := k) (b := 40) (by omega) (by omega)) h33) (fun h33 => ?_)
                      refine x_aload_n C 0 dX8_sheet_93 rfl rfl ?_
                      refine x_get C (Nat.le_of_ble_eq_true rfl) xd_81 fl_X8_40 (q := (0, 92, 0)) (v := .ref (xad E (92))) rfl rfl dX8_sheet_94 ?_
                      refine x_bipush C (v := 40) dX8_sheet_97 (by decide) ?_
                      refine x_iload_n C 1 dX8_sheet_99 rfl rfl ?_
                      refine x_imul C dX8_sheet_100 ?_
                      refine WM.topi (y := nI (40 * q)) (pk_mul 40 q) ?_
                      refine x_iload C 2 dX8_sheet_101 rfl ?_
                      refine x_iadd C dX8_sheet_103 ?_
                      refine WM.topi (y := nI (40 * q + k)) (nI_add (40 * q) k) ?_
                      refine x_iconst C (v := 0) dX8_sheet_104 (by decide) ?_
                      refine x_ast C (σ' := va_up (u2 (u2 σ 18 q bits) 19 q (szI bits size)) 20 (upd (clrN (σ 20) q k) (40 * q + k) (0))) (Nat.le_of_ble_eq_true rfl) xd_92 (by decide) (vp_in_nI (show 40 * q + k < 160 by omega) (by decide)) (by rw [(nI_clamp (show 40 * q + k < 2 ^ 31 by omega)), Nat.zero_add, Nat.one_mul]; exact (u2_bank _ _ _ _ _)) dX8_sheet_105 ?_
                      refine x_iinc C (v := nI (k + 1)) (lv1 := [(4, .int (nI (k + 1))), (0, .ref (xad E (81))), (1, .int (nI q))]) 2 dX8_sheet_106 rfl (nI_add k 1) (by decide) rfl ?_
                      refine x_goto2 C (tgt := 86) dX8_sheet_109 (by decide) ?_
                      refine WM.keep [1, 2, 0] (lv' := [(0, .ref (xad E (81))), (1, .int (nI q)), (4, .int (nI (k + 1)))]) rfl ?_
                      exact WM.to (ih (k + 1) (by omega)) (congrArg (va_up _ _) (clr_s _ _ _)) rfl rfl rfl
                  refine WM.keep [1, 2, 0] rfl ?_
                  exact WM.to (loop (40) 0 (by omega)) (Eq.trans (xself _ _).symm (congrArg (va_up _ _) (clr_0 _ _).symm)) rfl rfl rfl
              · refine x_aload_n C 0 dX8_sheet_54 rfl rfl ?_
                refine x_ldc C dX8_sheet_55 kc_X8_46 ?_
                refine x_callVi C (As := [.int ((-1000001))]) (rest := []) (c_finds l E σ τ 0 (by decide) (-1000001) (by decide)) kv_X8_61 (x_recv C (Nat.le_of_ble_eq_true rfl) xd_81 rfl) ⟨Nat.le_of_ble_eq_true rfl, Nat.le_of_ble_eq_true rfl⟩ rfl rfl (Nat.le_of_ble_eq_true rfl) dX8_sheet_57 ?_
                exact x_oret C (mpost_of (V := u2 (mv σ) 2 0 (σ 14 0 + 1)) (Eq.trans (if_pos (by first | assumption | ((try simp only [rng, mayQ, tI_lt, tI_eq, cvr_0, mvr_0, cvr_c, mvr_c, ruleQ, tn_999, tl_200, tl_999, bitsQ, tl_16, tl_32, tl_40, tl_0, tl_1, tl_2, tl_3, tl_4, tl_5, tl_6, tl_7, tl_8, tl_9, tl_10, tl_11, tl_12, tl_13, tl_16, tl_32, tl_40, tl_99] at h1 h2 h10 h18 h26 h27 h28 ⊢) <;> omega))) (Eq.trans (if_neg (by first | assumption | ((try simp only [rng, mayQ, tI_lt, tI_eq, cvr_0, mvr_0, cvr_c, mvr_c, ruleQ, tn_999, tl_200, tl_999, bitsQ, tl_16, tl_32, tl_40, tl_0, tl_1, tl_2, tl_3, tl_4, tl_5, tl_6, tl_7, tl_8, tl_9, tl_10, tl_11, tl_12, tl_13, tl_16, tl_32, tl_40, tl_99] at h1 h2 h10 h18 h26 h27 h28 ⊢) <;> omega))) (if_pos (by first | assumption | ((try simp only [rng, mayQ, tI_lt, tI_eq, cvr_0, mvr_0, cvr_c, mvr_c, ruleQ, tn_999, tl_200, tl_999, bitsQ, tl_16, tl_32, tl_40, tl_0, tl_1, tl_2, tl_3, tl_4, tl_5, tl_6, tl_7, tl_8, tl_9, tl_10, tl_11, tl_12, tl_13, tl_16, tl_32, tl_40, tl_99] at h1 h2 h10 h18 h26 h27 h28 ⊢) <;> omega))))) (by rw [mv_u14]) (by rw [cv_u14]) rfl) dX8_sheet_60
            · refine x_aload_n C 0 dX8_sheet_40 rfl rfl ?_
              refine x_ldcw C dX8_sheet_41 kc_X8_287 ?_
              refine x_callVi C (As := [.int ((-1000007))]) (rest := []) (c_finds l E σ τ 6 (by decide) (-1000007) (by decide)) kv_X8_61 (x_recv C (Nat.le_of_ble_eq_true rfl) xd_81 rfl) ⟨Nat.le_of_ble_eq_true rfl, Nat.le_of_ble_eq_true rfl⟩ rfl rfl (Nat.le_of_ble_eq_true rfl) dX8_sheet_44 ?_
              exact x_oret C (mpost_of (V := u2 (mv σ) 2 6 (σ 14 6 + 1)) (Eq.trans (if_pos (by first | assumption | ((try simp only [rng, mayQ, tI_lt, tI_eq, cvr_0, mvr_0, cvr_c, mvr_c, ruleQ, tn_999, tl_200, tl_999, bitsQ, tl_16, tl_32, tl_40, tl_0, tl_1, tl_2, tl_3, tl_4, tl_5, tl_6, tl_7, tl_8, tl_9, tl_10, tl_11, tl_12, tl_13, tl_16, tl_32, tl_40, tl_99] at h1 h2 h10 h18 h26 h27 ⊢) <;> omega))) (if_pos (by first | assumption | ((try simp only [rng, mayQ, tI_lt, tI_eq, cvr_0, mvr_0, cvr_c, mvr_c, ruleQ, tn_999, tl_200, tl_999, bitsQ, tl_16, tl_32, tl_40, tl_0, tl_1, tl_2, tl_3, tl_4, tl_5, tl_6, tl_7, tl_8, tl_9, tl_10, tl_11, tl_12, tl_13, tl_16, tl_32, tl_40, tl_99] at h1 h2 h10 h18 h26 h27 ⊢) <;> omega)))) (by rw [mv_u14]) (by rw [cv_u14]) rfl) dX8_sheet_47
          · refine x_aload_n C 0 dX8_sheet_29 rfl rfl ?_
            refine x_ldc C dX8_sheet_30 kc_X8_46 ?_
            refine x_callVi C (As := [.int ((-1000001))]) (rest := []) (c_finds l E σ τ 0 (by decide) (-1000001) (by decide)) kv_X8_61 (x_recv C (Nat.le_of_ble_eq_true rfl) xd_81 rfl) ⟨Nat.le_of_ble_eq_true rfl, Nat.le_of_ble_eq_true rfl⟩ rfl rfl (Nat.le_of_ble_eq_true rfl) dX8_sheet_32 ?_
            exact x_oret C (mpost_of (V := u2 (mv σ) 2 0 (σ 14 0 + 1)) (if_neg (by first | assumption | ((try simp only [rng, mayQ, tI_lt, tI_eq, cvr_0, mvr_0, cvr_c, mvr_c, ruleQ, tn_999, tl_200, tl_999, bitsQ, tl_16, tl_32, tl_40, tl_0, tl_1, tl_2, tl_3, tl_4, tl_5, tl_6, tl_7, tl_8, tl_9, tl_10, tl_11, tl_12, tl_13, tl_16, tl_32, tl_40, tl_99] at h1 h2 h10 h18 h26 ⊢) <;> omega))) (by rw [mv_u14]) (by rw [cv_u14]) rfl) dX8_sheet_35
