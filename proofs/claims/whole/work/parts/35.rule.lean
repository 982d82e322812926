/-! the short rule -/
def brX (r : Nat → Int32) : Int64 := (r 0).toInt64 + ((r 1).toInt64 - (r 0).toInt64) / 10
def brY (r : Nat → Int32) : Int64 := (r 1).toInt64 + ((r 0).toInt64 * (2800 - (r 2).toInt64) / 100 - (r 1).toInt64) / 100
def brZ (r : Nat → Int32) : Int64 := (r 2).toInt64 + ((r 0).toInt64 * (r 1).toInt64 / 100 - 8 * (r 2).toInt64 / 3) / 100
def brS (r : Nat → Int32) : Nat → Int32 := upd (upd (upd r 0 (heldL (brX r) (-99999) 99999)) 1 (heldL (brY r) (-99999) 99999)) 2 (heldL (brZ r) (-99999) 99999)
def brB (x y : Int32) : Nat → Int32 := upd (upd (upd (fun _ => 0) 0 x) 1 y) 2 0
def brN (x y : Int32) : Nat → (Nat → Int32)
  | 0 => brB x y
  | k + 1 => brS (brN x y k)
def t3 (τ : Nat → Int64) (r : Nat → Int32) : Nat → Int64 := fun i => if i = 0 then (r 0).toInt64 else if i = 1 then (r 1).toInt64 else if i = 2 then (r 2).toInt64 else τ i
theorem t3_0 (τ : Nat → Int64) (r : Nat → Int32) : t3 τ r 0 = (r 0).toInt64 := rfl
theorem t3_1 (τ : Nat → Int64) (r : Nat → Int32) : t3 τ r 1 = (r 1).toInt64 := rfl
theorem t3_2 (τ : Nat → Int64) (r : Nat → Int32) : t3 τ r 2 = (r 2).toInt64 := rfl
theorem t3_p {τ : Nat → Int64} {r : Nat → Int32} {a b c : Int64} (ha : a = (r 0).toInt64) (hb : b = (r 1).toInt64) (hc : c = (r 2).toInt64) : va_up (va_up (va_up τ 0 a) 1 b) 2 c = t3 τ r := by
  subst ha hb hc
  funext i
  unfold t3
  by_cases h2 : i = 2
  · subst h2
    rw [va_up_self, if_neg (by decide), if_neg (by decide), if_pos rfl]
  · rw [va_up_ne _ _ h2]
    by_cases h1 : i = 1
    · subst h1
      rw [va_up_self, if_neg (by decide), if_pos rfl]
    · rw [va_up_ne _ _ h1]
      by_cases h0 : i = 0
      · subst h0
        rw [va_up_self, if_pos rfl]
      · rw [va_up_ne _ _ h0, if_neg h0, if_neg h1, if_neg h2]
theorem t3_t (τ : Nat → Int64) (r r2 : Nat → Int32) : t3 (t3 τ r) r2 = t3 τ r2 := by
  funext i
  unfold t3
  by_cases h0 : i = 0
  · simp [h0]
  · by_cases h1 : i = 1
    · simp [h1]
    · by_cases h2 : i = 2
      · simp [h2]
      · simp [h0, h1, h2]
theorem heldJ_eq (v : Int64) : (if (if (99999 : Int64) < v then 99999 else v) < -99999 then -99999 else (if (99999 : Int64) < v then 99999 else v)) = (heldL v (-99999) 99999).toInt64 := by
  have e1 : (99999 : Int64).toInt = 99999 := by decide
  have e2 : (-99999 : Int64).toInt = -99999 := by decide
  have e3 : (-99999 : Int32).toInt64 = -99999 := by decide
  have e4 : (99999 : Int32).toInt64 = 99999 := by decide
  unfold heldL
  rw [e3, e4]
  by_cases h1 : 99999 < v
  · have h2 : ¬ v < -99999 := by
      rw [Int64.lt_iff_toInt_lt, e1] at h1
      rw [Int64.lt_iff_toInt_lt, e2]
      omega
    rw [if_pos h1, if_neg (by decide), if_neg h2, if_pos h1, e4]
  · rw [if_neg h1]
    by_cases h2 : v < -99999
    · rw [if_pos h2, if_pos h2, e3]
    · rw [if_neg h2, if_neg h2, if_neg h1]
      apply Int64.toInt_inj.mp
      rw [Int64.lt_iff_toInt_lt, e1] at h1
      rw [Int64.lt_iff_toInt_lt, e2] at h2
      rw [toL, Int64.toInt_toInt32, Int.bmod_eq_of_le (by omega) (by omega)]
theorem brS_0 (r : Nat → Int32) : brS r 0 = heldL (brX r) (-99999) 99999 := by
  unfold brS
  rw [upd_ne (by decide), upd_ne (by decide), upd_at]
theorem brS_1 (r : Nat → Int32) : brS r 1 = heldL (brY r) (-99999) 99999 := by
  unfold brS
  rw [upd_ne (by decide), upd_at]
theorem brS_2 (r : Nat → Int32) : brS r 2 = heldL (brZ r) (-99999) 99999 := by
  unfold brS
  rw [upd_at]
theorem brB_0 (x y : Int32) : brB x y 0 = x := by
  unfold brB
  rw [upd_ne (by decide), upd_ne (by decide), upd_at]
theorem brB_1 (x y : Int32) : brB x y 1 = y := by
  unfold brB
  rw [upd_ne (by decide), upd_at]
theorem brB_2 (x y : Int32) : brB x y 2 = 0 := by
  unfold brB
  rw [upd_at]
theorem chk_22 : ∀ j, j < 94 → chkB 22 [(0, 3)] (xd j) = true := by decide +kernel
theorem br_alter {E : xE} {S : xV} {τ : Nat → Int64} {h : Nat → Int32} {x y : Int32} : ∀ j, j < 94 → xce E (va_up S 22 (brB x y)) τ (xd j) = xce E (va_up S 22 (upd (upd (upd h 0 x) 1 y) 2 0)) τ (xd j) := by
  refine run_alter [(0, 3)] chk_22 ?_
  intro i hi
  obtain ⟨r, hr, h1, h2⟩ := hi
  simp only [List.mem_cons, List.not_mem_nil, or_false] at hr
  subst hr
  have h3 : i < 3 := h2
  have h4 : i = 0 ∨ i = 1 ∨ i = 2 := by omega
  rcases h4 with rfl | rfl | rfl <;> rfl
abbrev ruleQ (x y n : Int32) : Prop := rng x (-999) 999 ∧ rng y (-999) 999 ∧ rng n 0 200
def briefS (x y : Int32) (q : Nat) (which : Int32) (s : xV) : Int32 × xV := (brN x y q which.toNatClampNeg, s)
def sp_brief (x y n which : Int32) (s : xV) : Int32 × xV := if ruleQ x y n ∧ rng which 0 2 then briefS x y n.toNatClampNeg which s else bad s
def sgN (x y : Int32) : Nat → Int32
  | 0 => sgn (brN x y 0 0)
  | k + 1 => if sgn (brN x y (k + 1) 0) = 0 then sgN x y k else sgn (brN x y (k + 1) 0)
def flN (x y : Int32) : Nat → Int32
  | 0 => 0
  | k + 1 => if sgn (brN x y (k + 1) 0) * sgN x y k < 0 then flN x y k + 1 else flN x y k
def sp_flips (x y n : Int32) (s : xV) : Int32 × xV := if ruleQ x y n then (flN x y n.toNatClampNeg, s) else bad s
theorem cmpL_sgn (x : Int32) : cmpL x.toInt64 0 = sgn x := by
  have e0 : (0 : Int64) = (0 : Int32).toInt64 := by decide
  have e1 : x.toInt64 < 0 ↔ x < 0 := by rw [e0, Int64.lt_iff_toInt_lt, toL, toL, tI_lt]
  have e2 : x.toInt64 = 0 ↔ x = 0 := by rw [e0, ← Int64.toInt_inj, toL, toL, tI_eq]
  unfold cmpL sgn
  simp only [e1, e2]
theorem sgn_3 (x : Int32) : sgn x = -1 ∨ sgn x = 0 ∨ sgn x = 1 := by
  unfold sgn
  split
  · exact Or.inl rfl
  · split
    · exact Or.inr (Or.inl rfl)
    · exact Or.inr (Or.inr rfl)
theorem sgN_in (x y : Int32) : ∀ k, sgN x y k = -1 ∨ sgN x y k = 0 ∨ sgN x y k = 1
  | 0 => sgn_3 _
  | k + 1 => by
    unfold sgN
    split
    · exact sgN_in x y k
    · exact sgn_3 _
theorem sgn_p {x : Int32} (h : 0 < x) : sgn x = 1 := by
  rw [tI_lt, tI_0] at h
  unfold sgn
  rw [if_neg (by rw [tI_lt, tI_0]; omega), if_neg (by rw [tI_eq, tI_0]; omega)]
theorem sgn_m {x : Int32} (h : x < 0) : sgn x = -1 := if_pos h
theorem sgn_z {x : Int32} (h : ¬ 0 < x) (h2 : ¬ x < 0) : sgn x = 0 := by
  rw [tI_lt, tI_0] at h h2
  unfold sgn
  rw [if_neg (by rw [tI_lt, tI_0]; omega), if_pos (by rw [tI_eq, tI_0]; omega)]
theorem sgN_0 (x y : Int32) : sgN x y 0 = sgn x := by
  show sgn (brB x y 0) = _
  rw [brB_0]
theorem sg_p {x y : Int32} {k : Nat} (h : 0 < brS (brN x y k) 0) : 1 = sgN x y (k + 1) := by
  unfold sgN
  rw [show sgn (brN x y (k + 1) 0) = 1 from sgn_p h, if_neg (by decide)]
theorem sg_n {x y : Int32} {k : Nat} (h : brS (brN x y k) 0 < 0) : -1 = sgN x y (k + 1) := by
  unfold sgN
  rw [show sgn (brN x y (k + 1) 0) = -1 from sgn_m h, if_neg (by decide)]
theorem sg_z {x y : Int32} {k : Nat} (h : ¬ 0 < brS (brN x y k) 0) (h2 : ¬ brS (brN x y k) 0 < 0) : sgN x y k = sgN x y (k + 1) := by
  rw [show sgN x y (k + 1) = if sgn (brN x y (k + 1) 0) = 0 then sgN x y k else sgn (brN x y (k + 1) 0) from rfl, show sgn (brN x y (k + 1) 0) = 0 from sgn_z h h2, if_pos rfl]
theorem fl_all (x y : Int32) (k : Nat) : (sgn (brN x y (k + 1) 0) * sgN x y k < 0) ↔ (¬ sgN x y k = 0 ∧ ¬ sgN x y (k + 1) = sgN x y k) := by
  rw [show sgN x y (k + 1) = if sgn (brN x y (k + 1) 0) = 0 then sgN x y k else sgn (brN x y (k + 1) 0) from rfl]
  rcases sgn_3 (brN x y (k + 1) 0) with h | h | h <;> rcases sgN_in x y k with h2 | h2 | h2 <;> rw [h, h2] <;> decide
theorem fl_y {x y : Int32} {k : Nat} (h0 : ¬ sgN x y k = 0) (h1 : ¬ sgN x y (k + 1) = sgN x y k) : flN x y k + 1 = flN x y (k + 1) := (if_pos ((fl_all x y k).mpr ⟨h0, h1⟩)).symm
theorem fl_n {x y : Int32} {k : Nat} (h : sgN x y k = 0 ∨ sgN x y (k + 1) = sgN x y k) : flN x y k + 0 = flN x y (k + 1) := by
  rw [Int32.add_zero]
  exact (if_neg (fun z => h.elim (fun a => ((fl_all x y k).mp z).1 a) (fun a => ((fl_all x y k).mp z).2 a))).symm
theorem which2 {w : Int32} (h : rng w 0 2) (h0 : ¬ w = 0) (h1 : ¬ w = 1) : w = 2 := by
  have := rngI (a := 0) (b := 2) h (by decide) (by decide)
  rw [tI_eq] at h0 h1 ⊢
  have e0 : (0 : Int32).toInt = 0 := by decide
  have e1 : (1 : Int32).toInt = 1 := by decide
  have e2 : (2 : Int32).toInt = 2 := by decide
  omega
set_option maxHeartbeats 4000000 in
set_option maxRecDepth 100000 in
theorem c_heldJ (l : Launch) (E : xE) (σ : Nat → Nat → Int32) (τ : Nat → Int64) (v : Int64) : xMl l yX2_held cX2_held 2 1 23 E [.long (v)] (σ) (τ) ((heldL v (-99999) 99999).toInt64) (σ) (τ) := by
  refine xMl_of (own := RX2) (by decide +kernel) rfl (Nat.le_of_ble_eq_true rfl) ?_
  intro zp ze zs zm za zb zh zc C
  refine WM.to (lv1 := [(0, .long (v))]) (st1 := []) (σ1 := σ) (τ1 := τ) ?_ rfl rfl rfl rfl
  refine x_ldc2 C dX2_held_0 kc_X2_33 ?_
  refine x_lload_n C 0 dX2_held_3 rfl rfl ?_
  refine x_ldc2 C dX2_held_4 kc_X2_35 ?_
  refine x_mminL C km_X2_37 kM_minL ⟨Nat.le_of_ble_eq_true rfl, Nat.le_of_ble_eq_true rfl⟩ dX2_held_7 ?_
  refine x_mmaxL C km_X2_43 kM_maxL ⟨Nat.le_of_ble_eq_true rfl, Nat.le_of_ble_eq_true rfl⟩ dX2_held_10 ?_
  exact x_lret C (heldJ_eq _) rfl rfl dX2_held_13
set_option maxHeartbeats 4000000 in
set_option maxRecDepth 100000 in
theorem c_rbegin (l : Launch) (E : xE) (σ : Nat → Nat → Int32) (τ : Nat → Int64) (x y : Int32) : xMv l yX2_begin cX2_begin 3 0 0 E [.ref (xad E (71)), .int (x), .int (y)] (σ) (τ) (σ) (t3 τ (brB x y)) := by
  refine xMv_of (own := RX2) (by decide +kernel) rfl (Nat.le_of_ble_eq_true rfl) ?_
  intro zp ze zs zm za zb zh zc C
  refine WM.to (lv1 := [(0, .ref (xad E (71))), (1, .int (x)), (2, .int (y))]) (st1 := []) (σ1 := σ) (τ1 := τ) ?_ rfl rfl rfl rfl
  refine x_aload_n C 0 dX2_begin_0 rfl rfl ?_
  refine x_iload_n C 1 dX2_begin_1 rfl rfl ?_
  refine x_i2l C dX2_begin_2 ?_
  refine x_putL C (τ' := va_up (τ) 0 (Int32.toInt64 x)) (Nat.le_of_ble_eq_true rfl) xd_71 fp_X2_7 rfl rfl dX2_begin_3 ?_
  refine x_aload_n C 0 dX2_begin_6 rfl rfl ?_
  refine x_iload_n C 2 dX2_begin_7 rfl rfl ?_
  refine x_i2l C dX2_begin_8 ?_
  refine x_putL C (τ' := va_up (va_up (τ) 0 (Int32.toInt64 x)) 1 (Int32.toInt64 y)) (Nat.le_of_ble_eq_true rfl) xd_71 fp_X2_13 rfl rfl dX2_begin_9 ?_
  refine x_aload_n C 0 dX2_begin_12 rfl rfl ?_
  refine x_lconst C (v := 0) dX2_begin_13 (by decide) ?_
  refine x_putL C (τ' := va_up (va_up (va_up (τ) 0 (Int32.toInt64 x)) 1 (Int32.toInt64 y)) 2 (0)) (Nat.le_of_ble_eq_true rfl) xd_71 fp_X2_16 rfl rfl dX2_begin_14 ?_
  exact x_vret C rfl (t3_p (by rw [brB_0]) (by rw [brB_1]) (by rw [brB_2]; decide)) dX2_begin_17
set_option maxHeartbeats 4000000 in
set_option maxRecDepth 100000 in
theorem c_rapply (l : Launch) (E : xE) (σ : Nat → Nat → Int32) (τ : Nat → Int64) (r : Nat → Int32) : xMv l yX2_apply cX2_apply 7 2 44 E [.ref (xad E (71))] (σ) (t3 τ r) (σ) (t3 τ (brS r)) := by
  refine xMv_of (own := RX2) (by decide +kernel) rfl (Nat.le_of_ble_eq_true rfl) ?_
  intro zp ze zs zm za zb zh zc C
  refine WM.to (lv1 := [(0, .ref (xad E (71)))]) (st1 := []) (σ1 := σ) (τ1 := t3 τ r) ?_ rfl rfl rfl rfl
  refine x_aload_n C 0 dX2_apply_0 rfl rfl ?_
  refine x_get C (Nat.le_of_ble_eq_true rfl) xd_71 fl_X2_7 (q := (2, 0, 0)) (v := .long (Int32.toInt64 (r 0))) rfl (congrArg Value.long (t3_0 _ _)) dX2_apply_1 ?_
  refine x_aload_n C 0 dX2_apply_4 rfl rfl ?_
  refine x_get C (Nat.le_of_ble_eq_true rfl) xd_71 fl_X2_13 (q := (2, 1, 0)) (v := .long (Int32.toInt64 (r 1))) rfl (congrArg Value.long (t3_1 _ _)) dX2_apply_5 ?_
  refine x_aload_n C 0 dX2_apply_8 rfl rfl ?_
  refine x_get C (Nat.le_of_ble_eq_true rfl) xd_71 fl_X2_7 (q := (2, 0, 0)) (v := .long (Int32.toInt64 (r 0))) rfl (congrArg Value.long (t3_0 _ _)) dX2_apply_9 ?_
  refine x_lsub C dX2_apply_12 ?_
  refine x_ldc2 C dX2_apply_13 kc_X2_19 ?_
  refine x_ldiv C dX2_apply_16 (by decide) ?_
  refine x_ladd C dX2_apply_17 ?_
  refine x_lstore_n C (lv1 := [(1, .long ((Int32.toInt64 (r 0)) + (((Int32.toInt64 (r 1)) - (Int32.toInt64 (r 0))) / 10))), (0, .ref (xad E (71)))]) dX2_apply_18 rfl (by decide) rfl ?_
  refine x_aload_n C 1 dX2_apply_19 rfl rfl ?_
  refine x_get C (Nat.le_of_ble_eq_true rfl) xd_71 fl_X2_13 (q := (2, 1, 0)) (v := .long (Int32.toInt64 (r 1))) rfl (congrArg Value.long (t3_1 _ _)) dX2_apply_20 ?_
  refine x_aload_n C 1 dX2_apply_23 rfl rfl ?_
  refine x_get C (Nat.le_of_ble_eq_true rfl) xd_71 fl_X2_7 (q := (2, 0, 0)) (v := .long (Int32.toInt64 (r 0))) rfl (congrArg Value.long (t3_0 _ _)) dX2_apply_24 ?_
  refine x_ldc2 C dX2_apply_27 kc_X2_21 ?_
  refine x_aload_n C 1 dX2_apply_30 rfl rfl ?_
  refine x_get C (Nat.le_of_ble_eq_true rfl) xd_71 fl_X2_16 (q := (2, 2, 0)) (v := .long (Int32.toInt64 (r 2))) rfl (congrArg Value.long (t3_2 _ _)) dX2_apply_31 ?_
  refine x_lsub C dX2_apply_34 ?_
  refine x_lmul C dX2_apply_35 ?_
  refine x_ldc2 C dX2_apply_36 kc_X2_23 ?_
  refine x_ldiv C dX2_apply_39 (by decide) ?_
  refine x_aload_n C 1 dX2_apply_40 rfl rfl ?_
  refine x_get C (Nat.le_of_ble_eq_true rfl) xd_71 fl_X2_13 (q := (2, 1, 0)) (v := .long (Int32.toInt64 (r 1))) rfl (congrArg Value.long (t3_1 _ _)) dX2_apply_41 ?_
  refine x_lsub C dX2_apply_44 ?_
  refine x_ldc2 C dX2_apply_45 kc_X2_23 ?_
  refine x_ldiv C dX2_apply_48 (by decide) ?_
  refine x_ladd C dX2_apply_49 ?_
  refine x_lstore_n C (lv1 := [(3, .long ((Int32.toInt64 (r 1)) + (((((Int32.toInt64 (r 0)) * (2800 - (Int32.toInt64 (r 2)))) / 100) - (Int32.toInt64 (r 1))) / 100))), (1, .long ((Int32.toInt64 (r 0)) + (((Int32.toInt64 (r 1)) - (Int32.toInt64 (r 0))) / 10))), (0, .ref (xad E (71)))]) dX2_apply_50 rfl (by decide) rfl ?_
  refine x_aload_n C 2 dX2_apply_51 rfl rfl ?_
  refine x_get C (Nat.le_of_ble_eq_true rfl) xd_71 fl_X2_16 (q := (2, 2, 0)) (v := .long (Int32.toInt64 (r 2))) rfl (congrArg Value.long (t3_2 _ _)) dX2_apply_52 ?_
  refine x_aload_n C 2 dX2_apply_55 rfl rfl ?_
  refine x_get C (Nat.le_of_ble_eq_true rfl) xd_71 fl_X2_7 (q := (2, 0, 0)) (v := .long (Int32.toInt64 (r 0))) rfl (congrArg Value.long (t3_0 _ _)) dX2_apply_56 ?_
  refine x_aload_n C 2 dX2_apply_59 rfl rfl ?_
  refine x_get C (Nat.le_of_ble_eq_true rfl) xd_71 fl_X2_13 (q := (2, 1, 0)) (v := .long (Int32.toInt64 (r 1))) rfl (congrArg Value.long (t3_1 _ _)) dX2_apply_60 ?_
  refine x_lmul C dX2_apply_63 ?_
  refine x_ldc2 C dX2_apply_64 kc_X2_23 ?_
  refine x_ldiv C dX2_apply_67 (by decide) ?_
  refine x_ldc2 C dX2_apply_68 kc_X2_25 ?_
  refine x_aload_n C 2 dX2_apply_71 rfl rfl ?_
  refine x_get C (Nat.le_of_ble_eq_true rfl) xd_71 fl_X2_16 (q := (2, 2, 0)) (v := .long (Int32.toInt64 (r 2))) rfl (congrArg Value.long (t3_2 _ _)) dX2_apply_72 ?_
  refine x_lmul C dX2_apply_75 ?_
  refine x_ldc2 C dX2_apply_76 kc_X2_27 ?_
  refine x_ldiv C dX2_apply_79 (by decide) ?_
  refine x_lsub C dX2_apply_80 ?_
  refine x_ldc2 C dX2_apply_81 kc_X2_23 ?_
  refine x_ldiv C dX2_apply_84 (by decide) ?_
  refine x_ladd C dX2_apply_85 ?_
  refine x_lstore C (lv1 := [(5, .long ((Int32.toInt64 (r 2)) + (((((Int32.toInt64 (r 0)) * (Int32.toInt64 (r 1))) / 100) - ((8 * (Int32.toInt64 (r 2))) / 3)) / 100))), (3, .long ((Int32.toInt64 (r 1)) + (((((Int32.toInt64 (r 0)) * (2800 - (Int32.toInt64 (r 2)))) / 100) - (Int32.toInt64 (r 1))) / 100))), (1, .long ((Int32.toInt64 (r 0)) + (((Int32.toInt64 (r 1)) - (Int32.toInt64 (r 0))) / 10))), (0, .ref (xad E (71)))]) dX2_apply_86 (by decide) rfl ?_
  refine x_aload_n C 3 dX2_apply_88 rfl rfl ?_
  refine x_lload_n C 2 dX2_apply_89 rfl rfl ?_
  refine x_callSl C (As := [.long ((Int32.toInt64 (r 0)) + (((Int32.toInt64 (r 1)) - (Int32.toInt64 (r 0))) / 10))]) (rest := [.ref (xad E (71))]) (c_heldJ l E σ (t3 τ r) ((Int32.toInt64 (r 0)) + (((Int32.toInt64 (r 1)) - (Int32.toInt64 (r 0))) / 10))) ks_X2_29 ⟨Nat.le_of_ble_eq_true rfl, Nat.le_of_ble_eq_true rfl⟩ rfl rfl (Nat.le_of_ble_eq_true rfl) dX2_apply_90 ?_
  refine x_putL C (τ' := va_up (t3 τ r) 0 ((heldL ((Int32.toInt64 (r 0)) + (((Int32.toInt64 (r 1)) - (Int32.toInt64 (r 0))) / 10)) (-99999) 99999).toInt64)) (Nat.le_of_ble_eq_true rfl) xd_71 fp_X2_7 rfl rfl dX2_apply_93 ?_
  refine x_aload_n C 3 dX2_apply_96 rfl rfl ?_
  refine x_lload_n C 1 dX2_apply_97 rfl rfl ?_
  refine x_callSl C (As := [.long ((Int32.toInt64 (r 1)) + (((((Int32.toInt64 (r 0)) * (2800 - (Int32.toInt64 (r 2)))) / 100) - (Int32.toInt64 (r 1))) / 100))]) (rest := [.ref (xad E (71))]) (c_heldJ l E σ (va_up (t3 τ r) 0 ((heldL ((Int32.toInt64 (r 0)) + (((Int32.toInt64 (r 1)) - (Int32.toInt64 (r 0))) / 10)) (-99999) 99999).toInt64)) ((Int32.toInt64 (r 1)) + (((((Int32.toInt64 (r 0)) * (2800 - (Int32.toInt64 (r 2)))) / 100) - (Int32.toInt64 (r 1))) / 100))) ks_X2_29 ⟨Nat.le_of_ble_eq_true rfl, Nat.le_of_ble_eq_true rfl⟩ rfl rfl (Nat.le_of_ble_eq_true rfl) dX2_apply_98 ?_
  refine x_putL C (τ' := va_up (va_up (t3 τ r) 0 ((heldL ((Int32.toInt64 (r 0)) + (((Int32.toInt64 (r 1)) - (Int32.toInt64 (r 0))) / 10)) (-99999) 99999).toInt64)) 1 ((heldL ((Int32.toInt64 (r 1)) + (((((Int32.toInt64 (r 0)) * (2800 - (Int32.toInt64 (r 2)))) / 100) - (Int32.toInt64 (r 1))) / 100)) (-99999) 99999).toInt64)) (Nat.le_of_ble_eq_true rfl) xd_71 fp_X2_13 rfl rfl dX2_apply_101 ?_
  refine x_aload_n C 3 dX2_apply_104 rfl rfl ?_
  refine x_lload C 0 dX2_apply_105 rfl ?_
  refine x_callSl C (As := [.long ((Int32.toInt64 (r 2)) + (((((Int32.toInt64 (r 0)) * (Int32.toInt64 (r 1))) / 100) - ((8 * (Int32.toInt64 (r 2))) / 3)) / 100))]) (rest := [.ref (xad E (71))]) (c_heldJ l E σ (va_up (va_up (t3 τ r) 0 ((heldL ((Int32.toInt64 (r 0)) + (((Int32.toInt64 (r 1)) - (Int32.toInt64 (r 0))) / 10)) (-99999) 99999).toInt64)) 1 ((heldL ((Int32.toInt64 (r 1)) + (((((Int32.toInt64 (r 0)) * (2800 - (Int32.toInt64 (r 2)))) / 100) - (Int32.toInt64 (r 1))) / 100)) (-99999) 99999).toInt64)) ((Int32.toInt64 (r 2)) + (((((Int32.toInt64 (r 0)) * (Int32.toInt64 (r 1))) / 100) - ((8 * (Int32.toInt64 (r 2))) / 3)) / 100))) ks_X2_29 ⟨Nat.le_of_ble_eq_true rfl, Nat.le_of_ble_eq_true rfl⟩ rfl rfl (Nat.le_of_ble_eq_true rfl) dX2_apply_107 ?_
  refine x_putL C (τ' := va_up (va_up (va_up (t3 τ r) 0 ((heldL ((Int32.toInt64 (r 0)) + (((Int32.toInt64 (r 1)) - (Int32.toInt64 (r 0))) / 10)) (-99999) 99999).toInt64)) 1 ((heldL ((Int32.toInt64 (r 1)) + (((((Int32.toInt64 (r 0)) * (2800 - (Int32.toInt64 (r 2)))) / 100) - (Int32.toInt64 (r 1))) / 100)) (-99999) 99999).toInt64)) 2 ((heldL ((Int32.toInt64 (r 2)) + (((((Int32.toInt64 (r 0)) * (Int32.toInt64 (r 1))) / 100) - ((8 * (Int32.toInt64 (r 2))) / 3)) / 100)) (-99999) 99999).toInt64)) (Nat.le_of_ble_eq_true rfl) xd_71 fp_X2_16 rfl rfl dX2_apply_110 ?_
  exact x_vret C rfl (Eq.trans (t3_p (by rw [brS_0]; rfl) (by rw [brS_1]; rfl) (by rw [brS_2]; rfl)) (t3_t _ _ _)) dX2_apply_113
set_option maxHeartbeats 4000000 in
set_option maxRecDepth 100000 in
theorem c_isRule (l : Launch) (E : xE) (σ : Nat → Nat → Int32) (τ : Nat → Int64) (x y n : Int32) : xMi l yX7_isRuleBegin cX7_isRuleBegin 3 .boolean 1 22 E [.int (x), .int (y), .int (n)] (σ) (τ) (if ruleQ x y n then 1 else 0) (σ) (τ) := by
  refine xMi_of (own := RX7) (by decide +kernel) rfl (Nat.le_of_ble_eq_true rfl) ?_
  intro zp ze zs zm za zb zh zc C
  refine WM.to (lv1 := [(0, .int (x)), (1, .int (y)), (2, .int (n))]) (st1 := []) (σ1 := σ) (τ1 := τ) ?_ rfl rfl rfl rfl
  refine x_iload_n C 0 dX7_isRuleBegin_0 rfl rfl ?_
  refine x_sipush C (v := -999) dX7_isRuleBegin_1 (by decide) ?_
  refine x_sipush C (v := 999) dX7_isRuleBegin_4 (by decide) ?_
  refine x_callSi C (As := [.int (x), .int ((-999)), .int (999)]) (rest := []) (c_within l E σ τ x (-999) 999) ks_X7_59 ⟨Nat.le_of_ble_eq_true rfl, Nat.le_of_ble_eq_true rfl⟩ rfl rfl (Nat.le_of_ble_eq_true rfl) dX7_isRuleBegin_7 ?_
  refine x_ifeqB C (tgt := 41) dX7_isRuleBegin_10 (by decide) (fun h1 => ?_) (fun h1 => ?_)
  · refine x_iconst C (v := 0) dX7_isRuleBegin_41 (by decide) ?_
    exact x_zret C (by first | rfl | exact nzB _) (by simp [ruleQ, h1]) rfl rfl dX7_isRuleBegin_42
  · refine x_iload_n C 1 dX7_isRuleBegin_13 rfl rfl ?_
    refine x_sipush C (v := -999) dX7_isRuleBegin_14 (by decide) ?_
    refine x_sipush C (v := 999) dX7_isRuleBegin_17 (by decide) ?_
    refine x_callSi C (As := [.int (y), .int ((-999)), .int (999)]) (rest := []) (c_within l E σ τ y (-999) 999) ks_X7_59 ⟨Nat.le_of_ble_eq_true rfl, Nat.le_of_ble_eq_true rfl⟩ rfl rfl (Nat.le_of_ble_eq_true rfl) dX7_isRuleBegin_20 ?_
    refine x_ifeqB C (tgt := 41) dX7_isRuleBegin_23 (by decide) (fun h2 => ?_) (fun h2 => ?_)
    · refine x_iconst C (v := 0) dX7_isRuleBegin_41 (by decide) ?_
      exact x_zret C (by first | rfl | exact nzB _) (by simp [ruleQ, h1, h2]) rfl rfl dX7_isRuleBegin_42
    · refine x_iload_n C 2 dX7_isRuleBegin_26 rfl rfl ?_
      refine x_iconst C (v := 0) dX7_isRuleBegin_27 (by decide) ?_
      refine x_sipush C (v := 200) dX7_isRuleBegin_28 (by decide) ?_
      refine x_callSi C (As := [.int (n), .int (0), .int (200)]) (rest := []) (c_within l E σ τ n 0 200) ks_X7_59 ⟨Nat.le_of_ble_eq_true rfl, Nat.le_of_ble_eq_true rfl⟩ rfl rfl (Nat.le_of_ble_eq_true rfl) dX7_isRuleBegin_31 ?_
      refine x_ifeqB C (tgt := 41) dX7_isRuleBegin_34 (by decide) (fun h3 => ?_) (fun h3 => ?_)
      · refine x_iconst C (v := 0) dX7_isRuleBegin_41 (by decide) ?_
        exact x_zret C (by first | rfl | exact nzB _) (by simp [ruleQ, h1, h2, h3]) rfl rfl dX7_isRuleBegin_42
      · refine x_iconst C (v := 1) dX7_isRuleBegin_37 (by decide) ?_
        refine x_goto2 C (tgt := 42) dX7_isRuleBegin_38 (by decide) ?_
        exact x_zret C (by first | rfl | exact nzB _) (by simp [ruleQ, h1, h2, h3]) rfl rfl dX7_isRuleBegin_42
set_option maxHeartbeats 4000000 in
set_option maxRecDepth 100000 in
theorem c_isBrief (l : Launch) (E : xE) (σ : Nat → Nat → Int32) (τ : Nat → Int64) (x y n : Int32) : xMi l yX8_isBrief cX8_isBrief 3 .boolean 1 25 E [.int (x), .int (y), .int (n)] (σ) (τ) (if ruleQ x y n then 1 else 0) (σ) (τ) := by
  refine xMi_of (own := RX8) (by decide +kernel) rfl (Nat.le_of_ble_eq_true rfl) ?_
  intro zp ze zs zm za zb zh zc C
  refine WM.to (lv1 := [(0, .int (x)), (1, .int (y)), (2, .int (n))]) (st1 := []) (σ1 := σ) (τ1 := τ) ?_ rfl rfl rfl rfl
  refine x_iload_n C 0 dX8_isBrief_0 rfl rfl ?_
  refine x_i2l C dX8_isBrief_1 ?_
  refine x_ldc2 C dX8_isBrief_2 kc_X8_265 ?_
  refine x_ldc2 C dX8_isBrief_5 kc_X8_83 ?_
  refine x_callSi C (As := [.long (Int32.toInt64 x), .long ((-999)), .long (999)]) (rest := []) (c_in l E σ τ (Int32.toInt64 x) (-999) 999) ks_X8_49 ⟨Nat.le_of_ble_eq_true rfl, Nat.le_of_ble_eq_true rfl⟩ rfl rfl (Nat.le_of_ble_eq_true rfl) dX8_isBrief_8 ?_
  refine WM.topi (y := if rng x (-999) 999 then 1 else 0) (in_eq x (-999) 999 (by decide) (by decide)) ?_
  refine x_ifeqB C (tgt := 44) dX8_isBrief_11 (by decide) (fun h1 => ?_) (fun h1 => ?_)
  · refine x_iconst C (v := 0) dX8_isBrief_44 (by decide) ?_
    exact x_zret C (by first | rfl | exact nzB _) (by simp [ruleQ, h1]) rfl rfl dX8_isBrief_45
  · refine x_iload_n C 1 dX8_isBrief_14 rfl rfl ?_
    refine x_i2l C dX8_isBrief_15 ?_
    refine x_ldc2 C dX8_isBrief_16 kc_X8_265 ?_
    refine x_ldc2 C dX8_isBrief_19 kc_X8_83 ?_
    refine x_callSi C (As := [.long (Int32.toInt64 y), .long ((-999)), .long (999)]) (rest := []) (c_in l E σ τ (Int32.toInt64 y) (-999) 999) ks_X8_49 ⟨Nat.le_of_ble_eq_true rfl, Nat.le_of_ble_eq_true rfl⟩ rfl rfl (Nat.le_of_ble_eq_true rfl) dX8_isBrief_22 ?_
    refine WM.topi (y := if rng y (-999) 999 then 1 else 0) (in_eq y (-999) 999 (by decide) (by decide)) ?_
    refine x_ifeqB C (tgt := 44) dX8_isBrief_25 (by decide) (fun h2 => ?_) (fun h2 => ?_)
    · refine x_iconst C (v := 0) dX8_isBrief_44 (by decide) ?_
      exact x_zret C (by first | rfl | exact nzB _) (by simp [ruleQ, h1, h2]) rfl rfl dX8_isBrief_45
    · refine x_iload_n C 2 dX8_isBrief_28 rfl rfl ?_
      refine x_i2l C dX8_isBrief_29 ?_
      refine x_lconst C (v := 0) dX8_isBrief_30 (by decide) ?_
      refine x_ldc2 C dX8_isBrief_31 kc_X8_92 ?_
      refine x_callSi C (As := [.long (Int32.toInt64 n), .long (0), .long (200)]) (rest := []) (c_in l E σ τ (Int32.toInt64 n) 0 200) ks_X8_49 ⟨Nat.le_of_ble_eq_true rfl, Nat.le_of_ble_eq_true rfl⟩ rfl rfl (Nat.le_of_ble_eq_true rfl) dX8_isBrief_34 ?_
      refine WM.topi (y := if rng n 0 200 then 1 else 0) (in_eq n 0 200 (by decide) (by decide)) ?_
      refine x_ifeqB C (tgt := 44) dX8_isBrief_37 (by decide) (fun h3 => ?_) (fun h3 => ?_)
      · refine x_iconst C (v := 0) dX8_isBrief_44 (by decide) ?_
        exact x_zret C (by first | rfl | exact nzB _) (by simp [ruleQ, h1, h2, h3]) rfl rfl dX8_isBrief_45
      · refine x_iconst C (v := 1) dX8_isBrief_40 (by decide) ?_
        refine x_goto2 C (tgt := 45) dX8_isBrief_41 (by decide) ?_
        exact x_zret C (by first | rfl | exact nzB _) (by simp [ruleQ, h1, h2, h3]) rfl rfl dX8_isBrief_45
set_option maxHeartbeats 4000000 in
set_option maxRecDepth 100000 in
theorem c_begins (l : Launch) (E : xE) (σ : Nat → Nat → Int32) (τ : Nat → Int64) (hrow : Nat → Int32) (x y : Int32) : xMv l yX8_begins cX8_begins 3 0 0 E [.ref (xad E (81)), .int (x), .int (y)] (va_up σ 22 (hrow)) (τ) (va_up σ 22 (brB x y)) (τ) := by
  refine xMv_of (own := RX8) (by decide +kernel) rfl (Nat.le_of_ble_eq_true rfl) ?_
  intro zp ze zs zm za zb zh zc C
  refine WM.to (lv1 := [(0, .ref (xad E (81))), (1, .int (x)), (2, .int (y))]) (st1 := []) (σ1 := va_up σ 22 (hrow)) (τ1 := τ) ?_ rfl rfl rfl rfl
  refine x_aload_n C 0 dX8_begins_0 rfl rfl ?_
  refine x_get C (Nat.le_of_ble_eq_true rfl) xd_81 fl_X8_31 (q := (0, 89, 0)) (v := .ref (xad E (89))) rfl rfl dX8_begins_1 ?_
  refine x_iconst C (v := 0) dX8_begins_4 (by decide) ?_
  refine x_iload_n C 1 dX8_begins_5 rfl rfl ?_
  refine x_ast C (σ' := va_up σ 22 (upd hrow 0 (x))) (Nat.le_of_ble_eq_true rfl) xd_89 (by decide) (vp_in_nI (show 0 < 3 by omega) (by decide)) (by rw [(show (0 : Int32).toNatClampNeg = 0 from by decide), Nat.zero_add, Nat.one_mul]; exact (u2_bank _ _ _ _ _)) dX8_begins_6 ?_
  refine x_aload_n C 0 dX8_begins_7 rfl rfl ?_
  refine x_get C (Nat.le_of_ble_eq_true rfl) xd_81 fl_X8_31 (q := (0, 89, 0)) (v := .ref (xad E (89))) rfl rfl dX8_begins_8 ?_
  refine x_iconst C (v := 1) dX8_begins_11 (by decide) ?_
  refine x_iload_n C 2 dX8_begins_12 rfl rfl ?_
  refine x_ast C (σ' := va_up σ 22 (upd (upd hrow 0 (x)) 1 (y))) (Nat.le_of_ble_eq_true rfl) xd_89 (by decide) (vp_in_nI (show 1 < 3 by omega) (by decide)) (by rw [(show (1 : Int32).toNatClampNeg = 1 from by decide), Nat.zero_add, Nat.one_mul]; exact (u2_bank _ _ _ _ _)) dX8_begins_13 ?_
  refine x_aload_n C 0 dX8_begins_14 rfl rfl ?_
  refine x_get C (Nat.le_of_ble_eq_true rfl) xd_81 fl_X8_31 (q := (0, 89, 0)) (v := .ref (xad E (89))) rfl rfl dX8_begins_15 ?_
  refine x_iconst C (v := 2) dX8_begins_18 (by decide) ?_
  refine x_iconst C (v := 0) dX8_begins_19 (by decide) ?_
  refine x_ast C (σ' := va_up σ 22 (upd (upd (upd hrow 0 (x)) 1 (y)) 2 (0))) (Nat.le_of_ble_eq_true rfl) xd_89 (by decide) (vp_in_nI (show 2 < 3 by omega) (by decide)) (by rw [(show (2 : Int32).toNatClampNeg = 2 from by decide), Nat.zero_add, Nat.one_mul]; exact (u2_bank _ _ _ _ _)) dX8_begins_20 ?_
  refine WM.alter (σ' := va_up σ 22 (brB x y)) br_alter ?_
  exact x_vret C rfl rfl dX8_begins_21
set_option maxHeartbeats 4000000 in
set_option maxRecDepth 100000 in
theorem c_briefly (l : Launch) (E : xE) (σ : Nat → Nat → Int32) (τ : Nat → Int64) (r : Nat → Int32) : xMv l yX8_briefly cX8_briefly 7 1 23 E [.ref (xad E (81))] (va_up σ 22 (r)) (τ) (va_up σ 22 (brS r)) (τ) := by
  refine xMv_of (own := RX8) (by decide +kernel) rfl (Nat.le_of_ble_eq_true rfl) ?_
  intro zp ze zs zm za zb zh zc C
  refine WM.to (lv1 := [(0, .ref (xad E (81)))]) (st1 := []) (σ1 := va_up σ 22 (r)) (τ1 := τ) ?_ rfl rfl rfl rfl
  refine x_aload_n C 0 dX8_briefly_0 rfl rfl ?_
  refine x_get C (Nat.le_of_ble_eq_true rfl) xd_81 fl_X8_31 (q := (0, 89, 0)) (v := .ref (xad E (89))) rfl rfl dX8_briefly_1 ?_
  refine x_iconst C (v := 0) dX8_briefly_4 (by decide) ?_
  refine x_ald C (Nat.le_of_ble_eq_true rfl) xd_89 (v := r 0) (vp_in_nI (show 0 < 3 by omega) (by decide)) (by rw [(show (0 : Int32).toNatClampNeg = 0 from by decide), Nat.zero_add, Nat.one_mul]; exact (congrFun (va_up_self _ _ _) _)) dX8_briefly_5 ?_
  refine x_i2l C dX8_briefly_6 ?_
  refine x_lstore_n C (lv1 := [(1, .long (Int32.toInt64 (r 0))), (0, .ref (xad E (81)))]) dX8_briefly_7 rfl (by decide) rfl ?_
  refine x_aload_n C 1 dX8_briefly_8 rfl rfl ?_
  refine x_get C (Nat.le_of_ble_eq_true rfl) xd_81 fl_X8_31 (q := (0, 89, 0)) (v := .ref (xad E (89))) rfl rfl dX8_briefly_9 ?_
  refine x_iconst C (v := 1) dX8_briefly_12 (by decide) ?_
  refine x_ald C (Nat.le_of_ble_eq_true rfl) xd_89 (v := r 1) (vp_in_nI (show 1 < 3 by omega) (by decide)) (by rw [(show (1 : Int32).toNatClampNeg = 1 from by decide), Nat.zero_add, Nat.one_mul]; exact (congrFun (va_up_self _ _ _) _)) dX8_briefly_13 ?_
  refine x_i2l C dX8_briefly_14 ?_
  refine x_lstore_n C (lv1 := [(3, .long (Int32.toInt64 (r 1))), (1, .long (Int32.toInt64 (r 0))), (0, .ref (xad E (81)))]) dX8_briefly_15 rfl (by decide) rfl ?_
  refine x_aload_n C 2 dX8_briefly_16 rfl rfl ?_
  refine x_get C (Nat.le_of_ble_eq_true rfl) xd_81 fl_X8_31 (q := (0, 89, 0)) (v := .ref (xad E (89))) rfl rfl dX8_briefly_17 ?_
  refine x_iconst C (v := 2) dX8_briefly_20 (by decide) ?_
  refine x_ald C (Nat.le_of_ble_eq_true rfl) xd_89 (v := r 2) (vp_in_nI (show 2 < 3 by omega) (by decide)) (by rw [(show (2 : Int32).toNatClampNeg = 2 from by decide), Nat.zero_add, Nat.one_mul]; exact (congrFun (va_up_self _ _ _) _)) dX8_briefly_21 ?_
  refine x_i2l C dX8_briefly_22 ?_
  refine x_lstore C (lv1 := [(5, .long (Int32.toInt64 (r 2))), (3, .long (Int32.toInt64 (r 1))), (1, .long (Int32.toInt64 (r 0))), (0, .ref (xad E (81)))]) dX8_briefly_23 (by decide) rfl ?_
  refine x_aload_n C 3 dX8_briefly_25 rfl rfl ?_
  refine x_get C (Nat.le_of_ble_eq_true rfl) xd_81 fl_X8_31 (q := (0, 89, 0)) (v := .ref (xad E (89))) rfl rfl dX8_briefly_26 ?_
  refine x_iconst C (v := 0) dX8_briefly_29 (by decide) ?_
  refine x_lload_n C 2 dX8_briefly_30 rfl rfl ?_
  refine x_lload_n C 1 dX8_briefly_31 rfl rfl ?_
  refine x_lload_n C 2 dX8_briefly_32 rfl rfl ?_
  refine x_lsub C dX8_briefly_33 ?_
  refine x_ldc2 C dX8_briefly_34 kc_X8_248 ?_
  refine x_ldiv C dX8_briefly_37 (by decide) ?_
  refine x_ladd C dX8_briefly_38 ?_
  refine x_ldcw C dX8_briefly_39 kc_X8_259 ?_
  refine x_ldcw C dX8_briefly_42 kc_X8_260 ?_
  refine x_callSi C (As := [.long ((Int32.toInt64 (r 0)) + (((Int32.toInt64 (r 1)) - (Int32.toInt64 (r 0))) / 10)), .int ((-99999)), .int (99999)]) (rest := [.int (0), .ref (xad E (89))]) (c_mheld l E (va_up σ 22 (r)) τ ((Int32.toInt64 (r 0)) + (((Int32.toInt64 (r 1)) - (Int32.toInt64 (r 0))) / 10)) (-99999) 99999) ks_X8_86 ⟨Nat.le_of_ble_eq_true rfl, Nat.le_of_ble_eq_true rfl⟩ rfl rfl (Nat.le_of_ble_eq_true rfl) dX8_briefly_45 ?_
  refine x_ast C (σ' := va_up σ 22 (upd r 0 (heldL ((Int32.toInt64 (r 0)) + (((Int32.toInt64 (r 1)) - (Int32.toInt64 (r 0))) / 10)) (-99999) 99999))) (Nat.le_of_ble_eq_true rfl) xd_89 (by decide) (vp_in_nI (show 0 < 3 by omega) (by decide)) (by rw [(show (0 : Int32).toNatClampNeg = 0 from by decide), Nat.zero_add, Nat.one_mul]; exact (u2_bank _ _ _ _ _)) dX8_briefly_48 ?_
  refine x_aload_n C 3 dX8_briefly_49 rfl rfl ?_
  refine x_get C (Nat.le_of_ble_eq_true rfl) xd_81 fl_X8_31 (q := (0, 89, 0)) (v := .ref (xad E (89))) rfl rfl dX8_briefly_50 ?_
  refine x_iconst C (v := 1) dX8_briefly_53 (by decide) ?_
  refine x_lload_n C 1 dX8_briefly_54 rfl rfl ?_
  refine x_lload_n C 2 dX8_briefly_55 rfl rfl ?_
  refine x_ldc2 C dX8_briefly_56 kc_X8_261 ?_
  refine x_lload C 0 dX8_briefly_59 rfl ?_
  refine x_lsub C dX8_briefly_61 ?_
  refine x_lmul C dX8_briefly_62 ?_
  refine x_ldc2 C dX8_briefly_63 kc_X8_111 ?_
  refine x_ldiv C dX8_briefly_66 (by decide) ?_
  refine x_lload_n C 1 dX8_briefly_67 rfl rfl ?_
  refine x_lsub C dX8_briefly_68 ?_
  refine x_ldc2 C dX8_briefly_69 kc_X8_111 ?_
  refine x_ldiv C dX8_briefly_72 (by decide) ?_
  refine x_ladd C dX8_briefly_73 ?_
  refine x_ldcw C dX8_briefly_74 kc_X8_259 ?_
  refine x_ldcw C dX8_briefly_77 kc_X8_260 ?_
  refine x_callSi C (As := [.long ((Int32.toInt64 (r 1)) + (((((Int32.toInt64 (r 0)) * (2800 - (Int32.toInt64 (r 2)))) / 100) - (Int32.toInt64 (r 1))) / 100)), .int ((-99999)), .int (99999)]) (rest := [.int (1), .ref (xad E (89))]) (c_mheld l E (va_up σ 22 (upd r 0 (heldL ((Int32.toInt64 (r 0)) + (((Int32.toInt64 (r 1)) - (Int32.toInt64 (r 0))) / 10)) (-99999) 99999))) τ ((Int32.toInt64 (r 1)) + (((((Int32.toInt64 (r 0)) * (2800 - (Int32.toInt64 (r 2)))) / 100) - (Int32.toInt64 (r 1))) / 100)) (-99999) 99999) ks_X8_86 ⟨Nat.le_of_ble_eq_true rfl, Nat.le_of_ble_eq_true rfl⟩ rfl rfl (Nat.le_of_ble_eq_true rfl) dX8_briefly_80 ?_
  refine x_ast C (σ' := va_up σ 22 (upd (upd r 0 (heldL ((Int32.toInt64 (r 0)) + (((Int32.toInt64 (r 1)) - (Int32.toInt64 (r 0))) / 10)) (-99999) 99999)) 1 (heldL ((Int32.toInt64 (r 1)) + (((((Int32.toInt64 (r 0)) * (2800 - (Int32.toInt64 (r 2)))) / 100) - (Int32.toInt64 (r 1))) / 100)) (-99999) 99999))) (Nat.le_of_ble_eq_true rfl) xd_89 (by decide) (vp_in_nI (show 1 < 3 by omega) (by decide)) (by rw [(show (1 : Int32).toNatClampNeg = 1 from by decide), Nat.zero_add, Nat.one_mul]; exact (u2_bank _ _ _ _ _)) dX8_briefly_83 ?_
  refine x_aload_n C 3 dX8_briefly_84 rfl rfl ?_
  refine x_get C (Nat.le_of_ble_eq_true rfl) xd_81 fl_X8_31 (q := (0, 89, 0)) (v := .ref (xad E (89))) rfl rfl dX8_briefly_85 ?_
  refine x_iconst C (v := 2) dX8_briefly_88 (by decide) ?_
  refine x_lload C 0 dX8_briefly_89 rfl ?_
  refine x_lload_n C 2 dX8_briefly_91 rfl rfl ?_
  refine x_lload_n C 1 dX8_briefly_92 rfl rfl ?_
  refine x_lmul C dX8_briefly_93 ?_
  refine x_ldc2 C dX8_briefly_94 kc_X8_111 ?_
  refine x_ldiv C dX8_briefly_97 (by decide) ?_
  refine x_ldc2 C dX8_briefly_98 kc_X8_263 ?_
  refine x_lload C 0 dX8_briefly_101 rfl ?_
  refine x_lmul C dX8_briefly_103 ?_
  refine x_ldc2 C dX8_briefly_104 kc_X8_233 ?_
  refine x_ldiv C dX8_briefly_107 (by decide) ?_
  refine x_lsub C dX8_briefly_108 ?_
  refine x_ldc2 C dX8_briefly_109 kc_X8_111 ?_
  refine x_ldiv C dX8_briefly_112 (by decide) ?_
  refine x_ladd C dX8_briefly_113 ?_
  refine x_ldcw C dX8_briefly_114 kc_X8_259 ?_
  refine x_ldcw C dX8_briefly_117 kc_X8_260 ?_
  refine x_callSi C (As := [.long ((Int32.toInt64 (r 2)) + (((((Int32.toInt64 (r 0)) * (Int32.toInt64 (r 1))) / 100) - ((8 * (Int32.toInt64 (r 2))) / 3)) / 100)), .int ((-99999)), .int (99999)]) (rest := [.int (2), .ref (xad E (89))]) (c_mheld l E (va_up σ 22 (upd (upd r 0 (heldL ((Int32.toInt64 (r 0)) + (((Int32.toInt64 (r 1)) - (Int32.toInt64 (r 0))) / 10)) (-99999) 99999)) 1 (heldL ((Int32.toInt64 (r 1)) + (((((Int32.toInt64 (r 0)) * (2800 - (Int32.toInt64 (r 2)))) / 100) - (Int32.toInt64 (r 1))) / 100)) (-99999) 99999))) τ ((Int32.toInt64 (r 2)) + (((((Int32.toInt64 (r 0)) * (Int32.toInt64 (r 1))) / 100) - ((8 * (Int32.toInt64 (r 2))) / 3)) / 100)) (-99999) 99999) ks_X8_86 ⟨Nat.le_of_ble_eq_true rfl, Nat.le_of_ble_eq_true rfl⟩ rfl rfl (Nat.le_of_ble_eq_true rfl) dX8_briefly_120 ?_
  refine x_ast C (σ' := va_up σ 22 (upd (upd (upd r 0 (heldL ((Int32.toInt64 (r 0)) + (((Int32.toInt64 (r 1)) - (Int32.toInt64 (r 0))) / 10)) (-99999) 99999)) 1 (heldL ((Int32.toInt64 (r 1)) + (((((Int32.toInt64 (r 0)) * (2800 - (Int32.toInt64 (r 2)))) / 100) - (Int32.toInt64 (r 1))) / 100)) (-99999) 99999)) 2 (heldL ((Int32.toInt64 (r 2)) + (((((Int32.toInt64 (r 0)) * (Int32.toInt64 (r 1))) / 100) - ((8 * (Int32.toInt64 (r 2))) / 3)) / 100)) (-99999) 99999))) (Nat.le_of_ble_eq_true rfl) xd_89 (by decide) (vp_in_nI (show 2 < 3 by omega) (by decide)) (by rw [(show (2 : Int32).toNatClampNeg = 2 from by decide), Nat.zero_add, Nat.one_mul]; exact (u2_bank _ _ _ _ _)) dX8_briefly_123 ?_
  exact x_vret C rfl rfl dX8_briefly_124
set_option maxHeartbeats 4000000 in
set_option maxRecDepth 100000 in
theorem k_brief (l : Launch) (E : xE) (σ : Nat → Nat → Int32) (τ : Nat → Int64) (T : Nat) (hT : T < 1073741824) (x y n which : Int32) (hI : Inv (cv σ) T) : xOi l yX7_brief cX7_brief 6 .int 3 70 E [.ref (xad E (0)), .int (x), .int (y), .int (n), .int (which)] σ τ (cpost (sp_brief x y n which (cv σ)) σ) := by
  refine xOi_of (own := RX7) (by decide +kernel) rfl (Nat.le_of_ble_eq_true rfl) ?_
  intro zp ze zs zm za zb zh zc C
  refine WM.to (lv1 := [(0, .ref (xad E (0))), (1, .int (x)), (2, .int (y)), (3, .int (n)), (4, .int (which))]) (st1 := []) (σ1 := σ) (τ1 := τ) ?_ rfl rfl rfl rfl
  have hg : gI (σ 0) := hI.g
  have hgT : gT (σ 0) T := hI.t
  have h0 : 0 ≤ (σ 0 10).toInt := hI.h0
  refine x_iload_n C 1 dX7_brief_0 rfl rfl ?_
  refine x_iload_n C 2 dX7_brief_1 rfl rfl ?_
  refine x_iload_n C 3 dX7_brief_2 rfl rfl ?_
  refine x_callSi C (As := [.int (x), .int (y), .int (n)]) (rest := []) (c_isRule l E σ τ x y n) ks_X7_222 ⟨Nat.le_of_ble_eq_true rfl, Nat.le_of_ble_eq_true rfl⟩ rfl rfl (Nat.le_of_ble_eq_true rfl) dX7_brief_3 ?_
  refine x_ifeqB C (tgt := 19) dX7_brief_6 (by decide) (fun h1 => ?_) (fun h1 => ?_)
  · refine x_aload_n C 0 dX7_brief_19 rfl rfl ?_
    refine x_ldc C dX7_brief_20 kc_X7_63 ?_
    refine x_callVi C (As := [.int ((-1000001))]) (rest := []) (c_finding l E σ τ 0 (by decide) (-1000001) (by decide)) kv_X7_64 (x_recv C (Nat.le_of_ble_eq_true rfl) xd_0 rfl) ⟨Nat.le_of_ble_eq_true rfl, Nat.le_of_ble_eq_true rfl⟩ rfl rfl (Nat.le_of_ble_eq_true rfl) dX7_brief_22 ?_
    exact x_oret C (cpost_of (V := u2 (cv σ) 2 0 (σ 4 0 + 1)) (if_neg (by first | assumption | ((try simp only [rng, mayQ, tI_lt, tI_eq, cvr_0, mvr_0, cvr_c, mvr_c, ruleQ, tn_999, tl_200, tl_999, tl_0, tl_1, tl_2, tl_3, tl_4, tl_5, tl_6, tl_7, tl_8, tl_9, tl_10, tl_11, tl_12, tl_13, tl_99] at h1 ⊢) <;> omega))) (by rw [cv_u4]) (by rw [mv_u4]) rfl) dX7_brief_25
  · refine x_iload C 4 dX7_brief_9 rfl ?_
    refine x_iconst C (v := 0) dX7_brief_11 (by decide) ?_
    refine x_iconst C (v := 2) dX7_brief_12 (by decide) ?_
    refine x_callSi C (As := [.int (which), .int (0), .int (2)]) (rest := []) (c_within l E σ τ which 0 2) ks_X7_59 ⟨Nat.le_of_ble_eq_true rfl, Nat.le_of_ble_eq_true rfl⟩ rfl rfl (Nat.le_of_ble_eq_true rfl) dX7_brief_13 ?_
    refine x_ifneB C (tgt := 26) dX7_brief_16 (by decide) (fun h2 => ?_) (fun h2 => ?_)
    · obtain ⟨q, hqa, hqb, rfl⟩ := rngN (a := 0) (b := 200) h1.2.2 (by decide) (by decide) (by decide)
      refine x_aload_n C 0 dX7_brief_26 rfl rfl ?_
      refine x_get C (Nat.le_of_ble_eq_true rfl) xd_0 fl_X7_50 (q := (0, 71, 0)) (v := .ref (xad E (71))) rfl rfl dX7_brief_27 ?_
      refine x_iload_n C 1 dX7_brief_30 rfl rfl ?_
      refine x_iload_n C 2 dX7_brief_31 rfl rfl ?_
      refine x_callVv C (As := [.int (x), .int (y)]) (rest := []) (c_rbegin l E σ τ x y) kv_X7_225 (x_recv C (Nat.le_of_ble_eq_true rfl) xd_71 rfl) ⟨Nat.le_of_ble_eq_true rfl, Nat.le_of_ble_eq_true rfl⟩ rfl rfl (Nat.le_of_ble_eq_true rfl) dX7_brief_32 ?_
      refine x_iconst C (v := 0) dX7_brief_35 (by decide) ?_
      refine x_istore C (lv1 := [(5, .int (0)), (0, .ref (xad E (0))), (1, .int (x)), (2, .int (y)), (3, .int (nI q)), (4, .int (which))]) dX7_brief_36 (by decide) rfl ?_
      have loop : ∀ (j k : Nat), j + k = q → WM zp l ze { frames := 3, cells := 0, slots := 0, locals := 70 } zs zm za zb zh zc 0 0 (MQ zb (va_Qi (fun r (u : xV × (Nat → Int64)) => (cpost (sp_brief x y (nI q) which (cv σ)) σ) r u.1) (fun u t => xP E u.1 u.2 t.heap) (xA E)) za zs 0 0 (xA E)) E (xA E) 6 (σ) (t3 τ (brN x y k)) 38 [(0, .ref (xad E (0))), (3, .int (nI q)), (4, .int (which)), (5, .int (nI k))] [] := by
        intro j
        induction j with
        | zero =>
          intro k hk
          refine x_iload C 3 dX7_brief_38 rfl ?_
          refine x_iload_n C 1 dX7_brief_40 rfl rfl ?_
          refine x_icmp_ge C (tgt := 57) dX7_brief_41 (by decide) (fun h3 => ?_) (fun h3 => absurd h3 (nI_nlt (a := k) (b := q) (by omega) (by omega)))
          refine x_iload C 2 dX7_brief_57 rfl ?_
          by_cases t4 : which = 0
          · refine WM.topi (y := 0) t4 ?_
            refine x_lookup C (off := 25) (tgt := 84) dX7_brief_59 (by decide) (by decide) (by decide) ?_
            refine x_aload_n C 0 dX7_brief_84 rfl rfl ?_
            refine x_get C (Nat.le_of_ble_eq_true rfl) xd_0 fl_X7_50 (q := (0, 71, 0)) (v := .ref (xad E (71))) rfl rfl dX7_brief_85 ?_
            refine x_get C (Nat.le_of_ble_eq_true rfl) xd_71 fl_X7_232 (q := (2, 0, 0)) (v := .long (Int32.toInt64 (brN x y k 0))) rfl (congrArg Value.long (t3_0 _ _)) dX7_brief_88 ?_
            refine x_l2i C dX7_brief_91 ?_
            refine WM.topi (y := brN x y k 0) (Int32.toInt32_toInt64 _) ?_
            exact x_oret C (cpost_of (V := cv σ) (Eq.trans (if_pos (by first | assumption | ((try simp only [rng, mayQ, tI_lt, tI_eq, cvr_0, mvr_0, cvr_c, mvr_c, ruleQ, tn_999, tl_200, tl_999, tl_0, tl_1, tl_2, tl_3, tl_4, tl_5, tl_6, tl_7, tl_8, tl_9, tl_10, tl_11, tl_12, tl_13, tl_99] at h1 h2 ⊢) <;> omega))) (by rw [show which = 0 from t4]; unfold briefS; rw [nI_clamp (by omega)]; obtain rfl : k = q := (by omega); rfl)) rfl rfl rfl) dX7_brief_92
          · by_cases t5 : which = 1
            · refine WM.topi (y := 1) t5 ?_
              refine x_lookup C (off := 34) (tgt := 93) dX7_brief_59 (by decide) (by decide) (by decide) ?_
              refine x_aload_n C 0 dX7_brief_93 rfl rfl ?_
              refine x_get C (Nat.le_of_ble_eq_true rfl) xd_0 fl_X7_50 (q := (0, 71, 0)) (v := .ref (xad E (71))) rfl rfl dX7_brief_94 ?_
              refine x_get C (Nat.le_of_ble_eq_true rfl) xd_71 fl_X7_236 (q := (2, 1, 0)) (v := .long (Int32.toInt64 (brN x y k 1))) rfl (congrArg Value.long (t3_1 _ _)) dX7_brief_97 ?_
              refine x_l2i C dX7_brief_100 ?_
              refine WM.topi (y := brN x y k 1) (Int32.toInt32_toInt64 _) ?_
              exact x_oret C (cpost_of (V := cv σ) (Eq.trans (if_pos (by first | assumption | ((try simp only [rng, mayQ, tI_lt, tI_eq, cvr_0, mvr_0, cvr_c, mvr_c, ruleQ, tn_999, tl_200, tl_999, tl_0, tl_1, tl_2, tl_3, tl_4, tl_5, tl_6, tl_7, tl_8, tl_9, tl_10, tl_11, tl_12, tl_13, tl_99] at h1 h2 ⊢) <;> omega))) (by rw [show which = 1 from t5]; unfold briefS; rw [nI_clamp (by omega)]; obtain rfl : k = q := (by omega); rfl)) rfl rfl rfl) dX7_brief_101
            · refine x_lookup C (off := 43) (tgt := 102) dX7_brief_59 (by decide) (by show Op.lookupswitch.offset [(0, 25), (1, 34)] 43 (Int32.toInt which) = 43; rw [lv_osw t4 (by decide), lv_osw t5 (by decide)]; rfl) (by decide) ?_
              refine x_aload_n C 0 dX7_brief_102 rfl rfl ?_
              refine x_get C (Nat.le_of_ble_eq_true rfl) xd_0 fl_X7_50 (q := (0, 71, 0)) (v := .ref (xad E (71))) rfl rfl dX7_brief_103 ?_
              refine x_get C (Nat.le_of_ble_eq_true rfl) xd_71 fl_X7_239 (q := (2, 2, 0)) (v := .long (Int32.toInt64 (brN x y k 2))) rfl (congrArg Value.long (t3_2 _ _)) dX7_brief_106 ?_
              refine x_l2i C dX7_brief_109 ?_
              refine WM.topi (y := brN x y k 2) (Int32.toInt32_toInt64 _) ?_
              exact x_oret C (cpost_of (V := cv σ) (Eq.trans (if_pos (by first | assumption | ((try simp only [rng, mayQ, tI_lt, tI_eq, cvr_0, mvr_0, cvr_c, mvr_c, ruleQ, tn_999, tl_200, tl_999, tl_0, tl_1, tl_2, tl_3, tl_4, tl_5, tl_6, tl_7, tl_8, tl_9, tl_10, tl_11, tl_12, tl_13, tl_99] at h1 h2 ⊢) <;> omega))) (by rw [show which = 2 from (which2 (by assumption) t4 t5)]; unfold briefS; rw [nI_clamp (by omega)]; obtain rfl : k = q := (by omega); rfl)) rfl rfl rfl) dX7_brief_110
        | succ j ih =>
          intro k hk
          refine x_iload C 3 dX7_brief_38 rfl ?_
          refine x_iload_n C 1 dX7_brief_40 rfl rfl ?_
          refine x_icmp_ge C (tgt := 57) dX7_brief_41 (by decide) (fun h6 => absurd (nI_lt (a := k) (b := q) (by omega) (by omega)) h6) (fun h6 => ?_)
          refine x_aload_n C 0 dX7_brief_44 rfl rfl ?_
          refine x_get C (Nat.le_of_ble_eq_true rfl) xd_0 fl_X7_50 (q := (0, 71, 0)) (v := .ref (xad E (71))) rfl rfl dX7_brief_45 ?_
          refine x_callVv C (As := []) (rest := []) (c_rapply l E σ τ (brN x y k)) kv_X7_229 (x_recv C (Nat.le_of_ble_eq_true rfl) xd_71 rfl) ⟨Nat.le_of_ble_eq_true rfl, Nat.le_of_ble_eq_true rfl⟩ rfl rfl (Nat.le_of_ble_eq_true rfl) dX7_brief_48 ?_
          refine x_iinc C (v := nI (k + 1)) (lv1 := [(5, .int (nI (k + 1))), (0, .ref (xad E (0))), (3, .int (nI q)), (4, .int (which))]) 3 dX7_brief_51 rfl (nI_add k 1) (by decide) rfl ?_
          refine x_goto2 C (tgt := 38) dX7_brief_54 (by decide) ?_
          refine WM.keep [1, 2, 3, 0] (lv' := [(0, .ref (xad E (0))), (3, .int (nI q)), (4, .int (which)), (5, .int (nI (k + 1)))]) rfl ?_
          exact WM.to (ih (k + 1) (by omega)) rfl rfl rfl rfl
      refine WM.keep [1, 4, 5, 0] rfl ?_
      exact WM.to (loop (q) 0 (by omega)) rfl rfl rfl rfl
    · refine x_aload_n C 0 dX7_brief_19 rfl rfl ?_
      refine x_ldc C dX7_brief_20 kc_X7_63 ?_
      refine x_callVi C (As := [.int ((-1000001))]) (rest := []) (c_finding l E σ τ 0 (by decide) (-1000001) (by decide)) kv_X7_64 (x_recv C (Nat.le_of_ble_eq_true rfl) xd_0 rfl) ⟨Nat.le_of_ble_eq_true rfl, Nat.le_of_ble_eq_true rfl⟩ rfl rfl (Nat.le_of_ble_eq_true rfl) dX7_brief_22 ?_
      exact x_oret C (cpost_of (V := u2 (cv σ) 2 0 (σ 4 0 + 1)) (if_neg (by first | assumption | ((try simp only [rng, mayQ, tI_lt, tI_eq, cvr_0, mvr_0, cvr_c, mvr_c, ruleQ, tn_999, tl_200, tl_999, tl_0, tl_1, tl_2, tl_3, tl_4, tl_5, tl_6, tl_7, tl_8, tl_9, tl_10, tl_11, tl_12, tl_13, tl_99] at h1 h2 ⊢) <;> omega))) (by rw [cv_u4]) (by rw [mv_u4]) rfl) dX7_brief_25
set_option maxHeartbeats 4000000 in
set_option maxRecDepth 100000 in
theorem m_brief (l : Launch) (E : xE) (σ : Nat → Nat → Int32) (τ : Nat → Int64) (T : Nat) (hT : T < 1073741824) (x y n which : Int32) (hI : Inv (mv σ) T) (hlv : ∀ j, j < 12 → σ 15 j = (xzl 1).getD j 0) : xOi l yX8_brief cX8_brief 6 .int 2 49 E [.ref (xad E (81)), .int (x), .int (y), .int (n), .int (which)] σ τ (mpost (sp_brief x y n which (mv σ)) σ) := by
  refine xOi_of (own := RX8) (by decide +kernel) rfl (Nat.le_of_ble_eq_true rfl) ?_
  intro zp ze zs zm za zb zh zc C
  refine WM.to (lv1 := [(0, .ref (xad E (81))), (1, .int (x)), (2, .int (y)), (3, .int (n)), (4, .int (which))]) (st1 := []) (σ1 := σ) (τ1 := τ) ?_ rfl rfl rfl rfl
  have hg : gI (σ 10) := hI.g
  have hgT : gT (σ 10) T := hI.t
  have h0 : 0 ≤ (σ 10 10).toInt := hI.h0
  refine x_iload_n C 1 dX8_brief_0 rfl rfl ?_
  refine x_iload_n C 2 dX8_brief_1 rfl rfl ?_
  refine x_iload_n C 3 dX8_brief_2 rfl rfl ?_
  refine x_callSi C (As := [.int (x), .int (y), .int (n)]) (rest := []) (c_isBrief l E σ τ x y n) ks_X8_267 ⟨Nat.le_of_ble_eq_true rfl, Nat.le_of_ble_eq_true rfl⟩ rfl rfl (Nat.le_of_ble_eq_true rfl) dX8_brief_3 ?_
  refine x_ifeqB C (tgt := 22) dX8_brief_6 (by decide) (fun h1 => ?_) (fun h1 => ?_)
  · refine x_aload_n C 0 dX8_brief_22 rfl rfl ?_
    refine x_ldc C dX8_brief_23 kc_X8_46 ?_
    refine x_callVi C (As := [.int ((-1000001))]) (rest := []) (c_finds l E σ τ 0 (by decide) (-1000001) (by decide)) kv_X8_61 (x_recv C (Nat.le_of_ble_eq_true rfl) xd_81 rfl) ⟨Nat.le_of_ble_eq_true rfl, Nat.le_of_ble_eq_true rfl⟩ rfl rfl (Nat.le_of_ble_eq_true rfl) dX8_brief_25 ?_
    exact x_oret C (mpost_of (V := u2 (mv σ) 2 0 (σ 14 0 + 1)) (if_neg (by first | assumption | ((try simp only [rng, mayQ, tI_lt, tI_eq, cvr_0, mvr_0, cvr_c, mvr_c, ruleQ, tn_999, tl_200, tl_999, tl_0, tl_1, tl_2, tl_3, tl_4, tl_5, tl_6, tl_7, tl_8, tl_9, tl_10, tl_11, tl_12, tl_13, tl_99] at h1 ⊢) <;> omega))) (by rw [mv_u14]) (by rw [cv_u14]) rfl) dX8_brief_28
  · refine x_iload C 4 dX8_brief_9 rfl ?_
    refine x_i2l C dX8_brief_11 ?_
    refine x_lconst C (v := 0) dX8_brief_12 (by decide) ?_
    refine x_ldc2 C dX8_brief_13 kc_X8_55 ?_
    refine x_callSi C (As := [.long (Int32.toInt64 which), .long (0), .long (2)]) (rest := []) (c_in l E σ τ (Int32.toInt64 which) 0 2) ks_X8_49 ⟨Nat.le_of_ble_eq_true rfl, Nat.le_of_ble_eq_true rfl⟩ rfl rfl (Nat.le_of_ble_eq_true rfl) dX8_brief_16 ?_
    refine WM.topi (y := if rng which 0 2 then 1 else 0) (in_eq which 0 2 (by decide) (by decide)) ?_
    refine x_ifneB C (tgt := 29) dX8_brief_19 (by decide) (fun h2 => ?_) (fun h2 => ?_)
    · obtain ⟨q, hqa, hqb, rfl⟩ := rngN (a := 0) (b := 200) h1.2.2 (by decide) (by decide) (by decide)
      obtain ⟨wq, hwa, hwb, rfl⟩ := rngN (a := 0) (b := 2) h2 (by decide) (by decide) (by decide)
      refine x_aload_n C 0 dX8_brief_29 rfl rfl ?_
      refine x_iload_n C 1 dX8_brief_30 rfl rfl ?_
      refine x_iload_n C 2 dX8_brief_31 rfl rfl ?_
      refine WM.to (σ1 := va_up σ 22 (σ 22)) ?_ (xself _ _).symm rfl rfl rfl
      refine x_callVv C (As := [.int (x), .int (y)]) (rest := []) (c_begins l E σ τ (σ 22) x y) kv_X8_271 (x_recv C (Nat.le_of_ble_eq_true rfl) xd_81 rfl) ⟨Nat.le_of_ble_eq_true rfl, Nat.le_of_ble_eq_true rfl⟩ rfl rfl (Nat.le_of_ble_eq_true rfl) dX8_brief_32 ?_
      refine x_iconst C (v := 0) dX8_brief_35 (by decide) ?_
      refine x_istore C (lv1 := [(5, .int (0)), (0, .ref (xad E (81))), (1, .int (x)), (2, .int (y)), (3, .int (nI q)), (4, .int (nI wq))]) dX8_brief_36 (by decide) rfl ?_
      have loop : ∀ (j k : Nat), j + k = q → WM zp l ze { frames := 2, cells := 0, slots := 0, locals := 49 } zs zm za zb zh zc 0 0 (MQ zb (va_Qi (fun r (u : xV × (Nat → Int64)) => (mpost (sp_brief x y (nI q) (nI wq) (mv σ)) σ) r u.1) (fun u t => xP E u.1 u.2 t.heap) (xA E)) za zs 0 0 (xA E)) E (xA E) 6 (va_up σ 22 (brN x y k)) (τ) 38 [(0, .ref (xad E (81))), (3, .int (nI q)), (4, .int (nI wq)), (5, .int (nI k))] [] := by
        intro j
        induction j with
        | zero =>
          intro k hk
          refine x_iload C 3 dX8_brief_38 rfl ?_
          refine x_iload_n C 1 dX8_brief_40 rfl rfl ?_
          refine x_icmp_ge C (tgt := 54) dX8_brief_41 (by decide) (fun h3 => ?_) (fun h3 => absurd h3 (nI_nlt (a := k) (b := q) (by omega) (by omega)))
          refine x_aload_n C 0 dX8_brief_54 rfl rfl ?_
          refine x_get C (Nat.le_of_ble_eq_true rfl) xd_81 fl_X8_31 (q := (0, 89, 0)) (v := .ref (xad E (89))) rfl rfl dX8_brief_55 ?_
          refine x_iload C 2 dX8_brief_58 rfl ?_
          refine x_ald C (Nat.le_of_ble_eq_true rfl) xd_89 (v := (brN x y k) wq) (vp_in_nI (show wq < 3 by omega) (by decide)) (by rw [(nI_clamp (show wq < 2 ^ 31 by omega)), Nat.zero_add, Nat.one_mul]; exact (congrFun (va_up_self _ _ _) _)) dX8_brief_60 ?_
          exact x_oret C (mpost_of (V := mv σ) (Eq.trans (if_pos (by first | assumption | ((try simp only [rng, mayQ, tI_lt, tI_eq, cvr_0, mvr_0, cvr_c, mvr_c, ruleQ, tn_999, tl_200, tl_999, tl_0, tl_1, tl_2, tl_3, tl_4, tl_5, tl_6, tl_7, tl_8, tl_9, tl_10, tl_11, tl_12, tl_13, tl_99] at h1 h2 ⊢) <;> omega))) (by unfold briefS; rw [nI_clamp (by omega), nI_clamp (by omega)]; obtain rfl : k = q := (by omega); rfl)) (by rw [mv_v22]) (by rw [cv_v22]) rfl) dX8_brief_61
        | succ j ih =>
          intro k hk
          refine x_iload C 3 dX8_brief_38 rfl ?_
          refine x_iload_n C 1 dX8_brief_40 rfl rfl ?_
          refine x_icmp_ge C (tgt := 54) dX8_brief_41 (by decide) (fun h4 => absurd (nI_lt (a := k) (b := q) (by omega) (by omega)) h4) (fun h4 => ?_)
          refine x_aload_n C 0 dX8_brief_44 rfl rfl ?_
          refine x_callVv C (As := []) (rest := []) (c_briefly l E σ τ (brN x y k)) kv_X8_274 (x_recv C (Nat.le_of_ble_eq_true rfl) xd_81 rfl) ⟨Nat.le_of_ble_eq_true rfl, Nat.le_of_ble_eq_true rfl⟩ rfl rfl (Nat.le_of_ble_eq_true rfl) dX8_brief_45 ?_
          refine x_iinc C (v := nI (k + 1)) (lv1 := [(5, .int (nI (k + 1))), (0, .ref (xad E (81))), (3, .int (nI q)), (4, .int (nI wq))]) 3 dX8_brief_48 rfl (nI_add k 1) (by decide) rfl ?_
          refine x_goto2 C (tgt := 38) dX8_brief_51 (by decide) ?_
          refine WM.keep [1, 2, 3, 0] (lv' := [(0, .ref (xad E (81))), (3, .int (nI q)), (4, .int (nI wq)), (5, .int (nI (k + 1)))]) rfl ?_
          exact WM.to (ih (k + 1) (by omega)) rfl rfl rfl rfl
      refine WM.keep [1, 4, 5, 0] rfl ?_
      exact WM.to (loop (q) 0 (by omega)) rfl rfl rfl rfl
    · refine x_aload_n C 0 dX8_brief_22 rfl rfl ?_
      refine x_ldc C dX8_brief_23 kc_X8_46 ?_
      refine x_callVi C (As := [.int ((-1000001))]) (rest := []) (c_finds l E σ τ 0 (by decide) (-1000001) (by decide)) kv_X8_61 (x_recv C (Nat.le_of_ble_eq_true rfl) xd_81 rfl) ⟨Nat.le_of_ble_eq_true rfl, Nat.le_of_ble_eq_true rfl⟩ rfl rfl (Nat.le_of_ble_eq_true rfl) dX8_brief_25 ?_
      exact x_oret C (mpost_of (V := u2 (mv σ) 2 0 (σ 14 0 + 1)) (if_neg (by first | assumption | ((try simp only [rng, mayQ, tI_lt, tI_eq, cvr_0, mvr_0, cvr_c, mvr_c, ruleQ, tn_999, tl_200, tl_999, tl_0, tl_1, tl_2, tl_3, tl_4, tl_5, tl_6, tl_7, tl_8, tl_9, tl_10, tl_11, tl_12, tl_13, tl_99] at h1 h2 ⊢) <;> omega))) (by rw [mv_u14]) (by rw [cv_u14]) rfl) dX8_brief_28
set_option maxHeartbeats 4000000 in
set_option maxRecDepth 100000 in
theorem k_flips (l : Launch) (E : xE) (σ : Nat → Nat → Int32) (τ : Nat → Int64) (T : Nat) (hT : T < 1073741824) (x y n : Int32) (hI : Inv (cv σ) T) : xOi l yX7_flips cX7_flips 8 .int 3 70 E [.ref (xad E (0)), .int (x), .int (y), .int (n)] σ τ (cpost (sp_flips x y n (cv σ)) σ) := by
  refine xOi_of (own := RX7) (by decide +kernel) rfl (Nat.le_of_ble_eq_true rfl) ?_
  intro zp ze zs zm za zb zh zc C
  refine WM.to (lv1 := [(0, .ref (xad E (0))), (1, .int (x)), (2, .int (y)), (3, .int (n))]) (st1 := []) (σ1 := σ) (τ1 := τ) ?_ rfl rfl rfl rfl
  have hg : gI (σ 0) := hI.g
  have hgT : gT (σ 0) T := hI.t
  have h0 : 0 ≤ (σ 0 10).toInt := hI.h0
  refine x_iload_n C 1 dX7_flips_0 rfl rfl ?_
  refine x_iload_n C 2 dX7_flips_1 rfl rfl ?_
  refine x_iload_n C 3 dX7_flips_2 rfl rfl ?_
  refine x_callSi C (As := [.int (x), .int (y), .int (n)]) (rest := []) (c_isRule l E σ τ x y n) ks_X7_222 ⟨Nat.le_of_ble_eq_true rfl, Nat.le_of_ble_eq_true rfl⟩ rfl rfl (Nat.le_of_ble_eq_true rfl) dX7_flips_3 ?_
  refine x_ifneB C (tgt := 16) dX7_flips_6 (by decide) (fun h1 => ?_) (fun h1 => ?_)
  · obtain ⟨q, hqa, hqb, rfl⟩ := rngN (a := 0) (b := 200) h1.2.2 (by decide) (by decide) (by decide)
    refine x_aload_n C 0 dX7_flips_16 rfl rfl ?_
    refine x_get C (Nat.le_of_ble_eq_true rfl) xd_0 fl_X7_50 (q := (0, 71, 0)) (v := .ref (xad E (71))) rfl rfl dX7_flips_17 ?_
    refine x_iload_n C 1 dX7_flips_20 rfl rfl ?_
    refine x_iload_n C 2 dX7_flips_21 rfl rfl ?_
    refine x_callVv C (As := [.int (x), .int (y)]) (rest := []) (c_rbegin l E σ τ x y) kv_X7_225 (x_recv C (Nat.le_of_ble_eq_true rfl) xd_71 rfl) ⟨Nat.le_of_ble_eq_true rfl, Nat.le_of_ble_eq_true rfl⟩ rfl rfl (Nat.le_of_ble_eq_true rfl) dX7_flips_22 ?_
    refine x_aload_n C 0 dX7_flips_25 rfl rfl ?_
    refine x_get C (Nat.le_of_ble_eq_true rfl) xd_0 fl_X7_50 (q := (0, 71, 0)) (v := .ref (xad E (71))) rfl rfl dX7_flips_26 ?_
    refine x_get C (Nat.le_of_ble_eq_true rfl) xd_71 fl_X7_232 (q := (2, 0, 0)) (v := .long (Int32.toInt64 (brN x y 0 0))) rfl (congrArg Value.long (t3_0 _ _)) dX7_flips_29 ?_
    refine x_lconst C (v := 0) dX7_flips_32 (by decide) ?_
    refine x_callSi C (As := [.long (Int32.toInt64 (brN x y 0 0)), .long (0)]) (rest := []) (c_Lcmp l E σ (t3 τ (brB x y)) (Int32.toInt64 (brN x y 0 0)) 0) ks_X7_242 ⟨Nat.le_of_ble_eq_true rfl, Nat.le_of_ble_eq_true rfl⟩ rfl rfl (Nat.le_of_ble_eq_true rfl) dX7_flips_33 ?_
    refine WM.topi (y := sgn (brN x y 0 0)) (cmpL_sgn _) ?_
    refine x_istore C (lv1 := [(4, .int (sgn (brN x y 0 0))), (0, .ref (xad E (0))), (1, .int (x)), (2, .int (y)), (3, .int (nI q))]) dX7_flips_36 (by decide) rfl ?_
    refine x_iconst C (v := 0) dX7_flips_38 (by decide) ?_
    refine x_istore C (lv1 := [(5, .int (0)), (4, .int (sgn (brN x y 0 0))), (0, .ref (xad E (0))), (1, .int (x)), (2, .int (y)), (3, .int (nI q))]) dX7_flips_39 (by decide) rfl ?_
    refine x_iconst C (v := 0) dX7_flips_41 (by decide) ?_
    refine x_istore C (lv1 := [(6, .int (0)), (5, .int (0)), (4, .int (sgn (brN x y 0 0))), (0, .ref (xad E (0))), (1, .int (x)), (2, .int (y)), (3, .int (nI q))]) dX7_flips_42 (by decide) rfl ?_
    have loop : ∀ (j k : Nat), j + k = q → WM zp l ze { frames := 3, cells := 0, slots := 0, locals := 70 } zs zm za zb zh zc 0 0 (MQ zb (va_Qi (fun r (u : xV × (Nat → Int64)) => (cpost (sp_flips x y (nI q) (cv σ)) σ) r u.1) (fun u t => xP E u.1 u.2 t.heap) (xA E)) za zs 0 0 (xA E)) E (xA E) 8 (σ) (t3 τ (brN x y k)) 44 [(0, .ref (xad E (0))), (3, .int (nI q)), (4, .int (sgN x y k)), (5, .int (flN x y k)), (6, .int (nI k))] [] := by
      intro j
      induction j with
      | zero =>
        intro k hk
        refine x_iload C 4 dX7_flips_44 rfl ?_
        refine x_iload_n C 1 dX7_flips_46 rfl rfl ?_
        refine x_icmp_ge C (tgt := 96) dX7_flips_47 (by decide) (fun h2 => ?_) (fun h2 => absurd h2 (nI_nlt (a := k) (b := q) (by omega) (by omega)))
        refine x_iload C 3 dX7_flips_96 rfl ?_
        exact x_oret C (cpost_of (V := cv σ) (Eq.trans (if_pos (by first | assumption | ((try simp only [rng, mayQ, tI_lt, tI_eq, cvr_0, mvr_0, cvr_c, mvr_c, ruleQ, tn_999, tl_200, tl_999, tl_0, tl_1, tl_2, tl_3, tl_4, tl_5, tl_6, tl_7, tl_8, tl_9, tl_10, tl_11, tl_12, tl_13, tl_99] at h1 ⊢) <;> omega))) (by rw [nI_clamp (by omega)]; obtain rfl : k = q := (by omega); rfl)) rfl rfl rfl) dX7_flips_98
      | succ j ih =>
        intro k hk
        refine x_iload C 4 dX7_flips_44 rfl ?_
        refine x_iload_n C 1 dX7_flips_46 rfl rfl ?_
        refine x_icmp_ge C (tgt := 96) dX7_flips_47 (by decide) (fun h3 => absurd (nI_lt (a := k) (b := q) (by omega) (by omega)) h3) (fun h3 => ?_)
        refine x_aload_n C 0 dX7_flips_50 rfl rfl ?_
        refine x_get C (Nat.le_of_ble_eq_true rfl) xd_0 fl_X7_50 (q := (0, 71, 0)) (v := .ref (xad E (71))) rfl rfl dX7_flips_51 ?_
        refine x_callVv C (As := []) (rest := []) (c_rapply l E σ τ (brN x y k)) kv_X7_229 (x_recv C (Nat.le_of_ble_eq_true rfl) xd_71 rfl) ⟨Nat.le_of_ble_eq_true rfl, Nat.le_of_ble_eq_true rfl⟩ rfl rfl (Nat.le_of_ble_eq_true rfl) dX7_flips_54 ?_
        refine x_aload_n C 0 dX7_flips_57 rfl rfl ?_
        refine x_get C (Nat.le_of_ble_eq_true rfl) xd_0 fl_X7_50 (q := (0, 71, 0)) (v := .ref (xad E (71))) rfl rfl dX7_flips_58 ?_
        refine x_get C (Nat.le_of_ble_eq_true rfl) xd_71 fl_X7_232 (q := (2, 0, 0)) (v := .long (Int32.toInt64 (brN x y (k + 1) 0))) rfl (congrArg Value.long (t3_0 _ _)) dX7_flips_61 ?_
        refine x_lconst C (v := 0) dX7_flips_64 (by decide) ?_
        refine x_callSi C (As := [.long (Int32.toInt64 (brN x y (k + 1) 0)), .long (0)]) (rest := []) (c_Lcmp l E σ (t3 τ (brS (brN x y k))) (Int32.toInt64 (brN x y (k + 1) 0)) 0) ks_X7_242 ⟨Nat.le_of_ble_eq_true rfl, Nat.le_of_ble_eq_true rfl⟩ rfl rfl (Nat.le_of_ble_eq_true rfl) dX7_flips_65 ?_
        refine WM.topi (y := sgn (brN x y (k + 1) 0)) (cmpL_sgn _) ?_
        refine x_istore C (lv1 := [(7, .int (sgn (brN x y (k + 1) 0))), (0, .ref (xad E (0))), (3, .int (nI q)), (4, .int (sgN x y k)), (5, .int (flN x y k)), (6, .int (nI k))]) dX7_flips_68 (by decide) rfl ?_
        refine x_iload C 0 dX7_flips_70 rfl ?_
        refine x_iload C 3 dX7_flips_72 rfl ?_
        refine x_imul C dX7_flips_74 ?_
        refine x_if_ge C (tgt := 81) dX7_flips_75 (by decide) (fun h4 => ?_) (fun h4 => ?_)
        · refine x_iload C 0 dX7_flips_81 rfl ?_
          refine x_if_eq C (tgt := 90) dX7_flips_83 (by decide) (fun h5 => ?_) (fun h5 => ?_)
          · refine x_iinc C (v := nI (k + 1)) (lv1 := [(6, .int (nI (k + 1))), (7, .int (sgn (brN x y (k + 1) 0))), (0, .ref (xad E (0))), (3, .int (nI q)), (4, .int (sgN x y k)), (5, .int (flN x y k))]) 5 dX7_flips_90 rfl (nI_add k 1) (by decide) rfl ?_
            refine x_goto2 C (tgt := 44) dX7_flips_93 (by decide) ?_
            refine WM.keep [2, 3, 4, 5, 0] (lv' := [(0, .ref (xad E (0))), (3, .int (nI q)), (4, .int (sgN x y k)), (5, .int (flN x y k)), (6, .int (nI (k + 1)))]) rfl ?_
            exact WM.to (ih (k + 1) (by omega)) rfl rfl (by rw [show sgN x y (k + 1) = sgN x y k from if_pos h5, show flN x y (k + 1) = flN x y k from if_neg h4]) rfl
          · refine x_iload C 0 dX7_flips_86 rfl ?_
            refine x_istore C (lv1 := [(4, .int (sgn (brN x y (k + 1) 0))), (7, .int (sgn (brN x y (k + 1) 0))), (0, .ref (xad E (0))), (3, .int (nI q)), (5, .int (flN x y k)), (6, .int (nI k))]) dX7_flips_88 (by decide) rfl ?_
            refine x_iinc C (v := nI (k + 1)) (lv1 := [(6, .int (nI (k + 1))), (4, .int (sgn (brN x y (k + 1) 0))), (7, .int (sgn (brN x y (k + 1) 0))), (0, .ref (xad E (0))), (3, .int (nI q)), (5, .int (flN x y k))]) 5 dX7_flips_90 rfl (nI_add k 1) (by decide) rfl ?_
            refine x_goto2 C (tgt := 44) dX7_flips_93 (by decide) ?_
            refine WM.keep [3, 4, 1, 5, 0] (lv' := [(0, .ref (xad E (0))), (3, .int (nI q)), (4, .int (sgn (brN x y (k + 1) 0))), (5, .int (flN x y k)), (6, .int (nI (k + 1)))]) rfl ?_
            exact WM.to (ih (k + 1) (by omega)) rfl rfl (by rw [show sgN x y (k + 1) = sgn (brN x y (k + 1) 0) from if_neg h5, show flN x y (k + 1) = flN x y k from if_neg h4]) rfl
        · refine x_iinc C (v := (flN x y k) + 1) (lv1 := [(5, .int ((flN x y k) + 1)), (7, .int (sgn (brN x y (k + 1) 0))), (0, .ref (xad E (0))), (3, .int (nI q)), (4, .int (sgN x y k)), (6, .int (nI k))]) 4 dX7_flips_78 rfl rfl (by decide) rfl ?_
          refine x_iload C 1 dX7_flips_81 rfl ?_
          refine x_if_eq C (tgt := 90) dX7_flips_83 (by decide) (fun h6 => ?_) (fun h6 => ?_)
          · refine x_iinc C (v := nI (k + 1)) (lv1 := [(6, .int (nI (k + 1))), (5, .int ((flN x y k) + 1)), (7, .int (sgn (brN x y (k + 1) 0))), (0, .ref (xad E (0))), (3, .int (nI q)), (4, .int (sgN x y k))]) 5 dX7_flips_90 rfl (nI_add k 1) (by decide) rfl ?_
            refine x_goto2 C (tgt := 44) dX7_flips_93 (by decide) ?_
            refine WM.keep [3, 4, 5, 1, 0] (lv' := [(0, .ref (xad E (0))), (3, .int (nI q)), (4, .int (sgN x y k)), (5, .int ((flN x y k) + 1)), (6, .int (nI (k + 1)))]) rfl ?_
            exact WM.to (ih (k + 1) (by omega)) rfl rfl (by rw [show sgN x y (k + 1) = sgN x y k from if_pos h6, show flN x y (k + 1) = flN x y k + 1 from if_pos h4]) rfl
          · refine x_iload C 1 dX7_flips_86 rfl ?_
            refine x_istore C (lv1 := [(4, .int (sgn (brN x y (k + 1) 0))), (5, .int ((flN x y k) + 1)), (7, .int (sgn (brN x y (k + 1) 0))), (0, .ref (xad E (0))), (3, .int (nI q)), (6, .int (nI k))]) dX7_flips_88 (by decide) rfl ?_
            refine x_iinc C (v := nI (k + 1)) (lv1 := [(6, .int (nI (k + 1))), (4, .int (sgn (brN x y (k + 1) 0))), (5, .int ((flN x y k) + 1)), (7, .int (sgn (brN x y (k + 1) 0))), (0, .ref (xad E (0))), (3, .int (nI q))]) 5 dX7_flips_90 rfl (nI_add k 1) (by decide) rfl ?_
            refine x_goto2 C (tgt := 44) dX7_flips_93 (by decide) ?_
            refine WM.keep [4, 5, 1, 2, 0] (lv' := [(0, .ref (xad E (0))), (3, .int (nI q)), (4, .int (sgn (brN x y (k + 1) 0))), (5, .int ((flN x y k) + 1)), (6, .int (nI (k + 1)))]) rfl ?_
            exact WM.to (ih (k + 1) (by omega)) rfl rfl (by rw [show sgN x y (k + 1) = sgn (brN x y (k + 1) 0) from if_neg h6, show flN x y (k + 1) = flN x y k + 1 from if_pos h4]) rfl
    refine WM.keep [3, 6, 2, 1, 0] rfl ?_
    exact WM.to (loop (q) 0 (by omega)) rfl rfl rfl rfl
  · refine x_aload_n C 0 dX7_flips_9 rfl rfl ?_
    refine x_ldc C dX7_flips_10 kc_X7_63 ?_
    refine x_callVi C (As := [.int ((-1000001))]) (rest := []) (c_finding l E σ τ 0 (by decide) (-1000001) (by decide)) kv_X7_64 (x_recv C (Nat.le_of_ble_eq_true rfl) xd_0 rfl) ⟨Nat.le_of_ble_eq_true rfl, Nat.le_of_ble_eq_true rfl⟩ rfl rfl (Nat.le_of_ble_eq_true rfl) dX7_flips_12 ?_
    exact x_oret C (cpost_of (V := u2 (cv σ) 2 0 (σ 4 0 + 1)) (if_neg (by first | assumption | ((try simp only [rng, mayQ, tI_lt, tI_eq, cvr_0, mvr_0, cvr_c, mvr_c, ruleQ, tn_999, tl_200, tl_999, tl_0, tl_1, tl_2, tl_3, tl_4, tl_5, tl_6, tl_7, tl_8, tl_9, tl_10, tl_11, tl_12, tl_13, tl_99] at h1 ⊢) <;> omega))) (by rw [cv_u4]) (by rw [mv_u4]) rfl) dX7_flips_15
set_option maxHeartbeats 4000000 in
set_option maxRecDepth 100000 in
theorem m_flips (l : Launch) (E : xE) (σ : Nat → Nat → Int32) (τ : Nat → Int64) (T : Nat) (hT : T < 1073741824) (x y n : Int32) (hI : Inv (mv σ) T) (hlv : ∀ j, j < 12 → σ 15 j = (xzl 1).getD j 0) : xOi l yX8_flips cX8_flips 8 .int 2 49 E [.ref (xad E (81)), .int (x), .int (y), .int (n)] σ τ (mpost (sp_flips x y n (mv σ)) σ) := by
  refine xOi_of (own := RX8) (by decide +kernel) rfl (Nat.le_of_ble_eq_true rfl) ?_
  intro zp ze zs zm za zb zh zc C
  refine WM.to (lv1 := [(0, .ref (xad E (81))), (1, .int (x)), (2, .int (y)), (3, .int (n))]) (st1 := []) (σ1 := σ) (τ1 := τ) ?_ rfl rfl rfl rfl
  have hg : gI (σ 10) := hI.g
  have hgT : gT (σ 10) T := hI.t
  have h0 : 0 ≤ (σ 10 10).toInt := hI.h0
  refine x_iload_n C 1 dX8_flips_0 rfl rfl ?_
  refine x_iload_n C 2 dX8_flips_1 rfl rfl ?_
  refine x_iload_n C 3 dX8_flips_2 rfl rfl ?_
  refine x_callSi C (As := [.int (x), .int (y), .int (n)]) (rest := []) (c_isBrief l E σ τ x y n) ks_X8_267 ⟨Nat.le_of_ble_eq_true rfl, Nat.le_of_ble_eq_true rfl⟩ rfl rfl (Nat.le_of_ble_eq_true rfl) dX8_flips_3 ?_
  refine x_ifneB C (tgt := 16) dX8_flips_6 (by decide) (fun h1 => ?_) (fun h1 => ?_)
  · obtain ⟨q, hqa, hqb, rfl⟩ := rngN (a := 0) (b := 200) h1.2.2 (by decide) (by decide) (by decide)
    refine x_aload_n C 0 dX8_flips_16 rfl rfl ?_
    refine x_iload_n C 1 dX8_flips_17 rfl rfl ?_
    refine x_iload_n C 2 dX8_flips_18 rfl rfl ?_
    refine WM.to (σ1 := va_up σ 22 (σ 22)) ?_ (xself _ _).symm rfl rfl rfl
    refine x_callVv C (As := [.int (x), .int (y)]) (rest := []) (c_begins l E σ τ (σ 22) x y) kv_X8_271 (x_recv C (Nat.le_of_ble_eq_true rfl) xd_81 rfl) ⟨Nat.le_of_ble_eq_true rfl, Nat.le_of_ble_eq_true rfl⟩ rfl rfl (Nat.le_of_ble_eq_true rfl) dX8_flips_19 ?_
    refine x_iload_n C 1 dX8_flips_22 rfl rfl ?_
    refine x_if_le C (tgt := 30) dX8_flips_23 (by decide) (fun h2 => ?_) (fun h2 => ?_)
    · refine x_iload_n C 1 dX8_flips_30 rfl rfl ?_
      refine x_if_ge C (tgt := 38) dX8_flips_31 (by decide) (fun h3 => ?_) (fun h3 => ?_)
      · refine x_iconst C (v := 0) dX8_flips_38 (by decide) ?_
        refine WM.topi (y := sgN x y 0) (by rw [sgN_0]; exact (sgn_z h2 h3).symm) ?_
        refine x_istore C (lv1 := [(4, .int (sgN x y 0)), (0, .ref (xad E (81))), (1, .int (x)), (2, .int (y)), (3, .int (nI q))]) dX8_flips_39 (by decide) rfl ?_
        refine x_iconst C (v := 0) dX8_flips_41 (by decide) ?_
        refine x_istore C (lv1 := [(5, .int (0)), (4, .int (sgN x y 0)), (0, .ref (xad E (81))), (1, .int (x)), (2, .int (y)), (3, .int (nI q))]) dX8_flips_42 (by decide) rfl ?_
        refine x_iconst C (v := 0) dX8_flips_44 (by decide) ?_
        refine x_istore C (lv1 := [(6, .int (0)), (5, .int (0)), (4, .int (sgN x y 0)), (0, .ref (xad E (81))), (1, .int (x)), (2, .int (y)), (3, .int (nI q))]) dX8_flips_45 (by decide) rfl ?_
        have loop : ∀ (j k : Nat), j + k = q → WM zp l ze { frames := 2, cells := 0, slots := 0, locals := 49 } zs zm za zb zh zc 0 0 (MQ zb (va_Qi (fun r (u : xV × (Nat → Int64)) => (mpost (sp_flips x y (nI q) (mv σ)) σ) r u.1) (fun u t => xP E u.1 u.2 t.heap) (xA E)) za zs 0 0 (xA E)) E (xA E) 8 (va_up σ 22 (brN x y k)) (τ) 47 [(0, .ref (xad E (81))), (3, .int (nI q)), (4, .int (sgN x y k)), (5, .int (flN x y k)), (6, .int (nI k))] [] := by
          intro j
          induction j with
          | zero =>
            intro k hk
            refine x_iload C 4 dX8_flips_47 rfl ?_
            refine x_iload_n C 1 dX8_flips_49 rfl rfl ?_
            refine x_icmp_ge C (tgt := 119) dX8_flips_50 (by decide) (fun h4 => ?_) (fun h4 => absurd h4 (nI_nlt (a := k) (b := q) (by omega) (by omega)))
            refine x_iload C 3 dX8_flips_119 rfl ?_
            exact x_oret C (mpost_of (V := mv σ) (Eq.trans (if_pos (by first | assumption | ((try simp only [rng, mayQ, tI_lt, tI_eq, cvr_0, mvr_0, cvr_c, mvr_c, ruleQ, tn_999, tl_200, tl_999, tl_0, tl_1, tl_2, tl_3, tl_4, tl_5, tl_6, tl_7, tl_8, tl_9, tl_10, tl_11, tl_12, tl_13, tl_99, tn_1] at h1 ⊢) <;> omega))) (by rw [nI_clamp (by omega)]; obtain rfl : k = q := (by omega); rfl)) (by rw [mv_v22]) (by rw [cv_v22]) rfl) dX8_flips_121
          | succ j ih =>
            intro k hk
            refine x_iload C 4 dX8_flips_47 rfl ?_
            refine x_iload_n C 1 dX8_flips_49 rfl rfl ?_
            refine x_icmp_ge C (tgt := 119) dX8_flips_50 (by decide) (fun h5 => absurd (nI_lt (a := k) (b := q) (by omega) (by omega)) h5) (fun h5 => ?_)
            refine x_aload_n C 0 dX8_flips_53 rfl rfl ?_
            refine x_callVv C (As := []) (rest := []) (c_briefly l E σ τ (brN x y k)) kv_X8_274 (x_recv C (Nat.le_of_ble_eq_true rfl) xd_81 rfl) ⟨Nat.le_of_ble_eq_true rfl, Nat.le_of_ble_eq_true rfl⟩ rfl rfl (Nat.le_of_ble_eq_true rfl) dX8_flips_54 ?_
            refine x_aload_n C 0 dX8_flips_57 rfl rfl ?_
            refine x_get C (Nat.le_of_ble_eq_true rfl) xd_81 fl_X8_31 (q := (0, 89, 0)) (v := .ref (xad E (89))) rfl rfl dX8_flips_58 ?_
            refine x_iconst C (v := 0) dX8_flips_61 (by decide) ?_
            refine x_ald C (Nat.le_of_ble_eq_true rfl) xd_89 (v := (brS (brN x y k)) 0) (vp_in_nI (show 0 < 3 by omega) (by decide)) (by rw [(show (0 : Int32).toNatClampNeg = 0 from by decide), Nat.zero_add, Nat.one_mul]; exact (congrFun (va_up_self _ _ _) _)) dX8_flips_62 ?_
            refine x_if_le C (tgt := 70) dX8_flips_63 (by decide) (fun h6 => ?_) (fun h6 => ?_)
            · refine x_aload_n C 0 dX8_flips_70 rfl rfl ?_
              refine x_get C (Nat.le_of_ble_eq_true rfl) xd_81 fl_X8_31 (q := (0, 89, 0)) (v := .ref (xad E (89))) rfl rfl dX8_flips_71 ?_
              refine x_iconst C (v := 0) dX8_flips_74 (by decide) ?_
              refine x_ald C (Nat.le_of_ble_eq_true rfl) xd_89 (v := (brS (brN x y k)) 0) (vp_in_nI (show 0 < 3 by omega) (by decide)) (by rw [(show (0 : Int32).toNatClampNeg = 0 from by decide), Nat.zero_add, Nat.one_mul]; exact (congrFun (va_up_self _ _ _) _)) dX8_flips_75 ?_
              refine x_if_ge C (tgt := 83) dX8_flips_76 (by decide) (fun h7 => ?_) (fun h7 => ?_)
              · refine x_iload C 2 dX8_flips_83 rfl ?_
                refine WM.topi (y := sgN x y (k + 1)) (sg_z h6 h7) ?_
                refine x_istore C (lv1 := [(7, .int (sgN x y (k + 1))), (0, .ref (xad E (81))), (3, .int (nI q)), (4, .int (sgN x y k)), (5, .int (flN x y k)), (6, .int (nI k))]) dX8_flips_85 (by decide) rfl ?_
                refine x_iload C 4 dX8_flips_87 rfl ?_
                refine x_iload C 3 dX8_flips_89 rfl ?_
                refine x_if_eq C (tgt := 105) dX8_flips_91 (by decide) (fun h8 => ?_) (fun h8 => ?_)
                · refine x_iconst C (v := 0) dX8_flips_105 (by decide) ?_
                  refine x_iadd C dX8_flips_106 ?_
                  refine WM.topi (y := flN x y (k + 1)) (fl_n (Or.inl h8)) ?_
                  refine x_istore C (lv1 := [(5, .int (flN x y (k + 1))), (7, .int (sgN x y (k + 1))), (0, .ref (xad E (81))), (3, .int (nI q)), (4, .int (sgN x y k)), (6, .int (nI k))]) dX8_flips_107 (by decide) rfl ?_
                  refine x_iload C 1 dX8_flips_109 rfl ?_
                  refine x_istore C (lv1 := [(4, .int (sgN x y (k + 1))), (5, .int (flN x y (k + 1))), (7, .int (sgN x y (k + 1))), (0, .ref (xad E (81))), (3, .int (nI q)), (6, .int (nI k))]) dX8_flips_111 (by decide) rfl ?_
                  refine x_iinc C (v := nI (k + 1)) (lv1 := [(6, .int (nI (k + 1))), (4, .int (sgN x y (k + 1))), (5, .int (flN x y (k + 1))), (7, .int (sgN x y (k + 1))), (0, .ref (xad E (81))), (3, .int (nI q))]) 5 dX8_flips_113 rfl (nI_add k 1) (by decide) rfl ?_
                  refine x_goto2 C (tgt := 47) dX8_flips_116 (by decide) ?_
                  refine WM.keep [4, 5, 1, 2, 0] (lv' := [(0, .ref (xad E (81))), (3, .int (nI q)), (4, .int (sgN x y (k + 1))), (5, .int (flN x y (k + 1))), (6, .int (nI (k + 1)))]) rfl ?_
                  exact WM.to (ih (k + 1) (by omega)) rfl rfl rfl rfl
                · refine x_iload C 0 dX8_flips_94 rfl ?_
                  refine x_iload C 3 dX8_flips_96 rfl ?_
                  refine x_icmp_eq C (tgt := 105) dX8_flips_98 (by decide) (fun h9 => ?_) (fun h9 => ?_)
                  · refine x_iconst C (v := 0) dX8_flips_105 (by decide) ?_
                    refine x_iadd C dX8_flips_106 ?_
                    refine WM.topi (y := flN x y (k + 1)) (fl_n (Or.inr h9)) ?_
                    refine x_istore C (lv1 := [(5, .int (flN x y (k + 1))), (7, .int (sgN x y (k + 1))), (0, .ref (xad E (81))), (3, .int (nI q)), (4, .int (sgN x y k)), (6, .int (nI k))]) dX8_flips_107 (by decide) rfl ?_
                    refine x_iload C 1 dX8_flips_109 rfl ?_
                    refine x_istore C (lv1 := [(4, .int (sgN x y (k + 1))), (5, .int (flN x y (k + 1))), (7, .int (sgN x y (k + 1))), (0, .ref (xad E (81))), (3, .int (nI q)), (6, .int (nI k))]) dX8_flips_111 (by decide) rfl ?_
                    refine x_iinc C (v := nI (k + 1)) (lv1 := [(6, .int (nI (k + 1))), (4, .int (sgN x y (k + 1))), (5, .int (flN x y (k + 1))), (7, .int (sgN x y (k + 1))), (0, .ref (xad E (81))), (3, .int (nI q))]) 5 dX8_flips_113 rfl (nI_add k 1) (by decide) rfl ?_
                    refine x_goto2 C (tgt := 47) dX8_flips_116 (by decide) ?_
                    refine WM.keep [4, 5, 1, 2, 0] (lv' := [(0, .ref (xad E (81))), (3, .int (nI q)), (4, .int (sgN x y (k + 1))), (5, .int (flN x y (k + 1))), (6, .int (nI (k + 1)))]) rfl ?_
                    exact WM.to (ih (k + 1) (by omega)) rfl rfl rfl rfl
                  · refine x_iconst C (v := 1) dX8_flips_101 (by decide) ?_
                    refine x_goto2 C (tgt := 106) dX8_flips_102 (by decide) ?_
                    refine x_iadd C dX8_flips_106 ?_
                    refine WM.topi (y := flN x y (k + 1)) (fl_y h8 h9) ?_
                    refine x_istore C (lv1 := [(5, .int (flN x y (k + 1))), (7, .int (sgN x y (k + 1))), (0, .ref (xad E (81))), (3, .int (nI q)), (4, .int (sgN x y k)), (6, .int (nI k))]) dX8_flips_107 (by decide) rfl ?_
                    refine x_iload C 1 dX8_flips_109 rfl ?_
                    refine x_istore C (lv1 := [(4, .int (sgN x y (k + 1))), (5, .int (flN x y (k + 1))), (7, .int (sgN x y (k + 1))), (0, .ref (xad E (81))), (3, .int (nI q)), (6, .int (nI k))]) dX8_flips_111 (by decide) rfl ?_
                    refine x_iinc C (v := nI (k + 1)) (lv1 := [(6, .int (nI (k + 1))), (4, .int (sgN x y (k + 1))), (5, .int (flN x y (k + 1))), (7, .int (sgN x y (k + 1))), (0, .ref (xad E (81))), (3, .int (nI q))]) 5 dX8_flips_113 rfl (nI_add k 1) (by decide) rfl ?_
                    refine x_goto2 C (tgt := 47) dX8_flips_116 (by decide) ?_
                    refine WM.keep [4, 5, 1, 2, 0] (lv' := [(0, .ref (xad E (81))), (3, .int (nI q)), (4, .int (sgN x y (k + 1))), (5, .int (flN x y (k + 1))), (6, .int (nI (k + 1)))]) rfl ?_
                    exact WM.to (ih (k + 1) (by omega)) rfl rfl rfl rfl
              · refine x_iconst C (v := -1) dX8_flips_79 (by decide) ?_
                refine x_goto2 C (tgt := 85) dX8_flips_80 (by decide) ?_
                refine WM.topi (y := sgN x y (k + 1)) (sg_n h7) ?_
                refine x_istore C (lv1 := [(7, .int (sgN x y (k + 1))), (0, .ref (xad E (81))), (3, .int (nI q)), (4, .int (sgN x y k)), (5, .int (flN x y k)), (6, .int (nI k))]) dX8_flips_85 (by decide) rfl ?_
                refine x_iload C 4 dX8_flips_87 rfl ?_
                refine x_iload C 3 dX8_flips_89 rfl ?_
                refine x_if_eq C (tgt := 105) dX8_flips_91 (by decide) (fun h10 => ?_) (fun h10 => ?_)
                · refine x_iconst C (v := 0) dX8_flips_105 (by decide) ?_
                  refine x_iadd C dX8_flips_106 ?_
                  refine WM.topi (y := flN x y (k + 1)) (fl_n (Or.inl h10)) ?_
                  refine x_istore C (lv1 := [(5, .int (flN x y (k + 1))), (7, .int (sgN x y (k + 1))), (0, .ref (xad E (81))), (3, .int (nI q)), (4, .int (sgN x y k)), (6, .int (nI k))]) dX8_flips_107 (by decide) rfl ?_
                  refine x_iload C 1 dX8_flips_109 rfl ?_
                  refine x_istore C (lv1 := [(4, .int (sgN x y (k + 1))), (5, .int (flN x y (k + 1))), (7, .int (sgN x y (k + 1))), (0, .ref (xad E (81))), (3, .int (nI q)), (6, .int (nI k))]) dX8_flips_111 (by decide) rfl ?_
                  refine x_iinc C (v := nI (k + 1)) (lv1 := [(6, .int (nI (k + 1))), (4, .int (sgN x y (k + 1))), (5, .int (flN x y (k + 1))), (7, .int (sgN x y (k + 1))), (0, .ref (xad E (81))), (3, .int (nI q))]) 5 dX8_flips_113 rfl (nI_add k 1) (by decide) rfl ?_
                  refine x_goto2 C (tgt := 47) dX8_flips_116 (by decide) ?_
                  refine WM.keep [4, 5, 1, 2, 0] (lv' := [(0, .ref (xad E (81))), (3, .int (nI q)), (4, .int (sgN x y (k + 1))), (5, .int (flN x y (k + 1))), (6, .int (nI (k + 1)))]) rfl ?_
                  exact WM.to (ih (k + 1) (by omega)) rfl rfl rfl rfl
                · refine x_iload C 0 dX8_flips_94 rfl ?_
                  refine x_iload C 3 dX8_flips_96 rfl ?_
                  refine x_icmp_eq C (tgt := 105) dX8_flips_98 (by decide) (fun h11 => ?_) (fun h11 => ?_)
                  · refine x_iconst C (v := 0) dX8_flips_105 (by decide) ?_
                    refine x_iadd C dX8_flips_106 ?_
                    refine WM.topi (y := flN x y (k + 1)) (fl_n (Or.inr h11)) ?_
                    refine x_istore C (lv1 := [(5, .int (flN x y (k + 1))), (7, .int (sgN x y (k + 1))), (0, .ref (xad E (81))), (3, .int (nI q)), (4, .int (sgN x y k)), (6, .int (nI k))]) dX8_flips_107 (by decide) rfl ?_
                    refine x_iload C 1 dX8_flips_109 rfl ?_
                    refine x_istore C (lv1 := [(4, .int (sgN x y (k + 1))), (5, .int (flN x y (k + 1))), (7, .int (sgN x y (k + 1))), (0, .ref (xad E (81))), (3, .int (nI q)), (6, .int (nI k))]) dX8_flips_111 (by decide) rfl ?_
                    refine x_iinc C (v := nI (k + 1)) (lv1 := [(6, .int (nI (k + 1))), (4, .int (sgN x y (k + 1))), (5, .int (flN x y (k + 1))), (7, .int (sgN x y (k + 1))), (0, .ref (xad E (81))), (3, .int (nI q))]) 5 dX8_flips_113 rfl (nI_add k 1) (by decide) rfl ?_
                    refine x_goto2 C (tgt := 47) dX8_flips_116 (by decide) ?_
                    refine WM.keep [4, 5, 1, 2, 0] (lv' := [(0, .ref (xad E (81))), (3, .int (nI q)), (4, .int (sgN x y (k + 1))), (5, .int (flN x y (k + 1))), (6, .int (nI (k + 1)))]) rfl ?_
                    exact WM.to (ih (k + 1) (by omega)) rfl rfl rfl rfl
                  · refine x_iconst C (v := 1) dX8_flips_101 (by decide) ?_
                    refine x_goto2 C (tgt := 106) dX8_flips_102 (by decide) ?_
                    refine x_iadd C dX8_flips_106 ?_
                    refine WM.topi (y := flN x y (k + 1)) (fl_y h10 h11) ?_
                    refine x_istore C (lv1 := [(5, .int (flN x y (k + 1))), (7, .int (sgN x y (k + 1))), (0, .ref (xad E (81))), (3, .int (nI q)), (4, .int (sgN x y k)), (6, .int (nI k))]) dX8_flips_107 (by decide) rfl ?_
                    refine x_iload C 1 dX8_flips_109 rfl ?_
                    refine x_istore C (lv1 := [(4, .int (sgN x y (k + 1))), (5, .int (flN x y (k + 1))), (7, .int (sgN x y (k + 1))), (0, .ref (xad E (81))), (3, .int (nI q)), (6, .int (nI k))]) dX8_flips_111 (by decide) rfl ?_
                    refine x_iinc C (v := nI (k + 1)) (lv1 := [(6, .int (nI (k + 1))), (4, .int (sgN x y (k + 1))), (5, .int (flN x y (k + 1))), (7, .int (sgN x y (k + 1))), (0, .ref (xad E (81))), (3, .int (nI q))]) 5 dX8_flips_113 rfl (nI_add k 1) (by decide) rfl ?_
                    refine x_goto2 C (tgt := 47) dX8_flips_116 (by decide) ?_
                    refine WM.keep [4, 5, 1, 2, 0] (lv' := [(0, .ref (xad E (81))), (3, .int (nI q)), (4, .int (sgN x y (k + 1))), (5, .int (flN x y (k + 1))), (6, .int (nI (k + 1)))]) rfl ?_
                    exact WM.to (ih (k + 1) (by omega)) rfl rfl rfl rfl
            · refine x_iconst C (v := 1) dX8_flips_66 (by decide) ?_
              refine x_goto2 C (tgt := 85) dX8_flips_67 (by decide) ?_
              refine WM.topi (y := sgN x y (k + 1)) (sg_p h6) ?_
              refine x_istore C (lv1 := [(7, .int (sgN x y (k + 1))), (0, .ref (xad E (81))), (3, .int (nI q)), (4, .int (sgN x y k)), (5, .int (flN x y k)), (6, .int (nI k))]) dX8_flips_85 (by decide) rfl ?_
              refine x_iload C 4 dX8_flips_87 rfl ?_
              refine x_iload C 3 dX8_flips_89 rfl ?_
              refine x_if_eq C (tgt := 105) dX8_flips_91 (by decide) (fun h12 => ?_) (fun h12 => ?_)
              · refine x_iconst C (v := 0) dX8_flips_105 (by decide) ?_
                refine x_iadd C dX8_flips_106 ?_
                refine WM.topi (y := flN x y (k + 1)) (fl_n (Or.inl h12)) ?_
                refine x_istore C (lv1 := [(5, .int (flN x y (k + 1))), (7, .int (sgN x y (k + 1))), (0, .ref (xad E (81))), (3, .int (nI q)), (4, .int (sgN x y k)), (6, .int (nI k))]) dX8_flips_107 (by decide) rfl ?_
                refine x_iload C 1 dX8_flips_109 rfl ?_
                refine x_istore C (lv1 := [(4, .int (sgN x y (k + 1))), (5, .int (flN x y (k + 1))), (7, .int (sgN x y (k + 1))), (0, .ref (xad E (81))), (3, .int (nI q)), (6, .int (nI k))]) dX8_flips_111 (by decide) rfl ?_
                refine x_iinc C (v := nI (k + 1)) (lv1 := [(6, .int (nI (k + 1))), (4, .int (sgN x y (k + 1))), (5, .int (flN x y (k + 1))), (7, .int (sgN x y (k + 1))), (0, .ref (xad E (81))), (3, .int (nI q))]) 5 dX8_flips_113 rfl (nI_add k 1) (by decide) rfl ?_
                refine x_goto2 C (tgt := 47) dX8_flips_116 (by decide) ?_
                refine WM.keep [4, 5, 1, 2, 0] (lv' := [(0, .ref (xad E (81))), (3, .int (nI q)), (4, .int (sgN x y (k + 1))), (5, .int (flN x y (k + 1))), (6, .int (nI (k + 1)))]) rfl ?_
                exact WM.to (ih (k + 1) (by omega)) rfl rfl rfl rfl
              · refine x_iload C 0 dX8_flips_94 rfl ?_
                refine x_iload C 3 dX8_flips_96 rfl ?_
                refine x_icmp_eq C (tgt := 105) dX8_flips_98 (by decide) (fun h13 => ?_) (fun h13 => ?_)
                · refine x_iconst C (v := 0) dX8_flips_105 (by decide) ?_
                  refine x_iadd C dX8_flips_106 ?_
                  refine WM.topi (y := flN x y (k + 1)) (fl_n (Or.inr h13)) ?_
                  refine x_istore C (lv1 := [(5, .int (flN x y (k + 1))), (7, .int (sgN x y (k + 1))), (0, .ref (xad E (81))), (3, .int (nI q)), (4, .int (sgN x y k)), (6, .int (nI k))]) dX8_flips_107 (by decide) rfl ?_
                  refine x_iload C 1 dX8_flips_109 rfl ?_
                  refine x_istore C (lv1 := [(4, .int (sgN x y (k + 1))), (5, .int (flN x y (k + 1))), (7, .int (sgN x y (k + 1))), (0, .ref (xad E (81))), (3, .int (nI q)), (6, .int (nI k))]) dX8_flips_111 (by decide) rfl ?_
                  refine x_iinc C (v := nI (k + 1)) (lv1 := [(6, .int (nI (k + 1))), (4, .int (sgN x y (k + 1))), (5, .int (flN x y (k + 1))), (7, .int (sgN x y (k + 1))), (0, .ref (xad E (81))), (3, .int (nI q))]) 5 dX8_flips_113 rfl (nI_add k 1) (by decide) rfl ?_
                  refine x_goto2 C (tgt := 47) dX8_flips_116 (by decide) ?_
                  refine WM.keep [4, 5, 1, 2, 0] (lv' := [(0, .ref (xad E (81))), (3, .int (nI q)), (4, .int (sgN x y (k + 1))), (5, .int (flN x y (k + 1))), (6, .int (nI (k + 1)))]) rfl ?_
                  exact WM.to (ih (k + 1) (by omega)) rfl rfl rfl rfl
                · refine x_iconst C (v := 1) dX8_flips_101 (by decide) ?_
                  refine x_goto2 C (tgt := 106) dX8_flips_102 (by decide) ?_
                  refine x_iadd C dX8_flips_106 ?_
                  refine WM.topi (y := flN x y (k + 1)) (fl_y h12 h13) ?_
                  refine x_istore C (lv1 := [(5, .int (flN x y (k + 1))), (7, .int (sgN x y (k + 1))), (0, .ref (xad E (81))), (3, .int (nI q)), (4, .int (sgN x y k)), (6, .int (nI k))]) dX8_flips_107 (by decide) rfl ?_
                  refine x_iload C 1 dX8_flips_109 rfl ?_
                  refine x_istore C (lv1 := [(4, .int (sgN x y (k + 1))), (5, .int (flN x y (k + 1))), (7, .int (sgN x y (k + 1))), (0, .ref (xad E (81))), (3, .int (nI q)), (6, .int (nI k))]) dX8_flips_111 (by decide) rfl ?_
                  refine x_iinc C (v := nI (k + 1)) (lv1 := [(6, .int (nI (k + 1))), (4, .int (sgN x y (k + 1))), (5, .int (flN x y (k + 1))), (7, .int (sgN x y (k + 1))), (0, .ref (xad E (81))), (3, .int (nI q))]) 5 dX8_flips_113 rfl (nI_add k 1) (by decide) rfl ?_
                  refine x_goto2 C (tgt := 47) dX8_flips_116 (by decide) ?_
                  refine WM.keep [4, 5, 1, 2, 0] (lv' := [(0, .ref (xad E (81))), (3, .int (nI q)), (4, .int (sgN x y (k + 1))), (5, .int (flN x y (k + 1))), (6, .int (nI (k + 1)))]) rfl ?_
                  exact WM.to (ih (k + 1) (by omega)) rfl rfl rfl rfl
        refine WM.keep [3, 6, 2, 1, 0] rfl ?_
        exact WM.to (loop (q) 0 (by omega)) rfl rfl rfl rfl
      · refine x_iconst C (v := -1) dX8_flips_34 (by decide) ?_
        refine x_goto2 C (tgt := 39) dX8_flips_35 (by decide) ?_
        refine WM.topi (y := sgN x y 0) (by rw [sgN_0]; exact (sgn_m h3).symm) ?_
        refine x_istore C (lv1 := [(4, .int (sgN x y 0)), (0, .ref (xad E (81))), (1, .int (x)), (2, .int (y)), (3, .int (nI q))]) dX8_flips_39 (by decide) rfl ?_
        refine x_iconst C (v := 0) dX8_flips_41 (by decide) ?_
        refine x_istore C (lv1 := [(5, .int (0)), (4, .int (sgN x y 0)), (0, .ref (xad E (81))), (1, .int (x)), (2, .int (y)), (3, .int (nI q))]) dX8_flips_42 (by decide) rfl ?_
        refine x_iconst C (v := 0) dX8_flips_44 (by decide) ?_
        refine x_istore C (lv1 := [(6, .int (0)), (5, .int (0)), (4, .int (sgN x y 0)), (0, .ref (xad E (81))), (1, .int (x)), (2, .int (y)), (3, .int (nI q))]) dX8_flips_45 (by decide) rfl ?_
        have loop : ∀ (j k : Nat), j + k = q → WM zp l ze { frames := 2, cells := 0, slots := 0, locals := 49 } zs zm za zb zh zc 0 0 (MQ zb (va_Qi (fun r (u : xV × (Nat → Int64)) => (mpost (sp_flips x y (nI q) (mv σ)) σ) r u.1) (fun u t => xP E u.1 u.2 t.heap) (xA E)) za zs 0 0 (xA E)) E (xA E) 8 (va_up σ 22 (brN x y k)) (τ) 47 [(0, .ref (xad E (81))), (3, .int (nI q)), (4, .int (sgN x y k)), (5, .int (flN x y k)), (6, .int (nI k))] [] := by
          intro j
          induction j with
          | zero =>
            intro k hk
            refine x_iload C 4 dX8_flips_47 rfl ?_
            refine x_iload_n C 1 dX8_flips_49 rfl rfl ?_
            refine x_icmp_ge C (tgt := 119) dX8_flips_50 (by decide) (fun h14 => ?_) (fun h14 => absurd h14 (nI_nlt (a := k) (b := q) (by omega) (by omega)))
            refine x_iload C 3 dX8_flips_119 rfl ?_
            exact x_oret C (mpost_of (V := mv σ) (Eq.trans (if_pos (by first | assumption | ((try simp only [rng, mayQ, tI_lt, tI_eq, cvr_0, mvr_0, cvr_c, mvr_c, ruleQ, tn_999, tl_200, tl_999, tl_0, tl_1, tl_2, tl_3, tl_4, tl_5, tl_6, tl_7, tl_8, tl_9, tl_10, tl_11, tl_12, tl_13, tl_99, tn_1] at h1 ⊢) <;> omega))) (by rw [nI_clamp (by omega)]; obtain rfl : k = q := (by omega); rfl)) (by rw [mv_v22]) (by rw [cv_v22]) rfl) dX8_flips_121
          | succ j ih =>
            intro k hk
            refine x_iload C 4 dX8_flips_47 rfl ?_
            refine x_iload_n C 1 dX8_flips_49 rfl rfl ?_
            refine x_icmp_ge C (tgt := 119) dX8_flips_50 (by decide) (fun h15 => absurd (nI_lt (a := k) (b := q) (by omega) (by omega)) h15) (fun h15 => ?_)
            refine x_aload_n C 0 dX8_flips_53 rfl rfl ?_
            refine x_callVv C (As := []) (rest := []) (c_briefly l E σ τ (brN x y k)) kv_X8_274 (x_recv C (Nat.le_of_ble_eq_true rfl) xd_81 rfl) ⟨Nat.le_of_ble_eq_true rfl, Nat.le_of_ble_eq_true rfl⟩ rfl rfl (Nat.le_of_ble_eq_true rfl) dX8_flips_54 ?_
            refine x_aload_n C 0 dX8_flips_57 rfl rfl ?_
            refine x_get C (Nat.le_of_ble_eq_true rfl) xd_81 fl_X8_31 (q := (0, 89, 0)) (v := .ref (xad E (89))) rfl rfl dX8_flips_58 ?_
            refine x_iconst C (v := 0) dX8_flips_61 (by decide) ?_
            refine x_ald C (Nat.le_of_ble_eq_true rfl) xd_89 (v := (brS (brN x y k)) 0) (vp_in_nI (show 0 < 3 by omega) (by decide)) (by rw [(show (0 : Int32).toNatClampNeg = 0 from by decide), Nat.zero_add, Nat.one_mul]; exact (congrFun (va_up_self _ _ _) _)) dX8_flips_62 ?_
            refine x_if_le C (tgt := 70) dX8_flips_63 (by decide) (fun h16 => ?_) (fun h16 => ?_)
            · refine x_aload_n C 0 dX8_flips_70 rfl rfl ?_
              refine x_get C (Nat.le_of_ble_eq_true rfl) xd_81 fl_X8_31 (q := (0, 89, 0)) (v := .ref (xad E (89))) rfl rfl dX8_flips_71 ?_
              refine x_iconst C (v := 0) dX8_flips_74 (by decide) ?_
              refine x_ald C (Nat.le_of_ble_eq_true rfl) xd_89 (v := (brS (brN x y k)) 0) (vp_in_nI (show 0 < 3 by omega) (by decide)) (by rw [(show (0 : Int32).toNatClampNeg = 0 from by decide), Nat.zero_add, Nat.one_mul]; exact (congrFun (va_up_self _ _ _) _)) dX8_flips_75 ?_
              refine x_if_ge C (tgt := 83) dX8_flips_76 (by decide) (fun h17 => ?_) (fun h17 => ?_)
              · refine x_iload C 2 dX8_flips_83 rfl ?_
                refine WM.topi (y := sgN x y (k + 1)) (sg_z h16 h17) ?_
                refine x_istore C (lv1 := [(7, .int (sgN x y (k + 1))), (0, .ref (xad E (81))), (3, .int (nI q)), (4, .int (sgN x y k)), (5, .int (flN x y k)), (6, .int (nI k))]) dX8_flips_85 (by decide) rfl ?_
                refine x_iload C 4 dX8_flips_87 rfl ?_
                refine x_iload C 3 dX8_flips_89 rfl ?_
                refine x_if_eq C (tgt := 105) dX8_flips_91 (by decide) (fun h18 => ?_) (fun h18 => ?_)
                · refine x_iconst C (v := 0) dX8_flips_105 (by decide) ?_
                  refine x_iadd C dX8_flips_106 ?_
                  refine WM.topi (y := flN x y (k + 1)) (fl_n (Or.inl h18)) ?_
                  refine x_istore C (lv1 := [(5, .int (flN x y (k + 1))), (7, .int (sgN x y (k + 1))), (0, .ref (xad E (81))), (3, .int (nI q)), (4, .int (sgN x y k)), (6, .int (nI k))]) dX8_flips_107 (by decide) rfl ?_
                  refine x_iload C 1 dX8_flips_109 rfl ?_
                  refine x_istore C (lv1 := [(4, .int (sgN x y (k + 1))), (5, .int (flN x y (k + 1))), (7, .int (sgN x y (k + 1))), (0, .ref (xad E (81))), (3, .int (nI q)), (6, .int (nI k))]) dX8_flips_111 (by decide) rfl ?_
                  refine x_iinc C (v := nI (k + 1)) (lv1 := [(6, .int (nI (k + 1))), (4, .int (sgN x y (k + 1))), (5, .int (flN x y (k + 1))), (7, .int (sgN x y (k + 1))), (0, .ref (xad E (81))), (3, .int (nI q))]) 5 dX8_flips_113 rfl (nI_add k 1) (by decide) rfl ?_
                  refine x_goto2 C (tgt := 47) dX8_flips_116 (by decide) ?_
                  refine WM.keep [4, 5, 1, 2, 0] (lv' := [(0, .ref (xad E (81))), (3, .int (nI q)), (4, .int (sgN x y (k + 1))), (5, .int (flN x y (k + 1))), (6, .int (nI (k + 1)))]) rfl ?_
                  exact WM.to (ih (k + 1) (by omega)) rfl rfl rfl rfl
                · refine x_iload C 0 dX8_flips_94 rfl ?_
                  refine x_iload C 3 dX8_flips_96 rfl ?_
                  refine x_icmp_eq C (tgt := 105) dX8_flips_98 (by decide) (fun h19 => ?_) (fun h19 => ?_)
                  · refine x_iconst C (v := 0) dX8_flips_105 (by decide) ?_
                    refine x_iadd C dX8_flips_106 ?_
                    refine WM.topi (y := flN x y (k + 1)) (fl_n (Or.inr h19)) ?_
                    refine x_istore C (lv1 := [(5, .int (flN x y (k + 1))), (7, .int (sgN x y (k + 1))), (0, .ref (xad E (81))), (3, .int (nI q)), (4, .int (sgN x y k)), (6, .int (nI k))]) dX8_flips_107 (by decide) rfl ?_
                    refine x_iload C 1 dX8_flips_109 rfl ?_
                    refine x_istore C (lv1 := [(4, .int (sgN x y (k + 1))), (5, .int (flN x y (k + 1))), (7, .int (sgN x y (k + 1))), (0, .ref (xad E (81))), (3, .int (nI q)), (6, .int (nI k))]) dX8_flips_111 (by decide) rfl ?_
                    refine x_iinc C (v := nI (k + 1)) (lv1 := [(6, .int (nI (k + 1))), (4, .int (sgN x y (k + 1))), (5, .int (flN x y (k + 1))), (7, .int (sgN x y (k + 1))), (0, .ref (xad E (81))), (3, .int (nI q))]) 5 dX8_flips_113 rfl (nI_add k 1) (by decide) rfl ?_
                    refine x_goto2 C (tgt := 47) dX8_flips_116 (by decide) ?_
                    refine WM.keep [4, 5, 1, 2, 0] (lv' := [(0, .ref (xad E (81))), (3, .int (nI q)), (4, .int (sgN x y (k + 1))), (5, .int (flN x y (k + 1))), (6, .int (nI (k + 1)))]) rfl ?_
                    exact WM.to (ih (k + 1) (by omega)) rfl rfl rfl rfl
                  · refine x_iconst C (v := 1) dX8_flips_101 (by decide) ?_
                    refine x_goto2 C (tgt := 106) dX8_flips_102 (by decide) ?_
                    refine x_iadd C dX8_flips_106 ?_
                    refine WM.topi (y := flN x y (k + 1)) (fl_y h18 h19) ?_
                    refine x_istore C (lv1 := [(5, .int (flN x y (k + 1))), (7, .int (sgN x y (k + 1))), (0, .ref (xad E (81))), (3, .int (nI q)), (4, .int (sgN x y k)), (6, .int (nI k))]) dX8_flips_107 (by decide) rfl ?_
                    refine x_iload C 1 dX8_flips_109 rfl ?_
                    refine x_istore C (lv1 := [(4, .int (sgN x y (k + 1))), (5, .int (flN x y (k + 1))), (7, .int (sgN x y (k + 1))), (0, .ref (xad E (81))), (3, .int (nI q)), (6, .int (nI k))]) dX8_flips_111 (by decide) rfl ?_
                    refine x_iinc C (v := nI (k + 1)) (lv1 := [(6, .int (nI (k + 1))), (4, .int (sgN x y (k + 1))), (5, .int (flN x y (k + 1))), (7, .int (sgN x y (k + 1))), (0, .ref (xad E (81))), (3, .int (nI q))]) 5 dX8_flips_113 rfl (nI_add k 1) (by decide) rfl ?_
                    refine x_goto2 C (tgt := 47) dX8_flips_116 (by decide) ?_
                    refine WM.keep [4, 5, 1, 2, 0] (lv' := [(0, .ref (xad E (81))), (3, .int (nI q)), (4, .int (sgN x y (k + 1))), (5, .int (flN x y (k + 1))), (6, .int (nI (k + 1)))]) rfl ?_
                    exact WM.to (ih (k + 1) (by omega)) rfl rfl rfl rfl
              · refine x_iconst C (v := -1) dX8_flips_79 (by decide) ?_
                refine x_goto2 C (tgt := 85) dX8_flips_80 (by decide) ?_
                refine WM.topi (y := sgN x y (k + 1)) (sg_n h17) ?_
                refine x_istore C (lv1 := [(7, .int (sgN x y (k + 1))), (0, .ref (xad E (81))), (3, .int (nI q)), (4, .int (sgN x y k)), (5, .int (flN x y k)), (6, .int (nI k))]) dX8_flips_85 (by decide) rfl ?_
                refine x_iload C 4 dX8_flips_87 rfl ?_
                refine x_iload C 3 dX8_flips_89 rfl ?_
                refine x_if_eq C (tgt := 105) dX8_flips_91 (by decide) (fun h20 => ?_) (fun h20 => ?_)
                · refine x_iconst C (v := 0) dX8_flips_105 (by decide) ?_
                  refine x_iadd C dX8_flips_106 ?_
                  refine WM.topi (y := flN x y (k + 1)) (fl_n (Or.inl h20)) ?_
                  refine x_istore C (lv1 := [(5, .int (flN x y (k + 1))), (7, .int (sgN x y (k + 1))), (0, .ref (xad E (81))), (3, .int (nI q)), (4, .int (sgN x y k)), (6, .int (nI k))]) dX8_flips_107 (by decide) rfl ?_
                  refine x_iload C 1 dX8_flips_109 rfl ?_
                  refine x_istore C (lv1 := [(4, .int (sgN x y (k + 1))), (5, .int (flN x y (k + 1))), (7, .int (sgN x y (k + 1))), (0, .ref (xad E (81))), (3, .int (nI q)), (6, .int (nI k))]) dX8_flips_111 (by decide) rfl ?_
                  refine x_iinc C (v := nI (k + 1)) (lv1 := [(6, .int (nI (k + 1))), (4, .int (sgN x y (k + 1))), (5, .int (flN x y (k + 1))), (7, .int (sgN x y (k + 1))), (0, .ref (xad E (81))), (3, .int (nI q))]) 5 dX8_flips_113 rfl (nI_add k 1) (by decide) rfl ?_
                  refine x_goto2 C (tgt := 47) dX8_flips_116 (by decide) ?_
                  refine WM.keep [4, 5, 1, 2, 0] (lv' := [(0, .ref (xad E (81))), (3, .int (nI q)), (4, .int (sgN x y (k + 1))), (5, .int (flN x y (k + 1))), (6, .int (nI (k + 1)))]) rfl ?_
                  exact WM.to (ih (k + 1) (by omega)) rfl rfl rfl rfl
                · refine x_iload C 0 dX8_flips_94 rfl ?_
                  refine x_iload C 3 dX8_flips_96 rfl ?_
                  refine x_icmp_eq C (tgt := 105) dX8_flips_98 (by decide) (fun h21 => ?_) (fun h21 => ?_)
                  · refine x_iconst C (v := 0) dX8_flips_105 (by decide) ?_
                    refine x_iadd C dX8_flips_106 ?_
                    refine WM.topi (y := flN x y (k + 1)) (fl_n (Or.inr h21)) ?_
                    refine x_istore C (lv1 := [(5, .int (flN x y (k + 1))), (7, .int (sgN x y (k + 1))), (0, .ref (xad E (81))), (3, .int (nI q)), (4, .int (sgN x y k)), (6, .int (nI k))]) dX8_flips_107 (by decide) rfl ?_
                    refine x_iload C 1 dX8_flips_109 rfl ?_
                    refine x_istore C (lv1 := [(4, .int (sgN x y (k + 1))), (5, .int (flN x y (k + 1))), (7, .int (sgN x y (k + 1))), (0, .ref (xad E (81))), (3, .int (nI q)), (6, .int (nI k))]) dX8_flips_111 (by decide) rfl ?_
                    refine x_iinc C (v := nI (k + 1)) (lv1 := [(6, .int (nI (k + 1))), (4, .int (sgN x y (k + 1))), (5, .int (flN x y (k + 1))), (7, .int (sgN x y (k + 1))), (0, .ref (xad E (81))), (3, .int (nI q))]) 5 dX8_flips_113 rfl (nI_add k 1) (by decide) rfl ?_
                    refine x_goto2 C (tgt := 47) dX8_flips_116 (by decide) ?_
                    refine WM.keep [4, 5, 1, 2, 0] (lv' := [(0, .ref (xad E (81))), (3, .int (nI q)), (4, .int (sgN x y (k + 1))), (5, .int (flN x y (k + 1))), (6, .int (nI (k + 1)))]) rfl ?_
                    exact WM.to (ih (k + 1) (by omega)) rfl rfl rfl rfl
                  · refine x_iconst C (v := 1) dX8_flips_101 (by decide) ?_
                    refine x_goto2 C (tgt := 106) dX8_flips_102 (by decide) ?_
                    refine x_iadd C dX8_flips_106 ?_
                    refine WM.topi (y := flN x y (k + 1)) (fl_y h20 h21) ?_
                    refine x_istore C (lv1 := [(5, .int (flN x y (k + 1))), (7, .int (sgN x y (k + 1))), (0, .ref (xad E (81))), (3, .int (nI q)), (4, .int (sgN x y k)), (6, .int (nI k))]) dX8_flips_107 (by decide) rfl ?_
                    refine x_iload C 1 dX8_flips_109 rfl ?_
                    refine x_istore C (lv1 := [(4, .int (sgN x y (k + 1))), (5, .int (flN x y (k + 1))), (7, .int (sgN x y (k + 1))), (0, .ref (xad E (81))), (3, .int (nI q)), (6, .int (nI k))]) dX8_flips_111 (by decide) rfl ?_
                    refine x_iinc C (v := nI (k + 1)) (lv1 := [(6, .int (nI (k + 1))), (4, .int (sgN x y (k + 1))), (5, .int (flN x y (k + 1))), (7, .int (sgN x y (k + 1))), (0, .ref (xad E (81))), (3, .int (nI q))]) 5 dX8_flips_113 rfl (nI_add k 1) (by decide) rfl ?_
                    refine x_goto2 C (tgt := 47) dX8_flips_116 (by decide) ?_
                    refine WM.keep [4, 5, 1, 2, 0] (lv' := [(0, .ref (xad E (81))), (3, .int (nI q)), (4, .int (sgN x y (k + 1))), (5, .int (flN x y (k + 1))), (6, .int (nI (k + 1)))]) rfl ?_
                    exact WM.to (ih (k + 1) (by omega)) rfl rfl rfl rfl
            · refine x_iconst C (v := 1) dX8_flips_66 (by decide) ?_
              refine x_goto2 C (tgt := 85) dX8_flips_67 (by decide) ?_
              refine WM.topi (y := sgN x y (k + 1)) (sg_p h16) ?_
              refine x_istore C (lv1 := [(7, .int (sgN x y (k + 1))), (0, .ref (xad E (81))), (3, .int (nI q)), (4, .int (sgN x y k)), (5, .int (flN x y k)), (6, .int (nI k))]) dX8_flips_85 (by decide) rfl ?_
              refine x_iload C 4 dX8_flips_87 rfl ?_
              refine x_iload C 3 dX8_flips_89 rfl ?_
              refine x_if_eq C (tgt := 105) dX8_flips_91 (by decide) (fun h22 => ?_) (fun h22 => ?_)
              · refine x_iconst C (v := 0) dX8_flips_105 (by decide) ?_
                refine x_iadd C dX8_flips_106 ?_
                refine WM.topi (y := flN x y (k + 1)) (fl_n (Or.inl h22)) ?_
                refine x_istore C (lv1 := [(5, .int (flN x y (k + 1))), (7, .int (sgN x y (k + 1))), (0, .ref (xad E (81))), (3, .int (nI q)), (4, .int (sgN x y k)), (6, .int (nI k))]) dX8_flips_107 (by decide) rfl ?_
                refine x_iload C 1 dX8_flips_109 rfl ?_
                refine x_istore C (lv1 := [(4, .int (sgN x y (k + 1))), (5, .int (flN x y (k + 1))), (7, .int (sgN x y (k + 1))), (0, .ref (xad E (81))), (3, .int (nI q)), (6, .int (nI k))]) dX8_flips_111 (by decide) rfl ?_
                refine x_iinc C (v := nI (k + 1)) (lv1 := [(6, .int (nI (k + 1))), (4, .int (sgN x y (k + 1))), (5, .int (flN x y (k + 1))), (7, .int (sgN x y (k + 1))), (0, .ref (xad E (81))), (3, .int (nI q))]) 5 dX8_flips_113 rfl (nI_add k 1) (by decide) rfl ?_
                refine x_goto2 C (tgt := 47) dX8_flips_116 (by decide) ?_
                refine WM.keep [4, 5, 1, 2, 0] (lv' := [(0, .ref (xad E (81))), (3, .int (nI q)), (4, .int (sgN x y (k + 1))), (5, .int (flN x y (k + 1))), (6, .int (nI (k + 1)))]) rfl ?_
                exact WM.to (ih (k + 1) (by omega)) rfl rfl rfl rfl
              · refine x_iload C 0 dX8_flips_94 rfl ?_
                refine x_iload C 3 dX8_flips_96 rfl ?_
                refine x_icmp_eq C (tgt := 105) dX8_flips_98 (by decide) (fun h23 => ?_) (fun h23 => ?_)
                · refine x_iconst C (v := 0) dX8_flips_105 (by decide) ?_
                  refine x_iadd C dX8_flips_106 ?_
                  refine WM.topi (y := flN x y (k + 1)) (fl_n (Or.inr h23)) ?_
                  refine x_istore C (lv1 := [(5, .int (flN x y (k + 1))), (7, .int (sgN x y (k + 1))), (0, .ref (xad E (81))), (3, .int (nI q)), (4, .int (sgN x y k)), (6, .int (nI k))]) dX8_flips_107 (by decide) rfl ?_
                  refine x_iload C 1 dX8_flips_109 rfl ?_
                  refine x_istore C (lv1 := [(4, .int (sgN x y (k + 1))), (5, .int (flN x y (k + 1))), (7, .int (sgN x y (k + 1))), (0, .ref (xad E (81))), (3, .int (nI q)), (6, .int (nI k))]) dX8_flips_111 (by decide) rfl ?_
                  refine x_iinc C (v := nI (k + 1)) (lv1 := [(6, .int (nI (k + 1))), (4, .int (sgN x y (k + 1))), (5, .int (flN x y (k + 1))), (7, .int (sgN x y (k + 1))), (0, .ref (xad E (81))), (3, .int (nI q))]) 5 dX8_flips_113 rfl (nI_add k 1) (by decide) rfl ?_
                  refine x_goto2 C (tgt := 47) dX8_flips_116 (by decide) ?_
                  refine WM.keep [4, 5, 1, 2, 0] (lv' := [(0, .ref (xad E (81))), (3, .int (nI q)), (4, .int (sgN x y (k + 1))), (5, .int (flN x y (k + 1))), (6, .int (nI (k + 1)))]) rfl ?_
                  exact WM.to (ih (k + 1) (by omega)) rfl rfl rfl rfl
                · refine x_iconst C (v := 1) dX8_flips_101 (by decide) ?_
                  refine x_goto2 C (tgt := 106) dX8_flips_102 (by decide) ?_
                  refine x_iadd C dX8_flips_106 ?_
                  refine WM.topi (y := flN x y (k + 1)) (fl_y h22 h23) ?_
                  refine x_istore C (lv1 := [(5, .int (flN x y (k + 1))), (7, .int (sgN x y (k + 1))), (0, .ref (xad E (81))), (3, .int (nI q)), (4, .int (sgN x y k)), (6, .int (nI k))]) dX8_flips_107 (by decide) rfl ?_
                  refine x_iload C 1 dX8_flips_109 rfl ?_
                  refine x_istore C (lv1 := [(4, .int (sgN x y (k + 1))), (5, .int (flN x y (k + 1))), (7, .int (sgN x y (k + 1))), (0, .ref (xad E (81))), (3, .int (nI q)), (6, .int (nI k))]) dX8_flips_111 (by decide) rfl ?_
                  refine x_iinc C (v := nI (k + 1)) (lv1 := [(6, .int (nI (k + 1))), (4, .int (sgN x y (k + 1))), (5, .int (flN x y (k + 1))), (7, .int (sgN x y (k + 1))), (0, .ref (xad E (81))), (3, .int (nI q))]) 5 dX8_flips_113 rfl (nI_add k 1) (by decide) rfl ?_
                  refine x_goto2 C (tgt := 47) dX8_flips_116 (by decide) ?_
                  refine WM.keep [4, 5, 1, 2, 0] (lv' := [(0, .ref (xad E (81))), (3, .int (nI q)), (4, .int (sgN x y (k + 1))), (5, .int (flN x y (k + 1))), (6, .int (nI (k + 1)))]) rfl ?_
                  exact WM.to (ih (k + 1) (by omega)) rfl rfl rfl rfl
        refine WM.keep [3, 6, 2, 1, 0] rfl ?_
        exact WM.to (loop (q) 0 (by omega)) rfl rfl rfl rfl
    · refine x_iconst C (v := 1) dX8_flips_26 (by decide) ?_
      refine x_goto2 C (tgt := 39) dX8_flips_27 (by decide) ?_
      refine WM.topi (y := sgN x y 0) (by rw [sgN_0]; exact (sgn_p h2).symm) ?_
      refine x_istore C (lv1 := [(4, .int (sgN x y 0)), (0, .ref (xad E (81))), (1, .int (x)), (2, .int (y)), (3, .int (nI q))]) dX8_flips_39 (by decide) rfl ?_
      refine x_iconst C (v := 0) dX8_flips_41 (by decide) ?_
      refine x_istore C (lv1 := [(5, .int (0)), (4, .int (sgN x y 0)), (0, .ref (xad E (81))), (1, .int (x)), (2, .int (y)), (3, .int (nI q))]) dX8_flips_42 (by decide) rfl ?_
      refine x_iconst C (v := 0) dX8_flips_44 (by decide) ?_
      refine x_istore C (lv1 := [(6, .int (0)), (5, .int (0)), (4, .int (sgN x y 0)), (0, .ref (xad E (81))), (1, .int (x)), (2, .int (y)), (3, .int (nI q))]) dX8_flips_45 (by decide) rfl ?_
      have loop : ∀ (j k : Nat), j + k = q → WM zp l ze { frames := 2, cells := 0, slots := 0, locals := 49 } zs zm za zb zh zc 0 0 (MQ zb (va_Qi (fun r (u : xV × (Nat → Int64)) => (mpost (sp_flips x y (nI q) (mv σ)) σ) r u.1) (fun u t => xP E u.1 u.2 t.heap) (xA E)) za zs 0 0 (xA E)) E (xA E) 8 (va_up σ 22 (brN x y k)) (τ) 47 [(0, .ref (xad E (81))), (3, .int (nI q)), (4, .int (sgN x y k)), (5, .int (flN x y k)), (6, .int (nI k))] [] := by
        intro j
        induction j with
        | zero =>
          intro k hk
          refine x_iload C 4 dX8_flips_47 rfl ?_
          refine x_iload_n C 1 dX8_flips_49 rfl rfl ?_
          refine x_icmp_ge C (tgt := 119) dX8_flips_50 (by decide) (fun h24 => ?_) (fun h24 => absurd h24 (nI_nlt (a := k) (b := q) (by omega) (by omega)))
          refine x_iload C 3 dX8_flips_119 rfl ?_
          exact x_oret C (mpost_of (V := mv σ) (Eq.trans (if_pos (by first | assumption | ((try simp only [rng, mayQ, tI_lt, tI_eq, cvr_0, mvr_0, cvr_c, mvr_c, ruleQ, tn_999, tl_200, tl_999, tl_0, tl_1, tl_2, tl_3, tl_4, tl_5, tl_6, tl_7, tl_8, tl_9, tl_10, tl_11, tl_12, tl_13, tl_99, tn_1] at h1 ⊢) <;> omega))) (by rw [nI_clamp (by omega)]; obtain rfl : k = q := (by omega); rfl)) (by rw [mv_v22]) (by rw [cv_v22]) rfl) dX8_flips_121
        | succ j ih =>
          intro k hk
          refine x_iload C 4 dX8_flips_47 rfl ?_
          refine x_iload_n C 1 dX8_flips_49 rfl rfl ?_
          refine x_icmp_ge C (tgt := 119) dX8_flips_50 (by decide) (fun h25 => absurd (nI_lt (a := k) (b := q) (by omega) (by omega)) h25) (fun h25 => ?_)
          refine x_aload_n C 0 dX8_flips_53 rfl rfl ?_
          refine x_callVv C (As := []) (rest := []) (c_briefly l E σ τ (brN x y k)) kv_X8_274 (x_recv C (Nat.le_of_ble_eq_true rfl) xd_81 rfl) ⟨Nat.le_of_ble_eq_true rfl, Nat.le_of_ble_eq_true rfl⟩ rfl rfl (Nat.le_of_ble_eq_true rfl) dX8_flips_54 ?_
          refine x_aload_n C 0 dX8_flips_57 rfl rfl ?_
          refine x_get C (Nat.le_of_ble_eq_true rfl) xd_81 fl_X8_31 (q := (0, 89, 0)) (v := .ref (xad E (89))) rfl rfl dX8_flips_58 ?_
          refine x_iconst C (v := 0) dX8_flips_61 (by decide) ?_
          refine x_ald C (Nat.le_of_ble_eq_true rfl) xd_89 (v := (brS (brN x y k)) 0) (vp_in_nI (show 0 < 3 by omega) (by decide)) (by rw [(show (0 : Int32).toNatClampNeg = 0 from by decide), Nat.zero_add, Nat.one_mul]; exact (congrFun (va_up_self _ _ _) _)) dX8_flips_62 ?_
          refine x_if_le C (tgt := 70) dX8_flips_63 (by decide) (fun h26 => ?_) (fun h26 => ?_)
          · refine x_aload_n C 0 dX8_flips_70 rfl rfl ?_
            refine x_get C (Nat.le_of_ble_eq_true rfl) xd_81 fl_X8_31 (q := (0, 89, 0)) (v := .ref (xad E (89))) rfl rfl dX8_flips_71 ?_
            refine x_iconst C (v := 0) dX8_flips_74 (by decide) ?_
            refine x_ald C (Nat.le_of_ble_eq_true rfl) xd_89 (v := (brS (brN x y k)) 0) (vp_in_nI (show 0 < 3 by omega) (by decide)) (by rw [(show (0 : Int32).toNatClampNeg = 0 from by decide), Nat.zero_add, Nat.one_mul]; exact (congrFun (va_up_self _ _ _) _)) dX8_flips_75 ?_
            refine x_if_ge C (tgt := 83) dX8_flips_76 (by decide) (fun h27 => ?_) (fun h27 => ?_)
            · refine x_iload C 2 dX8_flips_83 rfl ?_
              refine WM.topi (y := sgN x y (k + 1)) (sg_z h26 h27) ?_
              refine x_istore C (lv1 := [(7, .int (sgN x y (k + 1))), (0, .ref (xad E (81))), (3, .int (nI q)), (4, .int (sgN x y k)), (5, .int (flN x y k)), (6, .int (nI k))]) dX8_flips_85 (by decide) rfl ?_
              refine x_iload C 4 dX8_flips_87 rfl ?_
              refine x_iload C 3 dX8_flips_89 rfl ?_
              refine x_if_eq C (tgt := 105) dX8_flips_91 (by decide) (fun h28 => ?_) (fun h28 => ?_)
              · refine x_iconst C (v := 0) dX8_flips_105 (by decide) ?_
                refine x_iadd C dX8_flips_106 ?_
                refine WM.topi (y := flN x y (k + 1)) (fl_n (Or.inl h28)) ?_
                refine x_istore C (lv1 := [(5, .int (flN x y (k + 1))), (7, .int (sgN x y (k + 1))), (0, .ref (xad E (81))), (3, .int (nI q)), (4, .int (sgN x y k)), (6, .int (nI k))]) dX8_flips_107 (by decide) rfl ?_
                refine x_iload C 1 dX8_flips_109 rfl ?_
                refine x_istore C (lv1 := [(4, .int (sgN x y (k + 1))), (5, .int (flN x y (k + 1))), (7, .int (sgN x y (k + 1))), (0, .ref (xad E (81))), (3, .int (nI q)), (6, .int (nI k))]) dX8_flips_111 (by decide) rfl ?_
                refine x_iinc C (v := nI (k + 1)) (lv1 := [(6, .int (nI (k + 1))), (4, .int (sgN x y (k + 1))), (5, .int (flN x y (k + 1))), (7, .int (sgN x y (k + 1))), (0, .ref (xad E (81))), (3, .int (nI q))]) 5 dX8_flips_113 rfl (nI_add k 1) (by decide) rfl ?_
                refine x_goto2 C (tgt := 47) dX8_flips_116 (by decide) ?_
                refine WM.keep [4, 5, 1, 2, 0] (lv' := [(0, .ref (xad E (81))), (3, .int (nI q)), (4, .int (sgN x y (k + 1))), (5, .int (flN x y (k + 1))), (6, .int (nI (k + 1)))]) rfl ?_
                exact WM.to (ih (k + 1) (by omega)) rfl rfl rfl rfl
              · refine x_iload C 0 dX8_flips_94 rfl ?_
                refine x_iload C 3 dX8_flips_96 rfl ?_
                refine x_icmp_eq C (tgt := 105) dX8_flips_98 (by decide) (fun h29 => ?_) (fun h29 => ?_)
                · refine x_iconst C (v := 0) dX8_flips_105 (by decide) ?_
                  refine x_iadd C dX8_flips_106 ?_
                  refine WM.topi (y := flN x y (k + 1)) (fl_n (Or.inr h29)) ?_
                  refine x_istore C (lv1 := [(5, .int (flN x y (k + 1))), (7, .int (sgN x y (k + 1))), (0, .ref (xad E (81))), (3, .int (nI q)), (4, .int (sgN x y k)), (6, .int (nI k))]) dX8_flips_107 (by decide) rfl ?_
                  refine x_iload C 1 dX8_flips_109 rfl ?_
                  refine x_istore C (lv1 := [(4, .int (sgN x y (k + 1))), (5, .int (flN x y (k + 1))), (7, .int (sgN x y (k + 1))), (0, .ref (xad E (81))), (3, .int (nI q)), (6, .int (nI k))]) dX8_flips_111 (by decide) rfl ?_
                  refine x_iinc C (v := nI (k + 1)) (lv1 := [(6, .int (nI (k + 1))), (4, .int (sgN x y (k + 1))), (5, .int (flN x y (k + 1))), (7, .int (sgN x y (k + 1))), (0, .ref (xad E (81))), (3, .int (nI q))]) 5 dX8_flips_113 rfl (nI_add k 1) (by decide) rfl ?_
                  refine x_goto2 C (tgt := 47) dX8_flips_116 (by decide) ?_
                  refine WM.keep [4, 5, 1, 2, 0] (lv' := [(0, .ref (xad E (81))), (3, .int (nI q)), (4, .int (sgN x y (k + 1))), (5, .int (flN x y (k + 1))), (6, .int (nI (k + 1)))]) rfl ?_
                  exact WM.to (ih (k + 1) (by omega)) rfl rfl rfl rfl
                · refine x_iconst C (v := 1) dX8_flips_101 (by decide) ?_
                  refine x_goto2 C (tgt := 106) dX8_flips_102 (by decide) ?_
                  refine x_iadd C dX8_flips_106 ?_
                  refine WM.topi (y := flN x y (k + 1)) (fl_y h28 h29) ?_
                  refine x_istore C (lv1 := [(5, .int (flN x y (k + 1))), (7, .int (sgN x y (k + 1))), (0, .ref (xad E (81))), (3, .int (nI q)), (4, .int (sgN x y k)), (6, .int (nI k))]) dX8_flips_107 (by decide) rfl ?_
                  refine x_iload C 1 dX8_flips_109 rfl ?_
                  refine x_istore C (lv1 := [(4, .int (sgN x y (k + 1))), (5, .int (flN x y (k + 1))), (7, .int (sgN x y (k + 1))), (0, .ref (xad E (81))), (3, .int (nI q)), (6, .int (nI k))]) dX8_flips_111 (by decide) rfl ?_
                  refine x_iinc C (v := nI (k + 1)) (lv1 := [(6, .int (nI (k + 1))), (4, .int (sgN x y (k + 1))), (5, .int (flN x y (k + 1))), (7, .int (sgN x y (k + 1))), (0, .ref (xad E (81))), (3, .int (nI q))]) 5 dX8_flips_113 rfl (nI_add k 1) (by decide) rfl ?_
                  refine x_goto2 C (tgt := 47) dX8_flips_116 (by decide) ?_
                  refine WM.keep [4, 5, 1, 2, 0] (lv' := [(0, .ref (xad E (81))), (3, .int (nI q)), (4, .int (sgN x y (k + 1))), (5, .int (flN x y (k + 1))), (6, .int (nI (k + 1)))]) rfl ?_
                  exact WM.to (ih (k + 1) (by omega)) rfl rfl rfl rfl
            · refine x_iconst C (v := -1) dX8_flips_79 (by decide) ?_
              refine x_goto2 C (tgt := 85) dX8_flips_80 (by decide) ?_
              refine WM.topi (y := sgN x y (k + 1)) (sg_n h27) ?_
              refine x_istore C (lv1 := [(7, .int (sgN x y (k + 1))), (0, .ref (xad E (81))), (3, .int (nI q)), (4, .int (sgN x y k)), (5, .int (flN x y k)), (6, .int (nI k))]) dX8_flips_85 (by decide) rfl ?_
              refine x_iload C 4 dX8_flips_87 rfl ?_
              refine x_iload C 3 dX8_flips_89 rfl ?_
              refine x_if_eq C (tgt := 105) dX8_flips_91 (by decide) (fun h30 => ?_) (fun h30 => ?_)
              · refine x_iconst C (v := 0) dX8_flips_105 (by decide) ?_
                refine x_iadd C dX8_flips_106 ?_
                refine WM.topi (y := flN x y (k + 1)) (fl_n (Or.inl h30)) ?_
                refine x_istore C (lv1 := [(5, .int (flN x y (k + 1))), (7, .int (sgN x y (k + 1))), (0, .ref (xad E (81))), (3, .int (nI q)), (4, .int (sgN x y k)), (6, .int (nI k))]) dX8_flips_107 (by decide) rfl ?_
                refine x_iload C 1 dX8_flips_109 rfl ?_
                refine x_istore C (lv1 := [(4, .int (sgN x y (k + 1))), (5, .int (flN x y (k + 1))), (7, .int (sgN x y (k + 1))), (0, .ref (xad E (81))), (3, .int (nI q)), (6, .int (nI k))]) dX8_flips_111 (by decide) rfl ?_
                refine x_iinc C (v := nI (k + 1)) (lv1 := [(6, .int (nI (k + 1))), (4, .int (sgN x y (k + 1))), (5, .int (flN x y (k + 1))), (7, .int (sgN x y (k + 1))), (0, .ref (xad E (81))), (3, .int (nI q))]) 5 dX8_flips_113 rfl (nI_add k 1) (by decide) rfl ?_
                refine x_goto2 C (tgt := 47) dX8_flips_116 (by decide) ?_
                refine WM.keep [4, 5, 1, 2, 0] (lv' := [(0, .ref (xad E (81))), (3, .int (nI q)), (4, .int (sgN x y (k + 1))), (5, .int (flN x y (k + 1))), (6, .int (nI (k + 1)))]) rfl ?_
                exact WM.to (ih (k + 1) (by omega)) rfl rfl rfl rfl
              · refine x_iload C 0 dX8_flips_94 rfl ?_
                refine x_iload C 3 dX8_flips_96 rfl ?_
                refine x_icmp_eq C (tgt := 105) dX8_flips_98 (by decide) (fun h31 => ?_) (fun h31 => ?_)
                · refine x_iconst C (v := 0) dX8_flips_105 (by decide) ?_
                  refine x_iadd C dX8_flips_106 ?_
                  refine WM.topi (y := flN x y (k + 1)) (fl_n (Or.inr h31)) ?_
                  refine x_istore C (lv1 := [(5, .int (flN x y (k + 1))), (7, .int (sgN x y (k + 1))), (0, .ref (xad E (81))), (3, .int (nI q)), (4, .int (sgN x y k)), (6, .int (nI k))]) dX8_flips_107 (by decide) rfl ?_
                  refine x_iload C 1 dX8_flips_109 rfl ?_
                  refine x_istore C (lv1 := [(4, .int (sgN x y (k + 1))), (5, .int (flN x y (k + 1))), (7, .int (sgN x y (k + 1))), (0, .ref (xad E (81))), (3, .int (nI q)), (6, .int (nI k))]) dX8_flips_111 (by decide) rfl ?_
                  refine x_iinc C (v := nI (k + 1)) (lv1 := [(6, .int (nI (k + 1))), (4, .int (sgN x y (k + 1))), (5, .int (flN x y (k + 1))), (7, .int (sgN x y (k + 1))), (0, .ref (xad E (81))), (3, .int (nI q))]) 5 dX8_flips_113 rfl (nI_add k 1) (by decide) rfl ?_
                  refine x_goto2 C (tgt := 47) dX8_flips_116 (by decide) ?_
                  refine WM.keep [4, 5, 1, 2, 0] (lv' := [(0, .ref (xad E (81))), (3, .int (nI q)), (4, .int (sgN x y (k + 1))), (5, .int (flN x y (k + 1))), (6, .int (nI (k + 1)))]) rfl ?_
                  exact WM.to (ih (k + 1) (by omega)) rfl rfl rfl rfl
                · refine x_iconst C (v := 1) dX8_flips_101 (by decide) ?_
                  refine x_goto2 C (tgt := 106) dX8_flips_102 (by decide) ?_
                  refine x_iadd C dX8_flips_106 ?_
                  refine WM.topi (y := flN x y (k + 1)) (fl_y h30 h31) ?_
                  refine x_istore C (lv1 := [(5, .int (flN x y (k + 1))), (7, .int (sgN x y (k + 1))), (0, .ref (xad E (81))), (3, .int (nI q)), (4, .int (sgN x y k)), (6, .int (nI k))]) dX8_flips_107 (by decide) rfl ?_
                  refine x_iload C 1 dX8_flips_109 rfl ?_
                  refine x_istore C (lv1 := [(4, .int (sgN x y (k + 1))), (5, .int (flN x y (k + 1))), (7, .int (sgN x y (k + 1))), (0, .ref (xad E (81))), (3, .int (nI q)), (6, .int (nI k))]) dX8_flips_111 (by decide) rfl ?_
                  refine x_iinc C (v := nI (k + 1)) (lv1 := [(6, .int (nI (k + 1))), (4, .int (sgN x y (k + 1))), (5, .int (flN x y (k + 1))), (7, .int (sgN x y (k + 1))), (0, .ref (xad E (81))), (3, .int (nI q))]) 5 dX8_flips_113 rfl (nI_add k 1) (by decide) rfl ?_
                  refine x_goto2 C (tgt := 47) dX8_flips_116 (by decide) ?_
                  refine WM.keep [4, 5, 1, 2, 0] (lv' := [(0, .ref (xad E (81))), (3, .int (nI q)), (4, .int (sgN x y (k + 1))), (5, .int (flN x y (k + 1))), (6, .int (nI (k + 1)))]) rfl ?_
                  exact WM.to (ih (k + 1) (by omega)) rfl rfl rfl rfl
          · refine x_iconst C (v := 1) dX8_flips_66 (by decide) ?_
            refine x_goto2 C (tgt := 85) dX8_flips_67 (by decide) ?_
            refine WM.topi (y := sgN x y (k + 1)) (sg_p h26) ?_
            refine x_istore C (lv1 := [(7, .int (sgN x y (k + 1))), (0, .ref (xad E (81))), (3, .int (nI q)), (4, .int (sgN x y k)), (5, .int (flN x y k)), (6, .int (nI k))]) dX8_flips_85 (by decide) rfl ?_
            refine x_iload C 4 dX8_flips_87 rfl ?_
            refine x_iload C 3 dX8_flips_89 rfl ?_
            refine x_if_eq C (tgt := 105) dX8_flips_91 (by decide) (fun h32 => ?_) (fun h32 => ?_)
            · refine x_iconst C (v := 0) dX8_flips_105 (by decide) ?_
              refine x_iadd C dX8_flips_106 ?_
              refine WM.topi (y := flN x y (k + 1)) (fl_n (Or.inl h32)) ?_
              refine x_istore C (lv1 := [(5, .int (flN x y (k + 1))), (7, .int (sgN x y (k + 1))), (0, .ref (xad E (81))), (3, .int (nI q)), (4, .int (sgN x y k)), (6, .int (nI k))]) dX8_flips_107 (by decide) rfl ?_
              refine x_iload C 1 dX8_flips_109 rfl ?_
              refine x_istore C (lv1 := [(4, .int (sgN x y (k + 1))), (5, .int (flN x y (k + 1))), (7, .int (sgN x y (k + 1))), (0, .ref (xad E (81))), (3, .int (nI q)), (6, .int (nI k))]) dX8_flips_111 (by decide) rfl ?_
              refine x_iinc C (v := nI (k + 1)) (lv1 := [(6, .int (nI (k + 1))), (4, .int (sgN x y (k + 1))), (5, .int (flN x y (k + 1))), (7, .int (sgN x y (k + 1))), (0, .ref (xad E (81))), (3, .int (nI q))]) 5 dX8_flips_113 rfl (nI_add k 1) (by decide) rfl ?_
              refine x_goto2 C (tgt := 47) dX8_flips_116 (by decide) ?_
              refine WM.keep [4, 5, 1, 2, 0] (lv' := [(0, .ref (xad E (81))), (3, .int (nI q)), (4, .int (sgN x y (k + 1))), (5, .int (flN x y (k + 1))), (6, .int (nI (k + 1)))]) rfl ?_
              exact WM.to (ih (k + 1) (by omega)) rfl rfl rfl rfl
            · refine x_iload C 0 dX8_flips_94 rfl ?_
              refine x_iload C 3 dX8_flips_96 rfl ?_
              refine x_icmp_eq C (tgt := 105) dX8_flips_98 (by decide) (fun h33 => ?_) (fun h33 => ?_)
              · refine x_iconst C (v := 0) dX8_flips_105 (by decide) ?_
                refine x_iadd C dX8_flips_106 ?_
                refine WM.topi (y := flN x y (k + 1)) (fl_n (Or.inr h33)) ?_
                refine x_istore C (lv1 := [(5, .int (flN x y (k + 1))), (7, .int (sgN x y (k + 1))), (0, .ref (xad E (81))), (3, .int (nI q)), (4, .int (sgN x y k)), (6, .int (nI k))]) dX8_flips_107 (by decide) rfl ?_
                refine x_iload C 1 dX8_flips_109 rfl ?_
                refine x_istore C (lv1 := [(4, .int (sgN x y (k + 1))), (5, .int (flN x y (k + 1))), (7, .int (sgN x y (k + 1))), (0, .ref (xad E (81))), (3, .int (nI q)), (6, .int (nI k))]) dX8_flips_111 (by decide) rfl ?_
                refine x_iinc C (v := nI (k + 1)) (lv1 := [(6, .int (nI (k + 1))), (4, .int (sgN x y (k + 1))), (5, .int (flN x y (k + 1))), (7, .int (sgN x y (k + 1))), (0, .ref (xad E (81))), (3, .int (nI q))]) 5 dX8_flips_113 rfl (nI_add k 1) (by decide) rfl ?_
                refine x_goto2 C (tgt := 47) dX8_flips_116 (by decide) ?_
                refine WM.keep [4, 5, 1, 2, 0] (lv' := [(0, .ref (xad E (81))), (3, .int (nI q)), (4, .int (sgN x y (k + 1))), (5, .int (flN x y (k + 1))), (6, .int (nI (k + 1)))]) rfl ?_
                exact WM.to (ih (k + 1) (by omega)) rfl rfl rfl rfl
              · refine x_iconst C (v := 1) dX8_flips_101 (by decide) ?_
                refine x_goto2 C (tgt := 106) dX8_flips_102 (by decide) ?_
                refine x_iadd C dX8_flips_106 ?_
                refine WM.topi (y := flN x y (k + 1)) (fl_y h32 h33) ?_
                refine x_istore C (lv1 := [(5, .int (flN x y (k + 1))), (7, .int (sgN x y (k + 1))), (0, .ref (xad E (81))), (3, .int (nI q)), (4, .int (sgN x y k)), (6, .int (nI k))]) dX8_flips_107 (by decide) rfl ?_
                refine x_iload C 1 dX8_flips_109 rfl ?_
                refine x_istore C (lv1 := [(4, .int (sgN x y (k + 1))), (5, .int (flN x y (k + 1))), (7, .int (sgN x y (k + 1))), (0, .ref (xad E (81))), (3, .int (nI q)), (6, .int (nI k))]) dX8_flips_111 (by decide) rfl ?_
                refine x_iinc C (v := nI (k + 1)) (lv1 := [(6, .int (nI (k + 1))), (4, .int (sgN x y (k + 1))), (5, .int (flN x y (k + 1))), (7, .int (sgN x y (k + 1))), (0, .ref (xad E (81))), (3, .int (nI q))]) 5 dX8_flips_113 rfl (nI_add k 1) (by decide) rfl ?_
                refine x_goto2 C (tgt := 47) dX8_flips_116 (by decide) ?_
                refine WM.keep [4, 5, 1, 2, 0] (lv' := [(0, .ref (xad E (81))), (3, .int (nI q)), (4, .int (sgN x y (k + 1))), (5, .int (flN x y (k + 1))), (6, .int (nI (k + 1)))]) rfl ?_
                exact WM.to (ih (k + 1) (by omega)) rfl rfl rfl rfl
      refine WM.keep [3, 6, 2, 1, 0] rfl ?_
      exact WM.to (loop (q) 0 (by omega)) rfl rfl rfl rfl
  · refine x_aload_n C 0 dX8_flips_9 rfl rfl ?_
    refine x_ldc C dX8_flips_10 kc_X8_46 ?_
    refine x_callVi C (As := [.int ((-1000001))]) (rest := []) (c_finds l E σ τ 0 (by decide) (-1000001) (by decide)) kv_X8_61 (x_recv C (Nat.le_of_ble_eq_true rfl) xd_81 rfl) ⟨Nat.le_of_ble_eq_true rfl, Nat.le_of_ble_eq_true rfl⟩ rfl rfl (Nat.le_of_ble_eq_true rfl) dX8_flips_12 ?_
    exact x_oret C (mpost_of (V := u2 (mv σ) 2 0 (σ 14 0 + 1)) (if_neg (by first | assumption | ((try simp only [rng, mayQ, tI_lt, tI_eq, cvr_0, mvr_0, cvr_c, mvr_c, ruleQ, tn_999, tl_200, tl_999, tl_0, tl_1, tl_2, tl_3, tl_4, tl_5, tl_6, tl_7, tl_8, tl_9, tl_10, tl_11, tl_12, tl_13, tl_99, tn_1] at h1 ⊢) <;> omega))) (by rw [mv_u14]) (by rw [cv_u14]) rfl) dX8_flips_15
