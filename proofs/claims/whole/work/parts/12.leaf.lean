/-! small methods -/
def cmpI (x y : Int32) : Int32 := if x < y then -1 else if x = y then 0 else 1
def cmpL (x y : Int64) : Int32 := if x < y then -1 else if x = y then 0 else 1
def fmodI (x y : Int32) : Int32 := if x ^^^ y < 0 then (if xrem x y = 0 then xrem x y else xrem x y + y) else xrem x y
theorem nzB (P : Prop) [Decidable P] : narrow .boolean (.int (if P then 1 else 0)) = .int (if P then 1 else 0) := by
  by_cases h : P
  · rw [if_pos h]; rfl
  · rw [if_neg h]; rfl
theorem held_eq (x : Int32) : (if (-600 : Int32) < (if 600 < x then 600 else x) then (if 600 < x then 600 else x) else -600) = heldG x := by
  unfold heldG
  have e1 : ((-600 : Int32)).toInt = -600 := by decide
  have e2 : ((600 : Int32)).toInt = 600 := by decide
  by_cases h : 600 < x
  · rw [if_pos h, if_pos (by decide), if_neg (by rw [tI_lt] at h ⊢; omega)]
  · rw [if_neg h]
    by_cases h2 : -600 < x
    · rw [if_pos h2, if_neg (by rw [tI_lt] at h2 ⊢; omega)]
    · rw [if_neg h2]
      by_cases h3 : x < -600
      · rw [if_pos h3]
      · rw [if_neg h3]
        rw [tI_lt] at h2 h3
        rw [tI_eq]
        omega
set_option maxHeartbeats 4000000 in
set_option maxRecDepth 100000 in
theorem c_within (l : Launch) (E : xE) (σ : Nat → Nat → Int32) (τ : Nat → Int64) (v lo hi : Int32) : xMi l yX7_within cX7_within 3 .boolean 0 0 E [.int (v), .int (lo), .int (hi)] (σ) (τ) (if rng v lo hi then 1 else 0) (σ) (τ) := by
  refine xMi_of (own := RX7) (by decide +kernel) rfl (Nat.le_of_ble_eq_true rfl) ?_
  intro zp ze zs zm za zb zh zc C
  refine WM.to (lv1 := [(0, .int (v)), (1, .int (lo)), (2, .int (hi))]) (st1 := []) (σ1 := σ) (τ1 := τ) ?_ rfl rfl rfl rfl
  refine x_iload_n C 1 dX7_within_0 rfl rfl ?_
  refine x_iload_n C 0 dX7_within_1 rfl rfl ?_
  refine x_icmp_gt C (tgt := 14) dX7_within_2 (by decide) (fun h1 => ?_) (fun h1 => ?_)
  · refine x_iconst C (v := 0) dX7_within_14 (by decide) ?_
    exact x_zret C rfl (by simp [h1]) rfl rfl dX7_within_15
  · refine x_iload_n C 0 dX7_within_5 rfl rfl ?_
    refine x_iload_n C 2 dX7_within_6 rfl rfl ?_
    refine x_icmp_gt C (tgt := 14) dX7_within_7 (by decide) (fun h2 => ?_) (fun h2 => ?_)
    · refine x_iconst C (v := 0) dX7_within_14 (by decide) ?_
      exact x_zret C rfl (by simp [h1, h2]) rfl rfl dX7_within_15
    · refine x_iconst C (v := 1) dX7_within_10 (by decide) ?_
      refine x_goto2 C (tgt := 15) dX7_within_11 (by decide) ?_
      exact x_zret C rfl (by simp [h1, h2]) rfl rfl dX7_within_15
set_option maxHeartbeats 4000000 in
set_option maxRecDepth 100000 in
theorem c_isCup (l : Launch) (E : xE) (σ : Nat → Nat → Int32) (τ : Nat → Int64) (v : Int32) : xMi l yX7_isCup cX7_isCup 1 .boolean 1 22 E [.int (v)] (σ) (τ) (if rng v 0 11 then 1 else 0) (σ) (τ) := by
  refine xMi_of (own := RX7) (by decide +kernel) rfl (Nat.le_of_ble_eq_true rfl) ?_
  intro zp ze zs zm za zb zh zc C
  refine WM.to (lv1 := [(0, .int (v))]) (st1 := []) (σ1 := σ) (τ1 := τ) ?_ rfl rfl rfl rfl
  refine x_iload_n C 0 dX7_isCup_0 rfl rfl ?_
  refine x_iconst C (v := 0) dX7_isCup_1 (by decide) ?_
  refine x_bipush C (v := 11) dX7_isCup_2 (by decide) ?_
  refine x_callSi C (As := [.int (v), .int (0), .int (11)]) (rest := []) (c_within l E σ τ v 0 11) ks_X7_59 ⟨Nat.le_of_ble_eq_true rfl, Nat.le_of_ble_eq_true rfl⟩ rfl rfl (Nat.le_of_ble_eq_true rfl) dX7_isCup_4 ?_
  exact x_zret C (nzB _) rfl rfl rfl dX7_isCup_7
set_option maxHeartbeats 4000000 in
set_option maxRecDepth 100000 in
theorem c_isKind (l : Launch) (E : xE) (σ : Nat → Nat → Int32) (τ : Nat → Int64) (v : Int32) : xMi l yX7_isKind cX7_isKind 1 .boolean 1 22 E [.int (v)] (σ) (τ) (if rng v 0 6 then 1 else 0) (σ) (τ) := by
  refine xMi_of (own := RX7) (by decide +kernel) rfl (Nat.le_of_ble_eq_true rfl) ?_
  intro zp ze zs zm za zb zh zc C
  refine WM.to (lv1 := [(0, .int (v))]) (st1 := []) (σ1 := σ) (τ1 := τ) ?_ rfl rfl rfl rfl
  refine x_iload_n C 0 dX7_isKind_0 rfl rfl ?_
  refine x_iconst C (v := 0) dX7_isKind_1 (by decide) ?_
  refine x_bipush C (v := 6) dX7_isKind_2 (by decide) ?_
  refine x_callSi C (As := [.int (v), .int (0), .int (6)]) (rest := []) (c_within l E σ τ v 0 6) ks_X7_59 ⟨Nat.le_of_ble_eq_true rfl, Nat.le_of_ble_eq_true rfl⟩ rfl rfl (Nat.le_of_ble_eq_true rfl) dX7_isKind_4 ?_
  exact x_zret C (nzB _) rfl rfl rfl dX7_isKind_7
set_option maxHeartbeats 4000000 in
set_option maxRecDepth 100000 in
theorem c_isSpot (l : Launch) (E : xE) (σ : Nat → Nat → Int32) (τ : Nat → Int64) (v : Int32) : xMi l yX7_isSpot cX7_isSpot 1 .boolean 1 22 E [.int (v)] (σ) (τ) (if rng v 0 9 then 1 else 0) (σ) (τ) := by
  refine xMi_of (own := RX7) (by decide +kernel) rfl (Nat.le_of_ble_eq_true rfl) ?_
  intro zp ze zs zm za zb zh zc C
  refine WM.to (lv1 := [(0, .int (v))]) (st1 := []) (σ1 := σ) (τ1 := τ) ?_ rfl rfl rfl rfl
  refine x_iload_n C 0 dX7_isSpot_0 rfl rfl ?_
  refine x_iconst C (v := 0) dX7_isSpot_1 (by decide) ?_
  refine x_bipush C (v := 9) dX7_isSpot_2 (by decide) ?_
  refine x_callSi C (As := [.int (v), .int (0), .int (9)]) (rest := []) (c_within l E σ τ v 0 9) ks_X7_59 ⟨Nat.le_of_ble_eq_true rfl, Nat.le_of_ble_eq_true rfl⟩ rfl rfl (Nat.le_of_ble_eq_true rfl) dX7_isSpot_4 ?_
  exact x_zret C (nzB _) rfl rfl rfl dX7_isSpot_7
set_option maxHeartbeats 4000000 in
set_option maxRecDepth 100000 in
theorem c_isSheet (l : Launch) (E : xE) (σ : Nat → Nat → Int32) (τ : Nat → Int64) (v : Int32) : xMi l yX7_isSheet cX7_isSheet 1 .boolean 1 22 E [.int (v)] (σ) (τ) (if rng v 0 3 then 1 else 0) (σ) (τ) := by
  refine xMi_of (own := RX7) (by decide +kernel) rfl (Nat.le_of_ble_eq_true rfl) ?_
  intro zp ze zs zm za zb zh zc C
  refine WM.to (lv1 := [(0, .int (v))]) (st1 := []) (σ1 := σ) (τ1 := τ) ?_ rfl rfl rfl rfl
  refine x_iload_n C 0 dX7_isSheet_0 rfl rfl ?_
  refine x_iconst C (v := 0) dX7_isSheet_1 (by decide) ?_
  refine x_iconst C (v := 3) dX7_isSheet_2 (by decide) ?_
  refine x_callSi C (As := [.int (v), .int (0), .int (3)]) (rest := []) (c_within l E σ τ v 0 3) ks_X7_59 ⟨Nat.le_of_ble_eq_true rfl, Nat.le_of_ble_eq_true rfl⟩ rfl rfl (Nat.le_of_ble_eq_true rfl) dX7_isSheet_3 ?_
  exact x_zret C (nzB _) rfl rfl rfl dX7_isSheet_6
set_option maxHeartbeats 4000000 in
set_option maxRecDepth 100000 in
theorem c_isTouch (l : Launch) (E : xE) (σ : Nat → Nat → Int32) (τ : Nat → Int64) (v : Int32) : xMi l yX7_isTouch cX7_isTouch 1 .boolean 1 22 E [.int (v)] (σ) (τ) (if rng v (-200) 200 then 1 else 0) (σ) (τ) := by
  refine xMi_of (own := RX7) (by decide +kernel) rfl (Nat.le_of_ble_eq_true rfl) ?_
  intro zp ze zs zm za zb zh zc C
  refine WM.to (lv1 := [(0, .int (v))]) (st1 := []) (σ1 := σ) (τ1 := τ) ?_ rfl rfl rfl rfl
  refine x_iload_n C 0 dX7_isTouch_0 rfl rfl ?_
  refine x_sipush C (v := -200) dX7_isTouch_1 (by decide) ?_
  refine x_sipush C (v := 200) dX7_isTouch_4 (by decide) ?_
  refine x_callSi C (As := [.int (v), .int ((-200)), .int (200)]) (rest := []) (c_within l E σ τ v (-200) 200) ks_X7_59 ⟨Nat.le_of_ble_eq_true rfl, Nat.le_of_ble_eq_true rfl⟩ rfl rfl (Nat.le_of_ble_eq_true rfl) dX7_isTouch_7 ?_
  exact x_zret C (nzB _) rfl rfl rfl dX7_isTouch_10
set_option maxHeartbeats 4000000 in
set_option maxRecDepth 100000 in
theorem c_isAhead (l : Launch) (E : xE) (σ : Nat → Nat → Int32) (τ : Nat → Int64) (v : Int32) : xMi l yX7_isAhead cX7_isAhead 1 .boolean 1 22 E [.int (v)] (σ) (τ) (if rng v 0 400 then 1 else 0) (σ) (τ) := by
  refine xMi_of (own := RX7) (by decide +kernel) rfl (Nat.le_of_ble_eq_true rfl) ?_
  intro zp ze zs zm za zb zh zc C
  refine WM.to (lv1 := [(0, .int (v))]) (st1 := []) (σ1 := σ) (τ1 := τ) ?_ rfl rfl rfl rfl
  refine x_iload_n C 0 dX7_isAhead_0 rfl rfl ?_
  refine x_iconst C (v := 0) dX7_isAhead_1 (by decide) ?_
  refine x_sipush C (v := 400) dX7_isAhead_2 (by decide) ?_
  refine x_callSi C (As := [.int (v), .int (0), .int (400)]) (rest := []) (c_within l E σ τ v 0 400) ks_X7_59 ⟨Nat.le_of_ble_eq_true rfl, Nat.le_of_ble_eq_true rfl⟩ rfl rfl (Nat.le_of_ble_eq_true rfl) dX7_isAhead_5 ?_
  exact x_zret C (nzB _) rfl rfl rfl dX7_isAhead_8
set_option maxHeartbeats 4000000 in
set_option maxRecDepth 100000 in
theorem c_isLongRun (l : Launch) (E : xE) (σ : Nat → Nat → Int32) (τ : Nat → Int64) (v : Int32) : xMi l yX7_isLongRun cX7_isLongRun 1 .boolean 1 22 E [.int (v)] (σ) (τ) (if rng v 10 400 then 1 else 0) (σ) (τ) := by
  refine xMi_of (own := RX7) (by decide +kernel) rfl (Nat.le_of_ble_eq_true rfl) ?_
  intro zp ze zs zm za zb zh zc C
  refine WM.to (lv1 := [(0, .int (v))]) (st1 := []) (σ1 := σ) (τ1 := τ) ?_ rfl rfl rfl rfl
  refine x_iload_n C 0 dX7_isLongRun_0 rfl rfl ?_
  refine x_bipush C (v := 10) dX7_isLongRun_1 (by decide) ?_
  refine x_sipush C (v := 400) dX7_isLongRun_3 (by decide) ?_
  refine x_callSi C (As := [.int (v), .int (10), .int (400)]) (rest := []) (c_within l E σ τ v 10 400) ks_X7_59 ⟨Nat.le_of_ble_eq_true rfl, Nat.le_of_ble_eq_true rfl⟩ rfl rfl (Nat.le_of_ble_eq_true rfl) dX7_isLongRun_6 ?_
  exact x_zret C (nzB _) rfl rfl rfl dX7_isLongRun_9
set_option maxHeartbeats 4000000 in
set_option maxRecDepth 100000 in
theorem c_Icmp (l : Launch) (E : xE) (σ : Nat → Nat → Int32) (τ : Nat → Int64) (x y : Int32) : xMi l yJ_Icmp cJ_Icmp 2 .int 0 0 E [.int (x), .int (y)] (σ) (τ) (cmpI x y) (σ) (τ) := by
  refine xMi_of (own := "java/lang/Integer") (by decide +kernel) rfl (Nat.le_of_ble_eq_true rfl) ?_
  intro zp ze zs zm za zb zh zc C
  refine WM.to (lv1 := [(0, .int (x)), (1, .int (y))]) (st1 := []) (σ1 := σ) (τ1 := τ) ?_ rfl rfl rfl rfl
  refine x_iload_n C 0 dJ_Icmp_0 rfl rfl ?_
  refine x_iload_n C 1 dJ_Icmp_1 rfl rfl ?_
  refine x_icmp_ge C (tgt := 9) dJ_Icmp_2 (by decide) (fun h1 => ?_) (fun h1 => ?_)
  · refine x_iload_n C 0 dJ_Icmp_9 rfl rfl ?_
    refine x_iload_n C 1 dJ_Icmp_10 rfl rfl ?_
    refine x_icmp_ne C (tgt := 18) dJ_Icmp_11 (by decide) (fun h2 => ?_) (fun h2 => ?_)
    · refine x_iconst C (v := 1) dJ_Icmp_18 (by decide) ?_
      exact x_iret C (by simp [cmpI, h1, h2]) rfl rfl dJ_Icmp_19
    · refine x_iconst C (v := 0) dJ_Icmp_14 (by decide) ?_
      refine x_goto2 C (tgt := 19) dJ_Icmp_15 (by decide) ?_
      exact x_iret C (by simp [cmpI, h1, h2]) rfl rfl dJ_Icmp_19
  · refine x_iconst C (v := -1) dJ_Icmp_5 (by decide) ?_
    refine x_goto2 C (tgt := 19) dJ_Icmp_6 (by decide) ?_
    exact x_iret C (by simp [cmpI, h1]) rfl rfl dJ_Icmp_19
set_option maxHeartbeats 4000000 in
set_option maxRecDepth 100000 in
theorem c_Lcmp (l : Launch) (E : xE) (σ : Nat → Nat → Int32) (τ : Nat → Int64) (x y : Int64) : xMi l yJ_Lcmp cJ_Lcmp 4 .int 0 0 E [.long (x), .long (y)] (σ) (τ) (cmpL x y) (σ) (τ) := by
  refine xMi_of (own := "java/lang/Long") (by decide +kernel) rfl (Nat.le_of_ble_eq_true rfl) ?_
  intro zp ze zs zm za zb zh zc C
  refine WM.to (lv1 := [(0, .long (x)), (2, .long (y))]) (st1 := []) (σ1 := σ) (τ1 := τ) ?_ rfl rfl rfl rfl
  refine x_lload_n C 0 dJ_Lcmp_0 rfl rfl ?_
  refine x_lload_n C 1 dJ_Lcmp_1 rfl rfl ?_
  refine x_lcmp C dJ_Lcmp_2 ?_
  refine x_if_ge C (tgt := 10) dJ_Lcmp_3 (by decide) (fun h1 => ?_) (fun h1 => ?_)
  · rw [xcmp_lt] at h1
    refine x_lload_n C 0 dJ_Lcmp_10 rfl rfl ?_
    refine x_lload_n C 1 dJ_Lcmp_11 rfl rfl ?_
    refine x_lcmp C dJ_Lcmp_12 ?_
    refine x_if_ne C (tgt := 20) dJ_Lcmp_13 (by decide) (fun h2 => ?_) (fun h2 => ?_)
    · rw [xcmp_eq] at h2
      refine x_iconst C (v := 1) dJ_Lcmp_20 (by decide) ?_
      exact x_iret C (by simp [cmpL, h1, h2]) rfl rfl dJ_Lcmp_21
    · rw [xcmp_eq] at h2
      refine x_iconst C (v := 0) dJ_Lcmp_16 (by decide) ?_
      refine x_goto2 C (tgt := 21) dJ_Lcmp_17 (by decide) ?_
      exact x_iret C (by simp [cmpL, h1, h2]) rfl rfl dJ_Lcmp_21
  · rw [xcmp_lt] at h1
    refine x_iconst C (v := -1) dJ_Lcmp_6 (by decide) ?_
    refine x_goto2 C (tgt := 21) dJ_Lcmp_7 (by decide) ?_
    exact x_iret C (by simp [cmpL, h1]) rfl rfl dJ_Lcmp_21
set_option maxHeartbeats 4000000 in
set_option maxRecDepth 100000 in
theorem c_fmod (l : Launch) (E : xE) (σ : Nat → Nat → Int32) (τ : Nat → Int64) (x y : Int32) (hy : ¬ y = 0) : xMi l yJ_fmod cJ_fmod 3 .int 0 0 E [.int (x), .int (y)] (σ) (τ) (fmodI x y) (σ) (τ) := by
  refine xMi_of (own := "java/lang/Math") (by decide +kernel) rfl (Nat.le_of_ble_eq_true rfl) ?_
  intro zp ze zs zm za zb zh zc C
  refine WM.to (lv1 := [(0, .int (x)), (1, .int (y))]) (st1 := []) (σ1 := σ) (τ1 := τ) ?_ rfl rfl rfl rfl
  refine x_iload_n C 0 dJ_fmod_0 rfl rfl ?_
  refine x_iload_n C 1 dJ_fmod_1 rfl rfl ?_
  refine x_irem C dJ_fmod_2 hy ?_
  refine x_istore_n C (lv1 := [(2, .int (x - x / y * y)), (0, .int (x)), (1, .int (y))]) dJ_fmod_3 rfl (by decide) rfl ?_
  refine x_iload_n C 1 dJ_fmod_4 rfl rfl ?_
  refine x_iload_n C 2 dJ_fmod_5 rfl rfl ?_
  refine x_ixor C dJ_fmod_6 ?_
  refine x_if_ge C (tgt := 18) dJ_fmod_7 (by decide) (fun h1 => ?_) (fun h1 => ?_)
  · refine x_iload_n C 0 dJ_fmod_18 rfl rfl ?_
    exact x_iret C (by simp [fmodI, xrem, h1]) rfl rfl dJ_fmod_19
  · refine x_iload_n C 0 dJ_fmod_10 rfl rfl ?_
    refine x_if_eq C (tgt := 18) dJ_fmod_11 (by decide) (fun h2 => ?_) (fun h2 => ?_)
    · refine x_iload_n C 0 dJ_fmod_18 rfl rfl ?_
      exact x_iret C (by simp [fmodI, xrem, h1, h2]) rfl rfl dJ_fmod_19
    · refine x_iload_n C 0 dJ_fmod_14 rfl rfl ?_
      refine x_iload_n C 2 dJ_fmod_15 rfl rfl ?_
      refine x_iadd C dJ_fmod_16 ?_
      exact x_iret C (by simp [fmodI, xrem, h1, h2]) rfl rfl dJ_fmod_17
set_option maxHeartbeats 4000000 in
set_option maxRecDepth 100000 in
theorem c_held (l : Launch) (E : xE) (σ : Nat → Nat → Int32) (τ : Nat → Int64) (x : Int32) : xMi l yX6_held cX6_held 1 .int 1 23 E [.int (x)] (σ) (τ) (heldG x) (σ) (τ) := by
  refine xMi_of (own := RX6) (by decide +kernel) rfl (Nat.le_of_ble_eq_true rfl) ?_
  intro zp ze zs zm za zb zh zc C
  refine WM.to (lv1 := [(0, .int (x))]) (st1 := []) (σ1 := σ) (τ1 := τ) ?_ rfl rfl rfl rfl
  refine x_sipush C (v := -600) dX6_held_0 (by decide) ?_
  refine x_iload_n C 0 dX6_held_3 rfl rfl ?_
  refine x_sipush C (v := 600) dX6_held_4 (by decide) ?_
  refine x_mmin C km_X6_58 kM_min ⟨Nat.le_of_ble_eq_true rfl, Nat.le_of_ble_eq_true rfl⟩ dX6_held_7 ?_
  refine x_mmax C km_X6_74 kM_max ⟨Nat.le_of_ble_eq_true rfl, Nat.le_of_ble_eq_true rfl⟩ dX6_held_10 ?_
  exact x_iret C (held_eq x) rfl rfl dX6_held_13
