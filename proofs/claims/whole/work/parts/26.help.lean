/-! THE OPERATIONS, over a view s: answer and view behind it -/
theorem rngN {x lo hi : Int32} {a b : Nat} (h : rng x lo hi) (ea : lo.toInt = (a : Int)) (eb : hi.toInt = (b : Int)) (hb : b < 2 ^ 31) : ∃ q : Nat, a ≤ q ∧ q ≤ b ∧ x = nI q := by
  have h1 := rng_iff.mp h
  obtain ⟨j, hj, e⟩ := nI_is (x := x) (by omega) (n := b) (by omega) hb
  refine ⟨j, ?_, hj, e⟩
  rw [e, nI_toInt (by omega), ea] at h1
  omega
theorem cvr_0 (σ : xV) : cv σ 0 = σ 0 := rfl
theorem mvr_0 (σ : xV) : mv σ 0 = σ 10 := rfl
theorem cvr_c (σ : xV) : cv σ 4 1 = σ 6 1 := rfl
theorem mvr_c (σ : xV) : mv σ 4 1 = σ 17 1 := rfl
abbrev mayQ (what v : Int32) : Prop := (what = 3 ∧ rng v 1 99) ∨ (rng what 0 2 ∧ rng v 0 99)
def loggedG (g : Nat → Int32) : Int32 := if g 10 < 40 then g 10 else 40
def logN (g : Nat → Int32) : Nat := if (g 10).toNatClampNeg < 40 then (g 10).toNatClampNeg else 40
theorem logged_eq {g : Nat → Int32} (h0 : 0 ≤ (g 10).toInt) : loggedG g = nI (logN g) := by
  obtain ⟨t, ht, et⟩ := nI_get h0
  unfold loggedG logN
  rw [et, nI_clamp ht]
  by_cases h : t < 40
  · have e : nI t < 40 := nI_lt (a := t) (b := 40) h (by decide)
    rw [if_pos h, if_pos e]
  · have e : ¬ nI t < 40 := nI_nlt (a := t) (b := 40) (by omega) ht
    rw [if_neg h, if_neg e]
    rfl
theorem logN_le (g : Nat → Int32) : logN g ≤ 40 := by
  unfold logN
  split <;> omega
def setS (q : Nat) (v : Int32) (s : xV) : Int32 × xV := (s 0 q, u2 s 0 q v)
def sp_set (what v : Int32) (s : xV) : Int32 × xV := if mayQ what v then setS what.toNatClampNeg v s else bad s
def sp_kind (cup kind : Int32) (s : xV) : Int32 × xV := if rng cup 0 11 ∧ rng kind 0 6 then setS (32 + cup.toNatClampNeg) kind s else bad s
def cupS (q : Nat) (what : Int32) (g : Nat → Int32) : Int32 := if what = 0 then g (32 + q) else if what = 1 then g (20 + q) else if what = 2 then placeG g q else if what = 3 then roomG g q else leakG g q
def sp_cupOf (cup what : Int32) (s : xV) : Int32 × xV := if rng cup 0 11 ∧ rng what 0 4 then (cupS cup.toNatClampNeg what (s 0), s) else bad s
def fillS (q : Nat) (n : Int32) (s : xV) : Int32 × xV := if roomG (s 0) q - s 0 (20 + q) < n then full s else (s 0 (20 + q) + n, u2 s 0 (20 + q) (s 0 (20 + q) + n))
def sp_fill (cup n : Int32) (s : xV) : Int32 × xV := if rng cup 0 11 ∧ rng n 1 999 then fillS cup.toNatClampNeg n s else bad s
def sp_empty (cup : Int32) (s : xV) : Int32 × xV := if rng cup 0 11 then setS (20 + cup.toNatClampNeg) 0 s else bad s
def sp_touch (y : Int32) (s : xV) : Int32 × xV := if rng y (-200) 200 then (touchG (s 0) y 4, va_up s 0 (touchG (s 0) y)) else bad s
def sp_stop (a : Int32) (s : xV) : Int32 × xV := if rng a 0 1199 then (s 0 4, u2 (u2 s 0 4 0) 0 5 a) else bad s
def tickS (q : Nat) (s : xV) : Int32 × xV := (stepsG (s 0) q 4, va_up s 0 (stepsG (s 0) q))
def sp_tick (n : Int32) (s : xV) : Int32 × xV := if rng n 1 100 then tickS n.toNatClampNeg s else bad s
def nowS (what : Int32) (g : Nat → Int32) : Int32 := if what = 0 then g 4 else if what = 1 then g 5 else if what = 2 then g 6 else if what = 3 then waterN g 12 else if what = 4 then g 7 else if what = 5 then g 8 else if what = 6 then g 9 else topG g
def sp_now (what : Int32) (s : xV) : Int32 × xV := if rng what 0 7 then (nowS what (s 0), s) else bad s
def sp_torque (s : xV) : Int32 × xV := (pullN (s 0) 12, s)
def turnS (i w : Nat) (s : xV) : Int32 × xV := (s 0 (44 + 2 * i + w), s)
def sp_turn (i what : Int32) (s : xV) : Int32 × xV := if rng i 0 (loggedG (s 0) - 1) ∧ rng what 0 1 then turnS i.toNatClampNeg what.toNatClampNeg s else bad s
def risN (g : Nat → Int32) : Nat → Int32
  | 0 => 0
  | k + 1 => if g (45 + 2 * k) < g (45 + 2 * (k + 1)) then risN g k + 1 else risN g k
def sp_rising (s : xV) : Int32 × xV := (risN (s 0) (logN (s 0) - 1), s)
def quickN (g : Nat → Int32) : Nat → Int32
  | 0 => g 46 - g 44
  | k + 1 => if g (44 + 2 * (k + 2)) - g (44 + 2 * (k + 1)) < quickN g k then g (44 + 2 * (k + 2)) - g (44 + 2 * (k + 1)) else quickN g k
def sp_quickest (s : xV) : Int32 × xV := if loggedG (s 0) < 2 then noneF s else (quickN (s 0) (logN (s 0) - 2), s)
def offG (g : Nat → Int32) (v : Int32) (i : Nat) : Int32 := if v < g (45 + 2 * i) then g (45 + 2 * i) - v else v - g (45 + 2 * i)
def bestN (g : Nat → Int32) (v : Int32) : Nat → Nat
  | 0 => 0
  | k + 1 => if offG g v (k + 1) < offG g v (bestN g v k) then k + 1 else bestN g v k
def sp_nextPeak (v : Int32) (s : xV) : Int32 × xV := if rng v 0 600 then (if loggedG (s 0) < 2 then noneF s else (s 0 (45 + 2 * (bestN (s 0) v (logN (s 0) - 2) + 1)), s)) else bad s
def sp_wipe (s : xV) : Int32 × xV := (s 4 1, u2 s 4 1 0)
def byteK (b : Int32) (i : Nat) : Int32 := (b >>> (nI (8 * i) &&& 31)) &&& 255
def feedK (b : Int32) (q t : Nat) (s : xV) : Nat → xV
  | 0 => s
  | j + 1 => u2 (u2 (feedK b q t s j) 3 (t + j) (byteK b (q - 1 - j))) 4 1 (nI (t + j + 1))
def feedS (b : Int32) (q : Nat) (s : xV) : Int32 × xV := (nI ((s 4 1).toNatClampNeg + q), feedK b q (s 4 1).toNatClampNeg s q)
def sp_feed (b n : Int32) (s : xV) : Int32 × xV := if rng n 1 4 then (if 100 < s 4 1 + n then full s else feedS b n.toNatClampNeg s) else bad s
def sp_seed (v : Int32) (s : xV) : Int32 × xV := setS 12 v s
def sp_hold (spot cup : Int32) (s : xV) : Int32 × xV := if rng spot 0 9 ∧ (cup = -1 ∨ rng cup 0 11) then (1, u2 s 0 (124 + spot.toNatClampNeg) cup) else bad s
def asS (cup kind : Int32) (s : xV) : Int32 × xV := if cup < 0 then miss s else if isK (s 0 (32 + cup.toNatClampNeg)) kind then (cup, s) else kindF s
def sp_as (spot kind : Int32) (s : xV) : Int32 × xV := if rng spot 0 9 ∧ rng kind 0 6 then asS (s 0 (124 + spot.toNatClampNeg)) kind s else bad s
def sp_tear (s : xV) : Int32 × xV := (if s 4 0 = 0 then 0 else 1, u2 (va_up s 1 (fun _ => 0)) 4 0 0)
def sp_image (s : xV) : Int32 × xV := (1, u2 (va_up s 1 (s 0)) 4 0 1)
def sp_undo (s : xV) : Int32 × xV := if s 4 0 = 0 then noneF s else (s 1 9, va_up s 0 (s 1))
def sp_count (what : Int32) (s : xV) : Int32 × xV := if rng what 0 3 then (s 0 what.toNatClampNeg, s) else if what = 4 then (loggedG (s 0), s) else if what = 5 then (s 0 10, s) else if what = 6 then (s 0 13, s) else if what = 7 then (s 4 1, s) else if what = 8 then (s 0 12, s) else bad s
def sumN (F : Nat → Int32) : Nat → Int32
  | 0 => 0
  | k + 1 => sumN F k + F k
def sp_status (which : Int32) (s : xV) : Int32 × xV := if which = -1 then (sumN (s 2) 7, s) else if rng which 0 6 then (s 2 which.toNatClampNeg, s) else bad s
/-! small helpers of the operations -/
theorem rng_nI {j : Nat} {hi : Int32} {b : Nat} (h : j ≤ b) (e : hi.toInt = (b : Int)) : rng (nI j) 0 hi := by
  have hb := (i32_cases hi).2
  rw [rng_iff, nI_toInt (by omega), tI_0]
  omega
theorem if_eq {P Q : Prop} [Decidable P] [Decidable Q] (h : P ↔ Q) : (if P then (1 : Int32) else 0) = if Q then 1 else 0 := by
  by_cases hp : P
  · rw [if_pos hp, if_pos (h.mp hp)]
  · rw [if_neg hp, if_neg (fun q => hp (h.mpr q))]
set_option maxHeartbeats 4000000 in
set_option maxRecDepth 100000 in
theorem cW_logged (l : Launch) (E : xE) (σ : Nat → Nat → Int32) (τ : Nat → Int64) (w : Nat) (hw : w < 4) (g : Nat → Int32) : xMi l yX6_logged cX6_logged 1 .int 1 23 E [.ref (xad E (wc w))] (va_up σ w (g)) (τ) (loggedG g) (va_up σ w (g)) (τ) := by
  refine xMi_of (own := RX6) (by decide +kernel) rfl (Nat.le_of_ble_eq_true rfl) ?_
  intro zp ze zs zm za zb zh zc C
  refine WM.to (lv1 := [(0, .ref (xad E (wc w)))]) (st1 := []) (σ1 := va_up σ w (g)) (τ1 := τ) ?_ rfl rfl rfl rfl
  refine x_aload_n C 0 dX6_logged_0 rfl rfl ?_
  refine x_get C (by have := wc_lt hw; omega) (wd_0 hw) fl_X6_52 (q := (1, w, 10)) (v := .int (g 10)) rfl (congrArg Value.int (congrFun (va_up_self _ _ _) _)) dX6_logged_1 ?_
  refine x_bipush C (v := 40) dX6_logged_4 (by decide) ?_
  refine x_mmin C km_X6_58 kM_min ⟨Nat.le_of_ble_eq_true rfl, Nat.le_of_ble_eq_true rfl⟩ dX6_logged_6 ?_
  exact x_iret C (twice_eq _ _) rfl rfl dX6_logged_9
set_option maxHeartbeats 4000000 in
set_option maxRecDepth 100000 in
theorem c_finding (l : Launch) (E : xE) (σ : Nat → Nat → Int32) (τ : Nat → Int64) (j : Nat) (hj : j < 7) (x : Int32) (hx : (-1000001) - x = nI j) : xMi l yX7_finding cX7_finding 3 .int 1 22 E [.ref (xad E (0)), .int (x)] (σ) (τ) (x) (u2 σ 4 j (σ 4 j + 1)) (τ) := by
  refine xMi_of (own := RX7) (by decide +kernel) rfl (Nat.le_of_ble_eq_true rfl) ?_
  intro zp ze zs zm za zb zh zc C
  refine WM.to (lv1 := [(0, .ref (xad E (0))), (1, .int (x))]) (st1 := []) (σ1 := σ) (τ1 := τ) ?_ rfl rfl rfl rfl
  refine x_ldc C dX7_finding_0 kc_X7_63 ?_
  refine x_iload_n C 1 dX7_finding_2 rfl rfl ?_
  refine x_isub C dX7_finding_3 ?_
  refine WM.topi (y := nI j) hx ?_
  refine x_istore_n C (lv1 := [(2, .int (nI j)), (0, .ref (xad E (0))), (1, .int (x))]) dX7_finding_4 rfl (by decide) rfl ?_
  refine x_iload_n C 0 dX7_finding_5 rfl rfl ?_
  refine x_iconst C (v := 0) dX7_finding_6 (by decide) ?_
  refine x_bipush C (v := 6) dX7_finding_7 (by decide) ?_
  refine x_callSi C (As := [.int (nI j), .int (0), .int (6)]) (rest := []) (c_within l E σ τ (nI j) 0 6) ks_X7_59 ⟨Nat.le_of_ble_eq_true rfl, Nat.le_of_ble_eq_true rfl⟩ rfl rfl (Nat.le_of_ble_eq_true rfl) dX7_finding_9 ?_
  refine x_ifeqB C (tgt := 25) dX7_finding_12 (by decide) (fun h1 => absurd (rng_nI (b := 6) (by omega) (by decide)) h1) (fun h1 => ?_)
  refine x_aload_n C 1 dX7_finding_15 rfl rfl ?_
  refine x_get C (Nat.le_of_ble_eq_true rfl) xd_0 fl_X7_54 (q := (0, 72, 0)) (v := .ref (xad E (72))) rfl rfl dX7_finding_16 ?_
  refine x_iload_n C 0 dX7_finding_19 rfl rfl ?_
  refine x_dup2 C dX7_finding_20 rfl rfl ?_
  refine x_ald C (Nat.le_of_ble_eq_true rfl) xd_72 (v := σ 4 j) (vp_in_nI (show j < 7 by omega) (by decide)) (by rw [(nI_clamp (show j < 2 ^ 31 by omega)), Nat.zero_add, Nat.one_mul]) dX7_finding_21 ?_
  refine x_iconst C (v := 1) dX7_finding_22 (by decide) ?_
  refine x_iadd C dX7_finding_23 ?_
  refine x_ast C (σ' := u2 σ 4 j ((σ 4 j) + 1)) (Nat.le_of_ble_eq_true rfl) xd_72 (by decide) (vp_in_nI (show j < 7 by omega) (by decide)) (by rw [(nI_clamp (show j < 2 ^ 31 by omega)), Nat.zero_add, Nat.one_mul]) dX7_finding_24 ?_
  refine x_iload_n C 2 dX7_finding_25 rfl rfl ?_
  exact x_iret C rfl rfl rfl dX7_finding_26
set_option maxHeartbeats 4000000 in
set_option maxRecDepth 100000 in
theorem c_finds (l : Launch) (E : xE) (σ : Nat → Nat → Int32) (τ : Nat → Int64) (j : Nat) (hj : j < 7) (x : Int32) (hx : (-1000001) - x = nI j) : xMi l yX8_finds cX8_finds 2 .int 0 0 E [.ref (xad E (81)), .int (x)] (σ) (τ) (x) (u2 σ 14 j (σ 14 j + 1)) (τ) := by
  refine xMi_of (own := RX8) (by decide +kernel) rfl (Nat.le_of_ble_eq_true rfl) ?_
  intro zp ze zs zm za zb zh zc C
  refine WM.to (lv1 := [(0, .ref (xad E (81))), (1, .int (x))]) (st1 := []) (σ1 := σ) (τ1 := τ) ?_ rfl rfl rfl rfl
  refine x_aload_n C 0 dX8_finds_0 rfl rfl ?_
  refine x_get C (Nat.le_of_ble_eq_true rfl) xd_81 fl_X8_22 (q := (0, 86, 0)) (v := .ref (xad E (86))) rfl rfl dX8_finds_1 ?_
  refine x_ldc C dX8_finds_4 kc_X8_46 ?_
  refine x_iload_n C 1 dX8_finds_6 rfl rfl ?_
  refine x_isub C dX8_finds_7 ?_
  refine WM.topi (y := nI j) hx ?_
  refine x_dup2 C dX8_finds_8 rfl rfl ?_
  refine x_ald C (Nat.le_of_ble_eq_true rfl) xd_86 (v := σ 14 j) (vp_in_nI (show j < 7 by omega) (by decide)) (by rw [(nI_clamp (show j < 2 ^ 31 by omega)), Nat.zero_add, Nat.one_mul]) dX8_finds_9 ?_
  refine x_iconst C (v := 1) dX8_finds_10 (by decide) ?_
  refine x_iadd C dX8_finds_11 ?_
  refine x_ast C (σ' := u2 σ 14 j ((σ 14 j) + 1)) (Nat.le_of_ble_eq_true rfl) xd_86 (by decide) (vp_in_nI (show j < 7 by omega) (by decide)) (by rw [(nI_clamp (show j < 2 ^ 31 by omega)), Nat.zero_add, Nat.one_mul]) dX8_finds_12 ?_
  refine x_iload_n C 1 dX8_finds_13 rfl rfl ?_
  exact x_iret C rfl rfl rfl dX8_finds_14
set_option maxHeartbeats 4000000 in
set_option maxRecDepth 100000 in
theorem c_mayBe (l : Launch) (E : xE) (σ : Nat → Nat → Int32) (τ : Nat → Int64) (what v : Int32) : xMi l yX8_mayBe cX8_mayBe 2 .boolean 1 25 E [.int (what), .int (v)] (σ) (τ) (if mayQ what v then 1 else 0) (σ) (τ) := by
  refine xMi_of (own := RX8) (by decide +kernel) rfl (Nat.le_of_ble_eq_true rfl) ?_
  intro zp ze zs zm za zb zh zc C
  refine WM.to (lv1 := [(0, .int (what)), (1, .int (v))]) (st1 := []) (σ1 := σ) (τ1 := τ) ?_ rfl rfl rfl rfl
  refine x_iload_n C 0 dX8_mayBe_0 rfl rfl ?_
  refine x_iconst C (v := 3) dX8_mayBe_1 (by decide) ?_
  refine x_icmp_ne C (tgt := 17) dX8_mayBe_2 (by decide) (fun h1 => ?_) (fun h1 => ?_)
  · refine x_iload_n C 0 dX8_mayBe_17 rfl rfl ?_
    refine x_i2l C dX8_mayBe_18 ?_
    refine x_lconst C (v := 0) dX8_mayBe_19 (by decide) ?_
    refine x_ldc2 C dX8_mayBe_20 kc_X8_55 ?_
    refine x_callSi C (As := [.long (Int32.toInt64 what), .long (0), .long (2)]) (rest := []) (c_in l E σ τ (Int32.toInt64 what) 0 2) ks_X8_49 ⟨Nat.le_of_ble_eq_true rfl, Nat.le_of_ble_eq_true rfl⟩ rfl rfl (Nat.le_of_ble_eq_true rfl) dX8_mayBe_23 ?_
    refine WM.topi (y := if rng what 0 2 then 1 else 0) (in_eq what 0 2 (by decide) (by decide)) ?_
    refine x_ifeqB C (tgt := 45) dX8_mayBe_26 (by decide) (fun h2 => ?_) (fun h2 => ?_)
    · refine x_iconst C (v := 0) dX8_mayBe_45 (by decide) ?_
      exact x_zret C (by first | rfl | exact nzB _) (if_neg (by simp only [mayQ, rng, tI_lt, tI_eq, tl_0, tl_1, tl_2, tl_3, tl_99] at h1 h2 ⊢ <;> omega)).symm rfl rfl dX8_mayBe_46
    · refine x_iload_n C 1 dX8_mayBe_29 rfl rfl ?_
      refine x_i2l C dX8_mayBe_30 ?_
      refine x_lconst C (v := 0) dX8_mayBe_31 (by decide) ?_
      refine x_ldc2 C dX8_mayBe_32 kc_X8_53 ?_
      refine x_callSi C (As := [.long (Int32.toInt64 v), .long (0), .long (99)]) (rest := []) (c_in l E σ τ (Int32.toInt64 v) 0 99) ks_X8_49 ⟨Nat.le_of_ble_eq_true rfl, Nat.le_of_ble_eq_true rfl⟩ rfl rfl (Nat.le_of_ble_eq_true rfl) dX8_mayBe_35 ?_
      refine WM.topi (y := if rng v 0 99 then 1 else 0) (in_eq v 0 99 (by decide) (by decide)) ?_
      refine x_ifeqB C (tgt := 45) dX8_mayBe_38 (by decide) (fun h3 => ?_) (fun h3 => ?_)
      · refine x_iconst C (v := 0) dX8_mayBe_45 (by decide) ?_
        exact x_zret C (by first | rfl | exact nzB _) (if_neg (by simp only [mayQ, rng, tI_lt, tI_eq, tl_0, tl_1, tl_2, tl_3, tl_99] at h1 h2 h3 ⊢ <;> omega)).symm rfl rfl dX8_mayBe_46
      · refine x_iconst C (v := 1) dX8_mayBe_41 (by decide) ?_
        refine x_goto2 C (tgt := 46) dX8_mayBe_42 (by decide) ?_
        exact x_zret C (by first | rfl | exact nzB _) (if_pos (by simp only [mayQ, rng, tI_lt, tI_eq, tl_0, tl_1, tl_2, tl_3, tl_99] at h1 h2 h3 ⊢ <;> omega)).symm rfl rfl dX8_mayBe_46
  · refine x_iload_n C 1 dX8_mayBe_5 rfl rfl ?_
    refine x_i2l C dX8_mayBe_6 ?_
    refine x_lconst C (v := 1) dX8_mayBe_7 (by decide) ?_
    refine x_ldc2 C dX8_mayBe_8 kc_X8_53 ?_
    refine x_callSi C (As := [.long (Int32.toInt64 v), .long (1), .long (99)]) (rest := []) (c_in l E σ τ (Int32.toInt64 v) 1 99) ks_X8_49 ⟨Nat.le_of_ble_eq_true rfl, Nat.le_of_ble_eq_true rfl⟩ rfl rfl (Nat.le_of_ble_eq_true rfl) dX8_mayBe_11 ?_
    refine WM.topi (y := if rng v 1 99 then 1 else 0) (in_eq v 1 99 (by decide) (by decide)) ?_
    refine x_goto2 C (tgt := 46) dX8_mayBe_14 (by decide) ?_
    exact x_zret C (by first | rfl | exact nzB _) (if_eq (by simp only [mayQ, rng, tI_lt, tI_eq, tl_0, tl_1, tl_2, tl_3, tl_99] at h1 ⊢ <;> omega)) rfl rfl dX8_mayBe_46
