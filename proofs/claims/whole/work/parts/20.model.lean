/-! the reference's rows of numbers -/
theorem xm_lt {b : Nat} (hb : b = 10 ∨ b = 11 ∨ b = 12) : 72 + b < 94 := by omega
theorem xm_d {b : Nat} (hb : b = 10 ∨ b = 11 ∨ b = 12) : xd (72 + b) = (9, [(284, b, 0), (1, 0, 0)]) := by
  rcases hb with rfl | rfl | rfl <;> rfl
def heldL (v : Int64) (lo hi : Int32) : Int32 := if v < lo.toInt64 then lo else if hi.toInt64 < v then hi else v.toInt32
theorem heldL_eq (x : Int32) : heldL x.toInt64 (-600) 600 = heldG x := by
  unfold heldL heldG
  have e : ∀ a b : Int32, a.toInt64 < b.toInt64 ↔ a < b := fun a b => by rw [Int64.lt_iff_toInt_lt, toL, toL, tI_lt]
  simp only [e]
  rw [Int32.toInt32_toInt64]
theorem in_eq (v lo hi : Int32) {LO HI : Int64} (h1 : lo.toInt64 = LO) (h2 : hi.toInt64 = HI) : (if rngL v.toInt64 LO HI then (1 : Int32) else 0) = if rng v lo hi then 1 else 0 := by
  subst h1
  subst h2
  by_cases h : rng v lo hi
  · rw [if_pos h, if_pos (rngL_iff.mpr h)]
  · rw [if_neg h, if_neg (fun q => h (rngL_iff.mp q))]
theorem xswap {σ : Nat → Nat → Int32} {a b : Nat} {f g : Nat → Int32} (h : a ≠ b) : va_up (va_up σ a f) b g = va_up (va_up σ b g) a f := by
  funext z
  by_cases h1 : z = b
  · subst h1
    rw [va_up_self, va_up_ne _ _ (Ne.symm h), va_up_self]
  · rw [va_up_ne _ _ h1]
    by_cases h2 : z = a
    · subst h2
      rw [va_up_self, va_up_self]
    · rw [va_up_ne _ _ h2, va_up_ne _ _ h2, va_up_ne _ _ h1]
theorem u2_bk (σ : Nat → Nat → Int32) (b i : Nat) (x : Int32) : u2 σ b i x b = upd (σ b) i x := va_up_self _ _ _
theorem u2_bk_ne (σ : Nat → Nat → Int32) {c b : Nat} (i : Nat) (x : Int32) (h : c ≠ b) : u2 σ b i x c = σ c := va_up_ne _ _ h
theorem touch_0 {g : Nat → Int32} {y : Int32} (h : heldG (g 4 + y) = 0) : upd (upd g 4 (heldG (g 4 + y))) 6 (g 6) = touchG g y := by
  unfold touchG
  rw [if_pos h]
theorem touch_p {g : Nat → Int32} {y : Int32} (h : ¬ heldG (g 4 + y) = 0) (h2 : 0 < heldG (g 4 + y)) : upd (upd g 4 (heldG (g 4 + y))) 6 1 = touchG g y := by
  unfold touchG sgn
  rw [if_neg h, if_neg (by rw [tI_lt] at h2 ⊢; omega), if_neg h]
theorem touch_n {g : Nat → Int32} {y : Int32} (h : ¬ heldG (g 4 + y) = 0) (h2 : ¬ 0 < heldG (g 4 + y)) : upd (upd g 4 (heldG (g 4 + y))) 6 (-1) = touchG g y := by
  unfold touchG sgn
  rw [if_neg h, if_pos (by rw [tI_lt] at h2 ⊢; rw [tI_eq] at h; omega)]
theorem lev_at {σ : Nat → Nat → Int32} {b : Nat} {g : Nat → Int32} (hlv : ∀ j, j < 12 → σ 15 j = (xzl 1).getD j 0) (hb : b = 10 ∨ b = 11 ∨ b = 12) (hg : gI g) {c : Nat} (hc : c < 12) : (va_up σ b g) 15 (0 + 1 * (placeG g c).toNatClampNeg) = levG (placeG g c) := by
  rw [va_up_ne _ _ (by omega), Nat.zero_add, Nat.one_mul]
  have h : (placeG g c).toNatClampNeg < 12 := Nat.not_le.mp fun q => (place_in hg hc) (Or.inr q)
  exact hlv _ h
set_option maxHeartbeats 4000000 in
set_option maxRecDepth 100000 in
theorem c_in (l : Launch) (E : xE) (σ : Nat → Nat → Int32) (τ : Nat → Int64) (v lo hi : Int64) : xMi l yX8_in cX8_in 6 .boolean 0 0 E [.long (v), .long (lo), .long (hi)] (σ) (τ) (if rngL v lo hi then 1 else 0) (σ) (τ) := by
  refine xMi_of (own := RX8) (by decide +kernel) rfl (Nat.le_of_ble_eq_true rfl) ?_
  intro zp ze zs zm za zb zh zc C
  refine WM.to (lv1 := [(0, .long (v)), (2, .long (lo)), (4, .long (hi))]) (st1 := []) (σ1 := σ) (τ1 := τ) ?_ rfl rfl rfl rfl
  refine x_lload_n C 0 dX8_in_0 rfl rfl ?_
  refine x_lload_n C 1 dX8_in_1 rfl rfl ?_
  refine x_lcmp C dX8_in_2 ?_
  refine x_if_lt C (tgt := 17) dX8_in_3 (by decide) (fun h1 => ?_) (fun h1 => ?_)
  · rw [xcmp_lt] at h1
    refine x_iconst C (v := 0) dX8_in_17 (by decide) ?_
    exact x_zret C rfl (by simp [h1]) rfl rfl dX8_in_18
  · rw [xcmp_lt] at h1
    refine x_lload_n C 0 dX8_in_6 rfl rfl ?_
    refine x_lload C 2 dX8_in_7 rfl ?_
    refine x_lcmp C dX8_in_9 ?_
    refine x_if_gt C (tgt := 17) dX8_in_10 (by decide) (fun h2 => ?_) (fun h2 => ?_)
    · rw [xcmp_gt] at h2
      refine x_iconst C (v := 0) dX8_in_17 (by decide) ?_
      exact x_zret C rfl (by simp [h1, h2]) rfl rfl dX8_in_18
    · rw [xcmp_gt] at h2
      refine x_iconst C (v := 1) dX8_in_13 (by decide) ?_
      refine x_goto2 C (tgt := 18) dX8_in_14 (by decide) ?_
      exact x_zret C rfl (by simp [h1, h2]) rfl rfl dX8_in_18
set_option maxHeartbeats 4000000 in
set_option maxRecDepth 100000 in
theorem c_mheld (l : Launch) (E : xE) (σ : Nat → Nat → Int32) (τ : Nat → Int64) (v : Int64) (lo hi : Int32) : xMi l yX8_held cX8_held 4 .int 0 0 E [.long (v), .int (lo), .int (hi)] (σ) (τ) (heldL v lo hi) (σ) (τ) := by
  refine xMi_of (own := RX8) (by decide +kernel) rfl (Nat.le_of_ble_eq_true rfl) ?_
  intro zp ze zs zm za zb zh zc C
  refine WM.to (lv1 := [(0, .long (v)), (2, .int (lo)), (3, .int (hi))]) (st1 := []) (σ1 := σ) (τ1 := τ) ?_ rfl rfl rfl rfl
  refine x_lload_n C 0 dX8_held_0 rfl rfl ?_
  refine x_iload_n C 1 dX8_held_1 rfl rfl ?_
  refine x_i2l C dX8_held_2 ?_
  refine x_lcmp C dX8_held_3 ?_
  refine x_if_ge C (tgt := 12) dX8_held_4 (by decide) (fun h1 => ?_) (fun h1 => ?_)
  · rw [xcmp_lt] at h1
    refine x_lload_n C 0 dX8_held_12 rfl rfl ?_
    refine x_iload_n C 2 dX8_held_13 rfl rfl ?_
    refine x_i2l C dX8_held_14 ?_
    refine x_lcmp C dX8_held_15 ?_
    refine x_if_le C (tgt := 24) dX8_held_16 (by decide) (fun h2 => ?_) (fun h2 => ?_)
    · rw [xcmp_gt] at h2
      refine x_lload_n C 0 dX8_held_24 rfl rfl ?_
      refine x_l2i C dX8_held_25 ?_
      exact x_iret C (by unfold heldL; rw [if_neg h1, if_neg h2]) rfl rfl dX8_held_26
    · rw [xcmp_gt] at h2
      refine x_iload_n C 2 dX8_held_19 rfl rfl ?_
      refine x_i2l C dX8_held_20 ?_
      refine x_goto2 C (tgt := 25) dX8_held_21 (by decide) ?_
      refine x_l2i C dX8_held_25 ?_
      exact x_iret C (by unfold heldL; rw [if_neg h1, if_pos h2]; exact Int32.toInt32_toInt64 _) rfl rfl dX8_held_26
  · rw [xcmp_lt] at h1
    refine x_iload_n C 1 dX8_held_7 rfl rfl ?_
    refine x_i2l C dX8_held_8 ?_
    refine x_goto2 C (tgt := 25) dX8_held_9 (by decide) ?_
    refine x_l2i C dX8_held_25 ?_
    exact x_iret C (by unfold heldL; rw [if_pos h1]; exact Int32.toInt32_toInt64 _) rfl rfl dX8_held_26
set_option maxHeartbeats 4000000 in
set_option maxRecDepth 100000 in
theorem c_misCup (l : Launch) (E : xE) (σ : Nat → Nat → Int32) (τ : Nat → Int64) (v : Int32) : xMi l yX8_isCup cX8_isCup 1 .boolean 1 25 E [.int (v)] (σ) (τ) (if rng v 0 11 then 1 else 0) (σ) (τ) := by
  refine xMi_of (own := RX8) (by decide +kernel) rfl (Nat.le_of_ble_eq_true rfl) ?_
  intro zp ze zs zm za zb zh zc C
  refine WM.to (lv1 := [(0, .int (v))]) (st1 := []) (σ1 := σ) (τ1 := τ) ?_ rfl rfl rfl rfl
  refine x_iload_n C 0 dX8_isCup_0 rfl rfl ?_
  refine x_i2l C dX8_isCup_1 ?_
  refine x_lconst C (v := 0) dX8_isCup_2 (by decide) ?_
  refine x_ldc2 C dX8_isCup_3 kc_X8_47 ?_
  refine x_callSi C (As := [.long (Int32.toInt64 v), .long (0), .long (11)]) (rest := []) (c_in l E σ τ (Int32.toInt64 v) 0 11) ks_X8_49 ⟨Nat.le_of_ble_eq_true rfl, Nat.le_of_ble_eq_true rfl⟩ rfl rfl (Nat.le_of_ble_eq_true rfl) dX8_isCup_6 ?_
  refine WM.topi (y := if rng v 0 11 then 1 else 0) (in_eq v 0 11 (by decide) (by decide)) ?_
  exact x_zret C (nzB _) rfl rfl rfl dX8_isCup_9
set_option maxHeartbeats 4000000 in
set_option maxRecDepth 100000 in
theorem c_misSheet (l : Launch) (E : xE) (σ : Nat → Nat → Int32) (τ : Nat → Int64) (v : Int32) : xMi l yX8_isSheet cX8_isSheet 1 .boolean 1 25 E [.int (v)] (σ) (τ) (if rng v 0 3 then 1 else 0) (σ) (τ) := by
  refine xMi_of (own := RX8) (by decide +kernel) rfl (Nat.le_of_ble_eq_true rfl) ?_
  intro zp ze zs zm za zb zh zc C
  refine WM.to (lv1 := [(0, .int (v))]) (st1 := []) (σ1 := σ) (τ1 := τ) ?_ rfl rfl rfl rfl
  refine x_iload_n C 0 dX8_isSheet_0 rfl rfl ?_
  refine x_i2l C dX8_isSheet_1 ?_
  refine x_lconst C (v := 0) dX8_isSheet_2 (by decide) ?_
  refine x_ldc2 C dX8_isSheet_3 kc_X8_233 ?_
  refine x_callSi C (As := [.long (Int32.toInt64 v), .long (0), .long (3)]) (rest := []) (c_in l E σ τ (Int32.toInt64 v) 0 3) ks_X8_49 ⟨Nat.le_of_ble_eq_true rfl, Nat.le_of_ble_eq_true rfl⟩ rfl rfl (Nat.le_of_ble_eq_true rfl) dX8_isSheet_6 ?_
  refine WM.topi (y := if rng v 0 3 then 1 else 0) (in_eq v 0 3 (by decide) (by decide)) ?_
  exact x_zret C (nzB _) rfl rfl rfl dX8_isSheet_9
set_option maxHeartbeats 4000000 in
set_option maxRecDepth 100000 in
theorem cM_placeOf (l : Launch) (E : xE) (σ : Nat → Nat → Int32) (τ : Nat → Int64) (b : Nat) (hb : b = 10 ∨ b = 11 ∨ b = 12) (g : Nat → Int32) (q : Nat) (hc : q < 12) : xMi l yX8_placeOf cX8_placeOf 2 .int 0 0 E [.ref (xad E (72 + b)), .int (nI q)] (va_up σ b (g)) (τ) (placeG g q) (va_up σ b (g)) (τ) := by
  refine xMi_of (own := RX8) (by decide +kernel) rfl (Nat.le_of_ble_eq_true rfl) ?_
  intro zp ze zs zm za zb zh zc C
  refine WM.to (lv1 := [(0, .ref (xad E (72 + b))), (1, .int (nI q))]) (st1 := []) (σ1 := va_up σ b (g)) (τ1 := τ) ?_ rfl rfl rfl rfl
  refine x_iload_n C 1 dX8_placeOf_0 rfl rfl ?_
  refine x_aload_n C 0 dX8_placeOf_1 rfl rfl ?_
  refine x_iconst C (v := 5) dX8_placeOf_2 (by decide) ?_
  refine x_ald C (xm_lt hb) (xm_d hb) (v := g 5) (vp_in_nI (show 5 < 284 by omega) (by decide)) (by rw [(show (5 : Int32).toNatClampNeg = 5 from by decide), Nat.zero_add, Nat.one_mul]; exact (congrFun (va_up_self _ _ _) _)) dX8_placeOf_3 ?_
  refine x_bipush C (v := 100) dX8_placeOf_4 (by decide) ?_
  refine x_idiv C dX8_placeOf_6 (by decide) ?_
  refine x_iadd C dX8_placeOf_7 ?_
  refine x_bipush C (v := 12) dX8_placeOf_8 (by decide) ?_
  refine x_irem C dX8_placeOf_10 (by decide) ?_
  exact x_iret C rfl rfl rfl dX8_placeOf_11
set_option maxHeartbeats 4000000 in
set_option maxRecDepth 100000 in
theorem cM_roomOf (l : Launch) (E : xE) (σ : Nat → Nat → Int32) (τ : Nat → Int64) (b : Nat) (hb : b = 10 ∨ b = 11 ∨ b = 12) (g : Nat → Int32) (q : Nat) (hc : q < 12) : xMi l yX8_roomOf cX8_roomOf 2 .int 0 0 E [.ref (xad E (72 + b)), .int (nI q)] (va_up σ b (g)) (τ) (roomG g q) (va_up σ b (g)) (τ) := by
  refine xMi_of (own := RX8) (by decide +kernel) rfl (Nat.le_of_ble_eq_true rfl) ?_
  intro zp ze zs zm za zb zh zc C
  refine WM.to (lv1 := [(0, .ref (xad E (72 + b))), (1, .int (nI q))]) (st1 := []) (σ1 := va_up σ b (g)) (τ1 := τ) ?_ rfl rfl rfl rfl
  refine x_aload_n C 0 dX8_roomOf_0 rfl rfl ?_
  refine x_bipush C (v := 32) dX8_roomOf_1 (by decide) ?_
  refine x_iload_n C 1 dX8_roomOf_3 rfl rfl ?_
  refine x_iadd C dX8_roomOf_4 ?_
  refine WM.topi (y := nI (32 + q)) (nI_add 32 q) ?_
  refine x_ald C (xm_lt hb) (xm_d hb) (v := g (32 + q)) (vp_in_nI (show 32 + q < 284 by omega) (by decide)) (by rw [(nI_clamp (show 32 + q < 2 ^ 31 by omega)), Nat.zero_add, Nat.one_mul]; exact (congrFun (va_up_self _ _ _) _)) dX8_roomOf_5 ?_
  by_cases t1 : g (32 + q) = 4
  · refine WM.topi (y := 4) t1 ?_
    refine x_tableIn C (tgt := 32) dX8_roomOf_6 (by decide) (by decide) rfl (by decide) ?_
    refine x_sipush C (v := 200) dX8_roomOf_32 (by decide) ?_
    exact x_iret C (by unfold roomG roomK; simp [t1]) rfl rfl dX8_roomOf_35
  · by_cases t2 : g (32 + q) = 5
    · refine WM.topi (y := 5) t2 ?_
      refine x_tableIn C (tgt := 36) dX8_roomOf_6 (by decide) (by decide) rfl (by decide) ?_
      refine x_sipush C (v := 500) dX8_roomOf_36 (by decide) ?_
      exact x_iret C (by unfold roomG roomK; simp [t1, t2]) rfl rfl dX8_roomOf_39
    · by_cases t3 : g (32 + q) = 6
      · refine WM.topi (y := 6) t3 ?_
        refine x_tableIn C (tgt := 32) dX8_roomOf_6 (by decide) (by decide) rfl (by decide) ?_
        refine x_sipush C (v := 200) dX8_roomOf_32 (by decide) ?_
        exact x_iret C (by unfold roomG roomK; simp [t1, t2, t3]) rfl rfl dX8_roomOf_35
      · refine x_tableOut C (tgt := 40) dX8_roomOf_6 (by rw [tI_eq, show (4 : Int32).toInt = 4 from by decide] at t1; rw [tI_eq, show (5 : Int32).toInt = 5 from by decide] at t2; rw [tI_eq, show (6 : Int32).toInt = 6 from by decide] at t3; first | omega) (by decide) ?_
        refine x_sipush C (v := 999) dX8_roomOf_40 (by decide) ?_
        exact x_iret C (by unfold roomG roomK; simp [t1, t2, t3]) rfl rfl dX8_roomOf_43
set_option maxHeartbeats 4000000 in
set_option maxRecDepth 100000 in
theorem cM_leaksFrom (l : Launch) (E : xE) (σ : Nat → Nat → Int32) (τ : Nat → Int64) (b : Nat) (hb : b = 10 ∨ b = 11 ∨ b = 12) (g : Nat → Int32) (q : Nat) (hc : q < 12) : xMi l yX8_leaksFrom cX8_leaksFrom 5 .int 1 21 E [.ref (xad E (72 + b)), .int (nI q)] (va_up σ b (g)) (τ) (leakG g q) (va_up σ b (g)) (τ) := by
  refine xMi_of (own := RX8) (by decide +kernel) rfl (Nat.le_of_ble_eq_true rfl) ?_
  intro zp ze zs zm za zb zh zc C
  refine WM.to (lv1 := [(0, .ref (xad E (72 + b))), (1, .int (nI q))]) (st1 := []) (σ1 := va_up σ b (g)) (τ1 := τ) ?_ rfl rfl rfl rfl
  refine x_aload_n C 0 dX8_leaksFrom_0 rfl rfl ?_
  refine x_bipush C (v := 20) dX8_leaksFrom_1 (by decide) ?_
  refine x_iload_n C 1 dX8_leaksFrom_3 rfl rfl ?_
  refine x_iadd C dX8_leaksFrom_4 ?_
  refine WM.topi (y := nI (20 + q)) (nI_add 20 q) ?_
  refine x_ald C (xm_lt hb) (xm_d hb) (v := g (20 + q)) (vp_in_nI (show 20 + q < 284 by omega) (by decide)) (by rw [(nI_clamp (show 20 + q < 2 ^ 31 by omega)), Nat.zero_add, Nat.one_mul]; exact (congrFun (va_up_self _ _ _) _)) dX8_leaksFrom_5 ?_
  refine x_istore_n C (lv1 := [(2, .int (g (20 + q))), (0, .ref (xad E (72 + b))), (1, .int (nI q))]) dX8_leaksFrom_6 rfl (by decide) rfl ?_
  refine x_iload_n C 0 dX8_leaksFrom_7 rfl rfl ?_
  refine x_aload_n C 1 dX8_leaksFrom_8 rfl rfl ?_
  refine x_iconst C (v := 1) dX8_leaksFrom_9 (by decide) ?_
  refine x_ald C (xm_lt hb) (xm_d hb) (v := g 1) (vp_in_nI (show 1 < 284 by omega) (by decide)) (by rw [(show (1 : Int32).toNatClampNeg = 1 from by decide), Nat.zero_add, Nat.one_mul]; exact (congrFun (va_up_self _ _ _) _)) dX8_leaksFrom_10 ?_
  refine x_imul C dX8_leaksFrom_11 ?_
  refine x_bipush C (v := 100) dX8_leaksFrom_12 (by decide) ?_
  refine x_idiv C dX8_leaksFrom_14 (by decide) ?_
  refine WM.topi (y := plainG g q) rfl ?_
  refine x_istore_n C (lv1 := [(3, .int (plainG g q)), (2, .int (g (20 + q))), (0, .ref (xad E (72 + b))), (1, .int (nI q))]) dX8_leaksFrom_15 rfl (by decide) rfl ?_
  have J : WM zp l ze { frames := 1, cells := 0, slots := 0, locals := 21 } zs zm za zb zh zc 0 0 (MQ zb (va_Qi (fun r (_ : Unit) => r = (leakG g q)) (fun _ t => xP E (va_up σ b (g)) (τ) t.heap) (xA E)) za zs 0 0 (xA E)) E (xA E) 5 (va_up σ b (g)) (τ) 39 [(4, .int (deepG g q)), (3, .int (plainG g q)), (2, .int (g (20 + q))), (0, .ref (xad E (72 + b))), (1, .int (nI q))] [] := by
    refine x_aload_n C 3 dX8_leaksFrom_39 rfl rfl ?_
    refine x_bipush C (v := 32) dX8_leaksFrom_40 (by decide) ?_
    refine x_iload_n C 4 dX8_leaksFrom_42 rfl rfl ?_
    refine x_iadd C dX8_leaksFrom_43 ?_
    refine WM.topi (y := nI (32 + q)) (nI_add 32 q) ?_
    refine x_ald C (xm_lt hb) (xm_d hb) (v := g (32 + q)) (vp_in_nI (show 32 + q < 284 by omega) (by decide)) (by rw [(nI_clamp (show 32 + q < 2 ^ 31 by omega)), Nat.zero_add, Nat.one_mul]; exact (congrFun (va_up_self _ _ _) _)) dX8_leaksFrom_44 ?_
    by_cases t1 : g (32 + q) = 1
    · refine WM.topi (y := 1) t1 ?_
      refine x_tableIn C (tgt := 84) dX8_leaksFrom_45 (by decide) (by decide) rfl (by decide) ?_
      refine x_iconst C (v := 0) dX8_leaksFrom_84 (by decide) ?_
      exact x_iret C (by simp [leakG, twiceG, t1]) rfl rfl dX8_leaksFrom_85
    · by_cases t2 : g (32 + q) = 2
      · refine WM.topi (y := 2) t2 ?_
        refine x_tableIn C (tgt := 86) dX8_leaksFrom_45 (by decide) (by decide) rfl (by decide) ?_
        refine x_iconst C (v := 2) dX8_leaksFrom_86 (by decide) ?_
        refine x_iload_n C 1 dX8_leaksFrom_87 rfl rfl ?_
        refine x_imul C dX8_leaksFrom_88 ?_
        refine x_iload_n C 2 dX8_leaksFrom_89 rfl rfl ?_
        refine x_icmp_ge C (tgt := 99) dX8_leaksFrom_90 (by decide) (fun h3 => ?_) (fun h3 => ?_)
        · refine x_iload_n C 2 dX8_leaksFrom_99 rfl rfl ?_
          exact x_iret C (by simp [leakG, twiceG, t1, t2, h3]) rfl rfl dX8_leaksFrom_100
        · refine x_iconst C (v := 2) dX8_leaksFrom_93 (by decide) ?_
          refine x_iload_n C 1 dX8_leaksFrom_94 rfl rfl ?_
          refine x_imul C dX8_leaksFrom_95 ?_
          refine x_goto2 C (tgt := 100) dX8_leaksFrom_96 (by decide) ?_
          exact x_iret C (by simp [leakG, twiceG, t1, t2, h3]) rfl rfl dX8_leaksFrom_100
      · by_cases t4 : g (32 + q) = 3
        · refine WM.topi (y := 3) t4 ?_
          refine x_tableIn C (tgt := 101) dX8_leaksFrom_45 (by decide) (by decide) rfl (by decide) ?_
          refine x_iload C 0 dX8_leaksFrom_101 rfl ?_
          exact x_iret C (by simp [leakG, twiceG, t1, t2, t4]) rfl rfl dX8_leaksFrom_103
        · by_cases t5 : g (32 + q) = 4
          · refine WM.topi (y := 4) t5 ?_
            refine x_tableIn C (tgt := 86) dX8_leaksFrom_45 (by decide) (by decide) rfl (by decide) ?_
            refine x_iconst C (v := 2) dX8_leaksFrom_86 (by decide) ?_
            refine x_iload_n C 1 dX8_leaksFrom_87 rfl rfl ?_
            refine x_imul C dX8_leaksFrom_88 ?_
            refine x_iload_n C 2 dX8_leaksFrom_89 rfl rfl ?_
            refine x_icmp_ge C (tgt := 99) dX8_leaksFrom_90 (by decide) (fun h6 => ?_) (fun h6 => ?_)
            · refine x_iload_n C 2 dX8_leaksFrom_99 rfl rfl ?_
              exact x_iret C (by simp [leakG, twiceG, t1, t2, t4, t5, h6]) rfl rfl dX8_leaksFrom_100
            · refine x_iconst C (v := 2) dX8_leaksFrom_93 (by decide) ?_
              refine x_iload_n C 1 dX8_leaksFrom_94 rfl rfl ?_
              refine x_imul C dX8_leaksFrom_95 ?_
              refine x_goto2 C (tgt := 100) dX8_leaksFrom_96 (by decide) ?_
              exact x_iret C (by simp [leakG, twiceG, t1, t2, t4, t5, h6]) rfl rfl dX8_leaksFrom_100
          · by_cases t7 : g (32 + q) = 5
            · refine WM.topi (y := 5) t7 ?_
              refine x_tableIn C (tgt := 104) dX8_leaksFrom_45 (by decide) (by decide) rfl (by decide) ?_
              refine x_aload_n C 3 dX8_leaksFrom_104 rfl rfl ?_
              refine x_iload_n C 4 dX8_leaksFrom_105 rfl rfl ?_
              refine x_callSi C (As := [.ref (xad E (72 + b)), .int (nI q)]) (rest := []) (cM_placeOf l E σ τ b hb g q (by omega)) ks_X8_71 ⟨Nat.le_of_ble_eq_true rfl, Nat.le_of_ble_eq_true rfl⟩ rfl rfl (Nat.le_of_ble_eq_true rfl) dX8_leaksFrom_106 ?_
              refine x_bipush C (v := 6) dX8_leaksFrom_109 (by decide) ?_
              refine x_icmp_ne C (tgt := 118) dX8_leaksFrom_111 (by decide) (fun h8 => ?_) (fun h8 => ?_)
              · refine x_iload C 0 dX8_leaksFrom_118 rfl ?_
                exact x_iret C (by simp [leakG, twiceG, t1, t2, t4, t5, t7, h8]) rfl rfl dX8_leaksFrom_120
              · refine x_iload_n C 2 dX8_leaksFrom_114 rfl rfl ?_
                refine x_goto2 C (tgt := 120) dX8_leaksFrom_115 (by decide) ?_
                exact x_iret C (by simp [leakG, twiceG, t1, t2, t4, t5, t7, h8]) rfl rfl dX8_leaksFrom_120
            · by_cases t9 : g (32 + q) = 6
              · refine WM.topi (y := 6) t9 ?_
                refine x_tableIn C (tgt := 86) dX8_leaksFrom_45 (by decide) (by decide) rfl (by decide) ?_
                refine x_iconst C (v := 2) dX8_leaksFrom_86 (by decide) ?_
                refine x_iload_n C 1 dX8_leaksFrom_87 rfl rfl ?_
                refine x_imul C dX8_leaksFrom_88 ?_
                refine x_iload_n C 2 dX8_leaksFrom_89 rfl rfl ?_
                refine x_icmp_ge C (tgt := 99) dX8_leaksFrom_90 (by decide) (fun h10 => ?_) (fun h10 => ?_)
                · refine x_iload_n C 2 dX8_leaksFrom_99 rfl rfl ?_
                  exact x_iret C (by simp [leakG, twiceG, t1, t2, t4, t5, t7, t9, h10]) rfl rfl dX8_leaksFrom_100
                · refine x_iconst C (v := 2) dX8_leaksFrom_93 (by decide) ?_
                  refine x_iload_n C 1 dX8_leaksFrom_94 rfl rfl ?_
                  refine x_imul C dX8_leaksFrom_95 ?_
                  refine x_goto2 C (tgt := 100) dX8_leaksFrom_96 (by decide) ?_
                  exact x_iret C (by simp [leakG, twiceG, t1, t2, t4, t5, t7, t9, h10]) rfl rfl dX8_leaksFrom_100
              · refine x_tableOut C (tgt := 121) dX8_leaksFrom_45 (by rw [tI_eq, show (1 : Int32).toInt = 1 from by decide] at t1; rw [tI_eq, show (2 : Int32).toInt = 2 from by decide] at t2; rw [tI_eq, show (3 : Int32).toInt = 3 from by decide] at t4; rw [tI_eq, show (4 : Int32).toInt = 4 from by decide] at t5; rw [tI_eq, show (5 : Int32).toInt = 5 from by decide] at t7; rw [tI_eq, show (6 : Int32).toInt = 6 from by decide] at t9; first | omega) (by decide) ?_
                refine x_iload_n C 1 dX8_leaksFrom_121 rfl rfl ?_
                exact x_iret C (by simp [leakG, twiceG, t1, t2, t4, t5, t7, t9]) rfl rfl dX8_leaksFrom_122
  refine x_iload_n C 1 dX8_leaksFrom_16 rfl rfl ?_
  refine x_bipush C (v := 100) dX8_leaksFrom_17 (by decide) ?_
  refine x_icmp_le C (tgt := 36) dX8_leaksFrom_19 (by decide) (fun h11 => ?_) (fun h11 => ?_)
  · refine x_iconst C (v := 0) dX8_leaksFrom_36 (by decide) ?_
    refine WM.topi (y := deepG g q) (by unfold deepG; rw [if_neg h11]) ?_
    refine x_istore C (lv1 := [(4, .int (deepG g q)), (3, .int (plainG g q)), (2, .int (g (20 + q))), (0, .ref (xad E (72 + b))), (1, .int (nI q))]) dX8_leaksFrom_37 (by decide) rfl ?_
    exact WM.to J rfl rfl rfl rfl
  · refine x_iload_n C 1 dX8_leaksFrom_22 rfl rfl ?_
    refine x_bipush C (v := 100) dX8_leaksFrom_23 (by decide) ?_
    refine x_isub C dX8_leaksFrom_25 ?_
    refine x_aload_n C 2 dX8_leaksFrom_26 rfl rfl ?_
    refine x_iconst C (v := 1) dX8_leaksFrom_27 (by decide) ?_
    refine x_ald C (xm_lt hb) (xm_d hb) (v := g 1) (vp_in_nI (show 1 < 284 by omega) (by decide)) (by rw [(show (1 : Int32).toNatClampNeg = 1 from by decide), Nat.zero_add, Nat.one_mul]; exact (congrFun (va_up_self _ _ _) _)) dX8_leaksFrom_28 ?_
    refine x_imul C dX8_leaksFrom_29 ?_
    refine x_bipush C (v := 100) dX8_leaksFrom_30 (by decide) ?_
    refine x_idiv C dX8_leaksFrom_32 (by decide) ?_
    refine x_goto2 C (tgt := 37) dX8_leaksFrom_33 (by decide) ?_
    refine WM.topi (y := deepG g q) (by unfold deepG; rw [if_pos h11]) ?_
    refine x_istore C (lv1 := [(4, .int (deepG g q)), (3, .int (plainG g q)), (2, .int (g (20 + q))), (0, .ref (xad E (72 + b))), (1, .int (nI q))]) dX8_leaksFrom_37 (by decide) rfl ?_
    exact WM.to J rfl rfl rfl rfl
set_option maxHeartbeats 4000000 in
set_option maxRecDepth 100000 in
theorem cM_touches (l : Launch) (E : xE) (σ : Nat → Nat → Int32) (τ : Nat → Int64) (b : Nat) (hb : b = 10 ∨ b = 11 ∨ b = 12) (g : Nat → Int32) (y : Int32) (hg : gI g) (hy : -200 ≤ y.toInt ∧ y.toInt ≤ 200) : xMv l yX8_touches cX8_touches 2 1 23 E [.ref (xad E (72 + b)), .int (y)] (va_up σ b (g)) (τ) (va_up σ b (touchG g y)) (τ) := by
  refine xMv_of (own := RX8) (by decide +kernel) rfl (Nat.le_of_ble_eq_true rfl) ?_
  intro zp ze zs zm za zb zh zc C
  refine WM.to (lv1 := [(0, .ref (xad E (72 + b))), (1, .int (y))]) (st1 := []) (σ1 := va_up σ b (g)) (τ1 := τ) ?_ rfl rfl rfl rfl
  refine x_aload_n C 0 dX8_touches_0 rfl rfl ?_
  refine x_iconst C (v := 4) dX8_touches_1 (by decide) ?_
  refine x_aload_n C 0 dX8_touches_2 rfl rfl ?_
  refine x_iconst C (v := 4) dX8_touches_3 (by decide) ?_
  refine x_ald C (xm_lt hb) (xm_d hb) (v := g 4) (vp_in_nI (show 4 < 284 by omega) (by decide)) (by rw [(show (4 : Int32).toNatClampNeg = 4 from by decide), Nat.zero_add, Nat.one_mul]; exact (congrFun (va_up_self _ _ _) _)) dX8_touches_4 ?_
  refine x_iload_n C 1 dX8_touches_5 rfl rfl ?_
  refine x_iadd C dX8_touches_6 ?_
  refine x_i2l C dX8_touches_7 ?_
  refine x_sipush C (v := -600) dX8_touches_8 (by decide) ?_
  refine x_sipush C (v := 600) dX8_touches_11 (by decide) ?_
  refine x_callSi C (As := [.long (Int32.toInt64 ((g 4) + y)), .int ((-600)), .int (600)]) (rest := [.int (4), .ref (xad E (72 + b))]) (c_mheld l E (va_up σ b (g)) τ (Int32.toInt64 ((g 4) + y)) (-600) 600) ks_X8_86 ⟨Nat.le_of_ble_eq_true rfl, Nat.le_of_ble_eq_true rfl⟩ rfl rfl (Nat.le_of_ble_eq_true rfl) dX8_touches_14 ?_
  refine WM.topi (y := heldG (g 4 + y)) (heldL_eq _) ?_
  refine x_ast C (σ' := va_up σ b (upd g 4 (heldG (g 4 + y)))) (xm_lt hb) (xm_d hb) (by decide) (vp_in_nI (show 4 < 284 by omega) (by decide)) (by rw [(show (4 : Int32).toNatClampNeg = 4 from by decide), Nat.zero_add, Nat.one_mul]; exact (u2_bank _ _ _ _ _)) dX8_touches_17 ?_
  refine x_aload_n C 0 dX8_touches_18 rfl rfl ?_
  refine x_bipush C (v := 6) dX8_touches_19 (by decide) ?_
  refine x_aload_n C 0 dX8_touches_21 rfl rfl ?_
  refine x_iconst C (v := 4) dX8_touches_22 (by decide) ?_
  refine x_ald C (xm_lt hb) (xm_d hb) (v := heldG (g 4 + y)) (vp_in_nI (show 4 < 284 by omega) (by decide)) (by rw [(show (4 : Int32).toNatClampNeg = 4 from by decide), Nat.zero_add, Nat.one_mul]; exact (Eq.trans (congrFun (va_up_self _ _ _) _) (upd_at _ _ _))) dX8_touches_23 ?_
  refine x_if_ne C (tgt := 34) dX8_touches_24 (by decide) (fun h1 => ?_) (fun h1 => ?_)
  · refine x_aload_n C 0 dX8_touches_34 rfl rfl ?_
    refine x_iconst C (v := 4) dX8_touches_35 (by decide) ?_
    refine x_ald C (xm_lt hb) (xm_d hb) (v := heldG (g 4 + y)) (vp_in_nI (show 4 < 284 by omega) (by decide)) (by rw [(show (4 : Int32).toNatClampNeg = 4 from by decide), Nat.zero_add, Nat.one_mul]; exact (Eq.trans (congrFun (va_up_self _ _ _) _) (upd_at _ _ _))) dX8_touches_36 ?_
    refine x_if_le C (tgt := 44) dX8_touches_37 (by decide) (fun h2 => ?_) (fun h2 => ?_)
    · refine x_iconst C (v := -1) dX8_touches_44 (by decide) ?_
      refine x_ast C (σ' := va_up σ b (upd (upd g 4 (heldG (g 4 + y))) 6 ((-1)))) (xm_lt hb) (xm_d hb) (by decide) (vp_in_nI (show 6 < 284 by omega) (by decide)) (by rw [(show (6 : Int32).toNatClampNeg = 6 from by decide), Nat.zero_add, Nat.one_mul]; exact (u2_bank _ _ _ _ _)) dX8_touches_45 ?_
      exact x_vret C (congrArg (va_up _ _) (touch_n h1 h2)) rfl dX8_touches_46
    · refine x_iconst C (v := 1) dX8_touches_40 (by decide) ?_
      refine x_goto2 C (tgt := 45) dX8_touches_41 (by decide) ?_
      refine x_ast C (σ' := va_up σ b (upd (upd g 4 (heldG (g 4 + y))) 6 (1))) (xm_lt hb) (xm_d hb) (by decide) (vp_in_nI (show 6 < 284 by omega) (by decide)) (by rw [(show (6 : Int32).toNatClampNeg = 6 from by decide), Nat.zero_add, Nat.one_mul]; exact (u2_bank _ _ _ _ _)) dX8_touches_45 ?_
      exact x_vret C (congrArg (va_up _ _) (touch_p h1 h2)) rfl dX8_touches_46
  · refine x_aload_n C 0 dX8_touches_27 rfl rfl ?_
    refine x_bipush C (v := 6) dX8_touches_28 (by decide) ?_
    refine x_ald C (xm_lt hb) (xm_d hb) (v := g 6) (vp_in_nI (show 6 < 284 by omega) (by decide)) (by rw [(show (6 : Int32).toNatClampNeg = 6 from by decide), Nat.zero_add, Nat.one_mul]; exact (Eq.trans (congrFun (va_up_self _ _ _) _) (upd_ne (j := 6) (k := 4) (by decide)))) dX8_touches_30 ?_
    refine x_goto2 C (tgt := 45) dX8_touches_31 (by decide) ?_
    refine x_ast C (σ' := va_up σ b (upd (upd g 4 (heldG (g 4 + y))) 6 (g 6))) (xm_lt hb) (xm_d hb) (by decide) (vp_in_nI (show 6 < 284 by omega) (by decide)) (by rw [(show (6 : Int32).toNatClampNeg = 6 from by decide), Nat.zero_add, Nat.one_mul]; exact (u2_bank _ _ _ _ _)) dX8_touches_45 ?_
    exact x_vret C (congrArg (va_up _ _) (touch_0 h1)) rfl dX8_touches_46
set_option maxHeartbeats 4000000 in
set_option maxRecDepth 100000 in
theorem cM_torqueOf (l : Launch) (E : xE) (σ : Nat → Nat → Int32) (τ : Nat → Int64) (b : Nat) (hb : b = 10 ∨ b = 11 ∨ b = 12) (g : Nat → Int32) (hg : gI g) (hlv : ∀ j, j < 12 → σ 15 j = (xzl 1).getD j 0) : xMi l yX8_torqueOf cX8_torqueOf 4 .int 1 21 E [.ref (xad E (81)), .ref (xad E (72 + b))] (va_up σ b (g)) (τ) (pullN g 12) (va_up σ b (g)) (τ) := by
  refine xMi_of (own := RX8) (by decide +kernel) rfl (Nat.le_of_ble_eq_true rfl) ?_
  intro zp ze zs zm za zb zh zc C
  refine WM.to (lv1 := [(0, .ref (xad E (81))), (1, .ref (xad E (72 + b)))]) (st1 := []) (σ1 := va_up σ b (g)) (τ1 := τ) ?_ rfl rfl rfl rfl
  refine x_iconst C (v := 0) dX8_torqueOf_0 (by decide) ?_
  refine x_istore_n C (lv1 := [(2, .int (0)), (0, .ref (xad E (81))), (1, .ref (xad E (72 + b)))]) dX8_torqueOf_1 rfl (by decide) rfl ?_
  refine x_iconst C (v := 0) dX8_torqueOf_2 (by decide) ?_
  refine x_istore_n C (lv1 := [(3, .int (0)), (2, .int (0)), (0, .ref (xad E (81))), (1, .ref (xad E (72 + b)))]) dX8_torqueOf_3 rfl (by decide) rfl ?_
  have loop : ∀ (j k : Nat), j + k = 12 → WM zp l ze { frames := 1, cells := 0, slots := 0, locals := 21 } zs zm za zb zh zc 0 0 (MQ zb (va_Qi (fun r (_ : Unit) => r = (pullN g 12)) (fun _ t => xP E (va_up σ b (g)) (τ) t.heap) (xA E)) za zs 0 0 (xA E)) E (xA E) 4 (va_up σ b (g)) (τ) 4 [(0, .ref (xad E (81))), (1, .ref (xad E (72 + b))), (2, .int (pullN g k)), (3, .int (nI k))] [] := by
    intro j
    induction j with
    | zero =>
      intro k hk
      refine x_iload_n C 3 dX8_torqueOf_4 rfl rfl ?_
      refine x_bipush C (v := 12) dX8_torqueOf_5 (by decide) ?_
      refine x_icmp_ge C (tgt := 36) dX8_torqueOf_7 (by decide) (fun h1 => ?_) (fun h1 => absurd h1 (nI_nlt (a := k) (b := 12) (by omega) (by omega)))
      refine x_iload_n C 2 dX8_torqueOf_36 rfl rfl ?_
      exact x_iret C (by rw [show k = 12 by omega]) rfl rfl dX8_torqueOf_37
    | succ j ih =>
      intro k hk
      refine x_iload_n C 3 dX8_torqueOf_4 rfl rfl ?_
      refine x_bipush C (v := 12) dX8_torqueOf_5 (by decide) ?_
      refine x_icmp_ge C (tgt := 36) dX8_torqueOf_7 (by decide) (fun h2 => absurd (nI_lt (a := k) (b := 12) (by omega) (by omega)) h2) (fun h2 => ?_)
      refine x_iload_n C 2 dX8_torqueOf_10 rfl rfl ?_
      refine x_aload_n C 1 dX8_torqueOf_11 rfl rfl ?_
      refine x_bipush C (v := 20) dX8_torqueOf_12 (by decide) ?_
      refine x_iload_n C 3 dX8_torqueOf_14 rfl rfl ?_
      refine x_iadd C dX8_torqueOf_15 ?_
      refine WM.topi (y := nI (20 + k)) (nI_add 20 k) ?_
      refine x_ald C (xm_lt hb) (xm_d hb) (v := g (20 + k)) (vp_in_nI (show 20 + k < 284 by omega) (by decide)) (by rw [(nI_clamp (show 20 + k < 2 ^ 31 by omega)), Nat.zero_add, Nat.one_mul]; exact (congrFun (va_up_self _ _ _) _)) dX8_torqueOf_16 ?_
      refine x_aload_n C 0 dX8_torqueOf_17 rfl rfl ?_
      refine x_get C (Nat.le_of_ble_eq_true rfl) xd_81 fl_X8_25 (q := (0, 87, 0)) (v := .ref (xad E (87))) rfl rfl dX8_torqueOf_18 ?_
      refine x_aload_n C 1 dX8_torqueOf_21 rfl rfl ?_
      refine x_iload_n C 3 dX8_torqueOf_22 rfl rfl ?_
      refine x_callSi C (As := [.ref (xad E (72 + b)), .int (nI k)]) (rest := [.ref (xad E (87)), .int (g (20 + k)), .int (pullN g k)]) (cM_placeOf l E σ τ b hb g k (by omega)) ks_X8_71 ⟨Nat.le_of_ble_eq_true rfl, Nat.le_of_ble_eq_true rfl⟩ rfl rfl (Nat.le_of_ble_eq_true rfl) dX8_torqueOf_23 ?_
      refine x_ald C (Nat.le_of_ble_eq_true rfl) xd_87 (v := levG (placeG g k)) (place_in hg (by omega)) (lev_at hlv hb hg (by omega)) dX8_torqueOf_26 ?_
      refine x_imul C dX8_torqueOf_27 ?_
      refine x_iadd C dX8_torqueOf_28 ?_
      refine x_istore_n C (lv1 := [(2, .int ((pullN g k) + ((g (20 + k)) * (levG (placeG g k))))), (0, .ref (xad E (81))), (1, .ref (xad E (72 + b))), (3, .int (nI k))]) dX8_torqueOf_29 rfl (by decide) rfl ?_
      refine x_iinc C (v := nI (k + 1)) (lv1 := [(3, .int (nI (k + 1))), (2, .int ((pullN g k) + ((g (20 + k)) * (levG (placeG g k))))), (0, .ref (xad E (81))), (1, .ref (xad E (72 + b)))]) 3 dX8_torqueOf_30 rfl (nI_add k 1) (by decide) rfl ?_
      refine x_goto2 C (tgt := 4) dX8_torqueOf_33 (by decide) ?_
      refine WM.keep [2, 3, 1, 0] (lv' := [(0, .ref (xad E (81))), (1, .ref (xad E (72 + b))), (2, .int ((pullN g k) + ((g (20 + k)) * (levG (placeG g k))))), (3, .int (nI (k + 1)))]) rfl ?_
      exact WM.to (ih (k + 1) (by omega)) rfl rfl rfl rfl
  refine WM.keep [2, 3, 1, 0] rfl ?_
  exact WM.to (loop (12) 0 (by omega)) rfl rfl rfl rfl
set_option maxHeartbeats 4000000 in
set_option maxRecDepth 100000 in
theorem cM_allWater (l : Launch) (E : xE) (σ : Nat → Nat → Int32) (τ : Nat → Int64) (b : Nat) (hb : b = 10 ∨ b = 11 ∨ b = 12) (g : Nat → Int32)  : xMi l yX8_allWater cX8_allWater 3 .int 0 0 E [.ref (xad E (72 + b))] (va_up σ b (g)) (τ) (waterN g 12) (va_up σ b (g)) (τ) := by
  refine xMi_of (own := RX8) (by decide +kernel) rfl (Nat.le_of_ble_eq_true rfl) ?_
  intro zp ze zs zm za zb zh zc C
  refine WM.to (lv1 := [(0, .ref (xad E (72 + b)))]) (st1 := []) (σ1 := va_up σ b (g)) (τ1 := τ) ?_ rfl rfl rfl rfl
  refine x_iconst C (v := 0) dX8_allWater_0 (by decide) ?_
  refine x_istore_n C (lv1 := [(1, .int (0)), (0, .ref (xad E (72 + b)))]) dX8_allWater_1 rfl (by decide) rfl ?_
  refine x_iconst C (v := 0) dX8_allWater_2 (by decide) ?_
  refine x_istore_n C (lv1 := [(2, .int (0)), (1, .int (0)), (0, .ref (xad E (72 + b)))]) dX8_allWater_3 rfl (by decide) rfl ?_
  have loop : ∀ (j k : Nat), j + k = 12 → WM zp l ze { frames := 0, cells := 0, slots := 0, locals := 0 } zs zm za zb zh zc 0 0 (MQ zb (va_Qi (fun r (_ : Unit) => r = (waterN g 12)) (fun _ t => xP E (va_up σ b (g)) (τ) t.heap) (xA E)) za zs 0 0 (xA E)) E (xA E) 3 (va_up σ b (g)) (τ) 4 [(0, .ref (xad E (72 + b))), (1, .int (waterN g k)), (2, .int (nI k))] [] := by
    intro j
    induction j with
    | zero =>
      intro k hk
      refine x_iload_n C 2 dX8_allWater_4 rfl rfl ?_
      refine x_bipush C (v := 12) dX8_allWater_5 (by decide) ?_
      refine x_icmp_ge C (tgt := 25) dX8_allWater_7 (by decide) (fun h1 => ?_) (fun h1 => absurd h1 (nI_nlt (a := k) (b := 12) (by omega) (by omega)))
      refine x_iload_n C 1 dX8_allWater_25 rfl rfl ?_
      exact x_iret C (by rw [show k = 12 by omega]) rfl rfl dX8_allWater_26
    | succ j ih =>
      intro k hk
      refine x_iload_n C 2 dX8_allWater_4 rfl rfl ?_
      refine x_bipush C (v := 12) dX8_allWater_5 (by decide) ?_
      refine x_icmp_ge C (tgt := 25) dX8_allWater_7 (by decide) (fun h2 => absurd (nI_lt (a := k) (b := 12) (by omega) (by omega)) h2) (fun h2 => ?_)
      refine x_iload_n C 1 dX8_allWater_10 rfl rfl ?_
      refine x_aload_n C 0 dX8_allWater_11 rfl rfl ?_
      refine x_bipush C (v := 20) dX8_allWater_12 (by decide) ?_
      refine x_iload_n C 2 dX8_allWater_14 rfl rfl ?_
      refine x_iadd C dX8_allWater_15 ?_
      refine WM.topi (y := nI (20 + k)) (nI_add 20 k) ?_
      refine x_ald C (xm_lt hb) (xm_d hb) (v := g (20 + k)) (vp_in_nI (show 20 + k < 284 by omega) (by decide)) (by rw [(nI_clamp (show 20 + k < 2 ^ 31 by omega)), Nat.zero_add, Nat.one_mul]; exact (congrFun (va_up_self _ _ _) _)) dX8_allWater_16 ?_
      refine x_iadd C dX8_allWater_17 ?_
      refine x_istore_n C (lv1 := [(1, .int ((waterN g k) + (g (20 + k)))), (0, .ref (xad E (72 + b))), (2, .int (nI k))]) dX8_allWater_18 rfl (by decide) rfl ?_
      refine x_iinc C (v := nI (k + 1)) (lv1 := [(2, .int (nI (k + 1))), (1, .int ((waterN g k) + (g (20 + k)))), (0, .ref (xad E (72 + b)))]) 2 dX8_allWater_19 rfl (nI_add k 1) (by decide) rfl ?_
      refine x_goto2 C (tgt := 4) dX8_allWater_22 (by decide) ?_
      refine WM.keep [2, 1, 0] (lv' := [(0, .ref (xad E (72 + b))), (1, .int ((waterN g k) + (g (20 + k)))), (2, .int (nI (k + 1)))]) rfl ?_
      exact WM.to (ih (k + 1) (by omega)) rfl rfl rfl rfl
  refine WM.keep [2, 1, 0] rfl ?_
  exact WM.to (loop (12) 0 (by omega)) rfl rfl rfl rfl
