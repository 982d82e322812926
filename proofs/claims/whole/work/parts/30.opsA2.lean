/-! operations, the second -/
theorem rngLog {g : Nat → Int32} {i : Int32} (h0 : 0 ≤ (g 10).toInt) (h : rng i 0 (loggedG g - 1)) : ∃ q : Nat, q < logN g ∧ i = nI q := by
  have hl := logN_le g
  rw [logged_eq h0] at h
  have h1 := rng_iff.mp h
  have e1 : (1 : Int32).toInt = 1 := by decide
  have e2 : (nI (logN g)).toInt = (logN g : Int) := nI_toInt (by omega)
  rw [tI_sub (by rw [e1, e2]; omega) (by rw [e1, e2]; omega), e1, e2, tI_0] at h1
  obtain ⟨j, hj, e⟩ := nI_is (x := i) (by omega) (n := 40) (by omega) (by decide)
  refine ⟨j, ?_, e⟩
  rw [e, nI_toInt (by omega)] at h1
  omega
theorem log2 {n : Nat} (hn : n < 2 ^ 31) : ¬ nI n < 2 ↔ 2 ≤ n := by
  have e : nI n < 2 ↔ n < 2 := nI_ltI (b := 2) hn (by decide)
  rw [e]
  omega
theorem bestN_le (g : Nat → Int32) (v : Int32) : ∀ k, bestN g v k ≤ k
  | 0 => Nat.le_refl _
  | k + 1 => by
    have h := bestN_le g v k
    show (if offG g v (k + 1) < offG g v (bestN g v k) then k + 1 else bestN g v k) ≤ k + 1
    split <;> omega
theorem off_eq {g : Nat → Int32} {v : Int32} {i : Nat} (hp : 0 ≤ (g (45 + 2 * i)).toInt ∧ (g (45 + 2 * i)).toInt ≤ 600) (hv : rng v 0 600) : (if 0 ≤ g (45 + 2 * i) - v then g (45 + 2 * i) - v else 0 - (g (45 + 2 * i) - v)) = offG g v i := by
  have h1 := rngI (a := 0) (b := 600) hv (by decide) (by decide)
  unfold offG
  generalize g (45 + 2 * i) = p at hp ⊢
  have hs : (p - v).toInt = p.toInt - v.toInt := tI_sub (by omega) (by omega)
  have hs2 : (v - p).toInt = v.toInt - p.toInt := tI_sub (by omega) (by omega)
  have key : (if 0 ≤ p - v then p - v else 0 - (p - v)) = if v < p then p - v else v - p := by
    by_cases h : v < p
    · rw [if_pos h, if_pos]
      rw [tI_lt] at h
      rw [tI_le, tI_0, hs]
      omega
    · rw [if_neg h]
      rw [tI_lt] at h
      by_cases h2 : 0 ≤ p - v
      · rw [if_pos h2]
        rw [tI_le, tI_0, hs] at h2
        rw [tI_eq, hs, hs2]
        omega
      · rw [if_neg h2, tI_eq, tI_sub (by rw [tI_0, hs]; omega) (by rw [tI_0, hs]; omega), tI_0, hs, hs2]
        omega
  exact key
theorem off_in {g : Nat → Int32} {v : Int32} {i : Nat} (hp : 0 ≤ (g (45 + 2 * i)).toInt ∧ (g (45 + 2 * i)).toInt ≤ 600) (hv : rng v 0 600) : offG g v i < 9999 := by
  have h1 := rngI (a := 0) (b := 600) hv (by decide) (by decide)
  have e : (9999 : Int32).toInt = 9999 := by decide
  unfold offG
  generalize g (45 + 2 * i) = p at hp
  split
  · rw [tI_lt, tI_sub (by omega) (by omega), e]
    omega
  · rw [tI_lt, tI_sub (by omega) (by omega), e]
    omega
def lessM (g : Nat → Int32) (v : Int32) (k : Nat) : Int32 := if k = 0 then 9999 else offG g v (bestN g v (k - 1))
theorem best_yes {σ : xV} {v : Int32} {k : Nat} (hp : ∀ i, i < 40 → 0 ≤ (σ 10 (45 + 2 * i)).toInt ∧ (σ 10 (45 + 2 * i)).toInt ≤ 600) (hv : rng v 0 600) (hk : k < 40) (h : offG (σ 10) v k < lessM (σ 10) v k) : bestN (σ 10) v k = k := by
  cases k with
  | zero => rfl
  | succ j => exact if_pos h
theorem best_no {σ : xV} {v : Int32} {k : Nat} (hp : ∀ i, i < 40 → 0 ≤ (σ 10 (45 + 2 * i)).toInt ∧ (σ 10 (45 + 2 * i)).toInt ≤ 600) (hv : rng v 0 600) (hk : k < 40) (h : ¬ offG (σ 10) v k < lessM (σ 10) v k) : bestN (σ 10) v k = bestN (σ 10) v (k - 1) := by
  cases k with
  | zero => rfl
  | succ j => exact if_neg h
theorem less_yes {σ : xV} {v : Int32} {k : Nat} (hp : ∀ i, i < 40 → 0 ≤ (σ 10 (45 + 2 * i)).toInt ∧ (σ 10 (45 + 2 * i)).toInt ≤ 600) (hv : rng v 0 600) (hk : k < 40) (h : offG (σ 10) v k < lessM (σ 10) v k) : lessM (σ 10) v (k + 1) = offG (σ 10) v k := by
  show offG (σ 10) v (bestN (σ 10) v k) = _
  rw [best_yes hp hv hk h]
theorem less_no {σ : xV} {v : Int32} {k : Nat} (hp : ∀ i, i < 40 → 0 ≤ (σ 10 (45 + 2 * i)).toInt ∧ (σ 10 (45 + 2 * i)).toInt ≤ 600) (hv : rng v 0 600) (hk : k < 40) (h : ¬ offG (σ 10) v k < lessM (σ 10) v k) : lessM (σ 10) v (k + 1) = lessM (σ 10) v k := by
  show offG (σ 10) v (bestN (σ 10) v k) = _
  rw [best_no hp hv hk h]
  cases k with
  | zero => exact absurd (off_in (hp 0 (by decide)) hv) h
  | succ j => rfl
theorem spotN {x : Int32} (h : -1 ≤ x.toInt ∧ x.toInt ≤ 11) (h0 : ¬ x < 0) : ∃ r : Nat, r ≤ 11 ∧ x = nI r := by
  rw [tI_lt, tI_0] at h0
  exact nI_is (by omega) (n := 11) (by omega) (by decide)
def statK (F : Nat → Int32) (w : Int32) : Nat → Int32
  | 0 => 0
  | k + 1 => if w = -1 ∨ w = nI k then statK F w k + F k else statK F w k
theorem stat_all (F : Nat → Int32) : ∀ k, statK F (-1) k = sumN F k
  | 0 => rfl
  | k + 1 => by
    show (if _ then _ else _) = _
    rw [if_pos (Or.inl rfl), stat_all F k]
    rfl
theorem stat_one (F : Nat → Int32) {q : Nat} (hq : q < 7) : ∀ k, k ≤ 7 → statK F (nI q) k = if q < k then F q else 0
  | 0, _ => by rw [if_neg (by omega)]; rfl
  | k + 1, hk => by
    have hn : ¬ nI q = -1 := by
      intro h
      rw [tI_eq, nI_toInt (by omega), show ((-1 : Int32)).toInt = -1 from by decide] at h
      omega
    have he : nI q = nI k ↔ q = k := nI_eq (by omega) (by omega)
    show (if nI q = -1 ∨ nI q = nI k then statK F (nI q) k + F k else statK F (nI q) k) = _
    rw [stat_one F hq k (by omega)]
    by_cases h : q = k
    · subst h
      rw [if_pos (Or.inr rfl), if_neg (by omega), if_pos (by omega), Int32.zero_add]
    · rw [if_neg (fun z => z.elim hn (fun y => h (he.mp y)))]
      by_cases h2 : q < k
      · rw [if_pos h2, if_pos (by omega)]
      · rw [if_neg h2, if_neg (by omega)]
theorem stat_eq {σ : xV} {w : Int32} (h : rng w (-1) 6) : sp_status w (mv σ) = (statK (σ 14) w 7, mv σ) := by
  unfold sp_status
  by_cases h1 : w = -1
  · rw [if_pos h1, h1, stat_all]
    rfl
  · rw [if_neg h1]
    have h2 := rngI (a := -1) (b := 6) h (by decide) (by decide)
    rw [tI_eq, show ((-1 : Int32)).toInt = -1 from by decide] at h1
    obtain ⟨q, hq, e⟩ := nI_is (x := w) (by omega) (n := 6) (by omega) (by decide)
    subst e
    rw [if_pos (rng_nI (b := 6) hq (by decide)), stat_one _ (by omega) 7 (by omega), if_pos (by omega), nI_clamp (by omega)]
    rfl
set_option maxHeartbeats 4000000 in
set_option maxRecDepth 100000 in
theorem c_mlogged (l : Launch) (E : xE) (σ : Nat → Nat → Int32) (τ : Nat → Int64) : xMi l yX8_logged cX8_logged 1 .int 0 0 E [.ref (xad E (81))] (σ) (τ) (loggedG (σ 10)) (σ) (τ) := by
  refine xMi_of (own := RX8) (by decide +kernel) rfl (Nat.le_of_ble_eq_true rfl) ?_
  intro zp ze zs zm za zb zh zc C
  refine WM.to (lv1 := [(0, .ref (xad E (81)))]) (st1 := []) (σ1 := σ) (τ1 := τ) ?_ rfl rfl rfl rfl
  refine x_aload_n C 0 dX8_logged_0 rfl rfl ?_
  refine x_get C (Nat.le_of_ble_eq_true rfl) xd_81 fl_X8_9 (q := (0, 82, 0)) (v := .ref (xad E (82))) rfl rfl dX8_logged_1 ?_
  refine x_bipush C (v := 10) dX8_logged_4 (by decide) ?_
  refine x_ald C (Nat.le_of_ble_eq_true rfl) xd_82 (v := σ 10 10) (vp_in_nI (show 10 < 284 by omega) (by decide)) (by rw [(show (10 : Int32).toNatClampNeg = 10 from by decide), Nat.zero_add, Nat.one_mul]) dX8_logged_6 ?_
  refine x_bipush C (v := 40) dX8_logged_7 (by decide) ?_
  refine x_icmp_ge C (tgt := 22) dX8_logged_9 (by decide) (fun h1 => ?_) (fun h1 => ?_)
  · refine x_bipush C (v := 40) dX8_logged_22 (by decide) ?_
    exact x_iret C (by simp [loggedG, h1]) rfl rfl dX8_logged_24
  · refine x_aload_n C 0 dX8_logged_12 rfl rfl ?_
    refine x_get C (Nat.le_of_ble_eq_true rfl) xd_81 fl_X8_9 (q := (0, 82, 0)) (v := .ref (xad E (82))) rfl rfl dX8_logged_13 ?_
    refine x_bipush C (v := 10) dX8_logged_16 (by decide) ?_
    refine x_ald C (Nat.le_of_ble_eq_true rfl) xd_82 (v := σ 10 10) (vp_in_nI (show 10 < 284 by omega) (by decide)) (by rw [(show (10 : Int32).toNatClampNeg = 10 from by decide), Nat.zero_add, Nat.one_mul]) dX8_logged_18 ?_
    refine x_goto2 C (tgt := 24) dX8_logged_19 (by decide) ?_
    exact x_iret C (by simp [loggedG, h1]) rfl rfl dX8_logged_24
set_option maxHeartbeats 4000000 in
set_option maxRecDepth 100000 in
theorem c_mpeak (l : Launch) (E : xE) (σ : Nat → Nat → Int32) (τ : Nat → Int64) (i : Nat) (hi : i < 40) : xMi l yX8_peak cX8_peak 2 .int 0 0 E [.ref (xad E (81)), .int (nI i)] (σ) (τ) (σ 10 (45 + 2 * i)) (σ) (τ) := by
  refine xMi_of (own := RX8) (by decide +kernel) rfl (Nat.le_of_ble_eq_true rfl) ?_
  intro zp ze zs zm za zb zh zc C
  refine WM.to (lv1 := [(0, .ref (xad E (81))), (1, .int (nI i))]) (st1 := []) (σ1 := σ) (τ1 := τ) ?_ rfl rfl rfl rfl
  refine x_aload_n C 0 dX8_peak_0 rfl rfl ?_
  refine x_get C (Nat.le_of_ble_eq_true rfl) xd_81 fl_X8_9 (q := (0, 82, 0)) (v := .ref (xad E (82))) rfl rfl dX8_peak_1 ?_
  refine x_bipush C (v := 44) dX8_peak_4 (by decide) ?_
  refine x_iconst C (v := 2) dX8_peak_6 (by decide) ?_
  refine x_iload_n C 1 dX8_peak_7 rfl rfl ?_
  refine x_imul C dX8_peak_8 ?_
  refine WM.topi (y := nI (2 * i)) (pk_mul 2 i) ?_
  refine x_iadd C dX8_peak_9 ?_
  refine WM.topi (y := nI (44 + (2 * i))) (nI_add 44 (2 * i)) ?_
  refine x_iconst C (v := 1) dX8_peak_10 (by decide) ?_
  refine x_iadd C dX8_peak_11 ?_
  refine WM.topi (y := nI (44 + (2 * i) + 1)) (nI_add (44 + (2 * i)) 1) ?_
  refine WM.topi (y := nI (45 + 2 * i)) (congrArg nI (by omega)) ?_
  refine x_ald C (Nat.le_of_ble_eq_true rfl) xd_82 (v := σ 10 (45 + 2 * i)) (vp_in_nI (show 45 + 2 * i < 284 by omega) (by decide)) (by rw [(nI_clamp (show 45 + 2 * i < 2 ^ 31 by omega)), Nat.zero_add, Nat.one_mul]) dX8_peak_12 ?_
  exact x_iret C rfl rfl rfl dX8_peak_13
set_option maxHeartbeats 4000000 in
set_option maxRecDepth 100000 in
theorem c_misOf (l : Launch) (E : xE) (σ : Nat → Nat → Int32) (τ : Nat → Int64) (own kind : Int32) : xMi l yX8_isOf cX8_isOf 2 .boolean 0 0 E [.int (own), .int (kind)] (σ) (τ) (if isK own kind then 1 else 0) (σ) (τ) := by
  refine xMi_of (own := RX8) (by decide +kernel) rfl (Nat.le_of_ble_eq_true rfl) ?_
  intro zp ze zs zm za zb zh zc C
  refine WM.to (lv1 := [(0, .int (own)), (1, .int (kind))]) (st1 := []) (σ1 := σ) (τ1 := τ) ?_ rfl rfl rfl rfl
  refine x_iload_n C 1 dX8_isOf_0 rfl rfl ?_
  refine x_if_eq C (tgt := 46) dX8_isOf_1 (by decide) (fun h1 => ?_) (fun h1 => ?_)
  · refine x_iconst C (v := 1) dX8_isOf_46 (by decide) ?_
    refine x_goto2 C (tgt := 51) dX8_isOf_47 (by decide) ?_
    exact x_zret C rfl (if_pos (by simp only [isK, tI_eq, tl_0, tl_2, tl_3, tl_4, tl_5, tl_6] at h1 ⊢ <;> omega)).symm rfl rfl dX8_isOf_51
  · refine x_iload_n C 0 dX8_isOf_4 rfl rfl ?_
    refine x_iload_n C 1 dX8_isOf_5 rfl rfl ?_
    refine x_icmp_eq C (tgt := 46) dX8_isOf_6 (by decide) (fun h2 => ?_) (fun h2 => ?_)
    · refine x_iconst C (v := 1) dX8_isOf_46 (by decide) ?_
      refine x_goto2 C (tgt := 51) dX8_isOf_47 (by decide) ?_
      exact x_zret C rfl (if_pos (by simp only [isK, tI_eq, tl_0, tl_2, tl_3, tl_4, tl_5, tl_6] at h1 h2 ⊢ <;> omega)).symm rfl rfl dX8_isOf_51
    · refine x_iload_n C 1 dX8_isOf_9 rfl rfl ?_
      refine x_iconst C (v := 2) dX8_isOf_10 (by decide) ?_
      refine x_icmp_ne C (tgt := 25) dX8_isOf_11 (by decide) (fun h3 => ?_) (fun h3 => ?_)
      · refine x_iload_n C 1 dX8_isOf_25 rfl rfl ?_
        refine x_iconst C (v := 4) dX8_isOf_26 (by decide) ?_
        refine x_icmp_ne C (tgt := 36) dX8_isOf_27 (by decide) (fun h4 => ?_) (fun h4 => ?_)
        · refine x_iload_n C 1 dX8_isOf_36 rfl rfl ?_
          refine x_iconst C (v := 3) dX8_isOf_37 (by decide) ?_
          refine x_icmp_ne C (tgt := 50) dX8_isOf_38 (by decide) (fun h5 => ?_) (fun h5 => ?_)
          · refine x_iconst C (v := 0) dX8_isOf_50 (by decide) ?_
            exact x_zret C rfl (if_neg (by simp only [isK, tI_eq, tl_0, tl_2, tl_3, tl_4, tl_5, tl_6] at h1 h2 h3 h4 h5 ⊢ <;> omega)).symm rfl rfl dX8_isOf_51
          · refine x_iload_n C 0 dX8_isOf_41 rfl rfl ?_
            refine x_iconst C (v := 5) dX8_isOf_42 (by decide) ?_
            refine x_icmp_ne C (tgt := 50) dX8_isOf_43 (by decide) (fun h6 => ?_) (fun h6 => ?_)
            · refine x_iconst C (v := 0) dX8_isOf_50 (by decide) ?_
              exact x_zret C rfl (if_neg (by simp only [isK, tI_eq, tl_0, tl_2, tl_3, tl_4, tl_5, tl_6] at h1 h2 h3 h4 h5 h6 ⊢ <;> omega)).symm rfl rfl dX8_isOf_51
            · refine x_iconst C (v := 1) dX8_isOf_46 (by decide) ?_
              refine x_goto2 C (tgt := 51) dX8_isOf_47 (by decide) ?_
              exact x_zret C rfl (if_pos (by simp only [isK, tI_eq, tl_0, tl_2, tl_3, tl_4, tl_5, tl_6] at h1 h2 h3 h4 h5 h6 ⊢ <;> omega)).symm rfl rfl dX8_isOf_51
        · refine x_iload_n C 0 dX8_isOf_30 rfl rfl ?_
          refine x_bipush C (v := 6) dX8_isOf_31 (by decide) ?_
          refine x_icmp_eq C (tgt := 46) dX8_isOf_33 (by decide) (fun h7 => ?_) (fun h7 => ?_)
          · refine x_iconst C (v := 1) dX8_isOf_46 (by decide) ?_
            refine x_goto2 C (tgt := 51) dX8_isOf_47 (by decide) ?_
            exact x_zret C rfl (if_pos (by simp only [isK, tI_eq, tl_0, tl_2, tl_3, tl_4, tl_5, tl_6] at h1 h2 h3 h4 h7 ⊢ <;> omega)).symm rfl rfl dX8_isOf_51
          · refine x_iload_n C 1 dX8_isOf_36 rfl rfl ?_
            refine x_iconst C (v := 3) dX8_isOf_37 (by decide) ?_
            refine x_icmp_ne C (tgt := 50) dX8_isOf_38 (by decide) (fun h8 => ?_) (fun h8 => ?_)
            · refine x_iconst C (v := 0) dX8_isOf_50 (by decide) ?_
              exact x_zret C rfl (if_neg (by simp only [isK, tI_eq, tl_0, tl_2, tl_3, tl_4, tl_5, tl_6] at h1 h2 h3 h4 h7 h8 ⊢ <;> omega)).symm rfl rfl dX8_isOf_51
            · refine x_iload_n C 0 dX8_isOf_41 rfl rfl ?_
              refine x_iconst C (v := 5) dX8_isOf_42 (by decide) ?_
              refine x_icmp_ne C (tgt := 50) dX8_isOf_43 (by decide) (fun h9 => ?_) (fun h9 => ?_)
              · refine x_iconst C (v := 0) dX8_isOf_50 (by decide) ?_
                exact x_zret C rfl (if_neg (by simp only [isK, tI_eq, tl_0, tl_2, tl_3, tl_4, tl_5, tl_6] at h1 h2 h3 h4 h7 h8 h9 ⊢ <;> omega)).symm rfl rfl dX8_isOf_51
              · refine x_iconst C (v := 1) dX8_isOf_46 (by decide) ?_
                refine x_goto2 C (tgt := 51) dX8_isOf_47 (by decide) ?_
                exact x_zret C rfl (if_pos (by simp only [isK, tI_eq, tl_0, tl_2, tl_3, tl_4, tl_5, tl_6] at h1 h2 h3 h4 h7 h8 h9 ⊢ <;> omega)).symm rfl rfl dX8_isOf_51
      · refine x_iload_n C 0 dX8_isOf_14 rfl rfl ?_
        refine x_iconst C (v := 4) dX8_isOf_15 (by decide) ?_
        refine x_icmp_eq C (tgt := 46) dX8_isOf_16 (by decide) (fun h10 => ?_) (fun h10 => ?_)
        · refine x_iconst C (v := 1) dX8_isOf_46 (by decide) ?_
          refine x_goto2 C (tgt := 51) dX8_isOf_47 (by decide) ?_
          exact x_zret C rfl (if_pos (by simp only [isK, tI_eq, tl_0, tl_2, tl_3, tl_4, tl_5, tl_6] at h1 h2 h3 h10 ⊢ <;> omega)).symm rfl rfl dX8_isOf_51
        · refine x_iload_n C 0 dX8_isOf_19 rfl rfl ?_
          refine x_bipush C (v := 6) dX8_isOf_20 (by decide) ?_
          refine x_icmp_eq C (tgt := 46) dX8_isOf_22 (by decide) (fun h11 => ?_) (fun h11 => ?_)
          · refine x_iconst C (v := 1) dX8_isOf_46 (by decide) ?_
            refine x_goto2 C (tgt := 51) dX8_isOf_47 (by decide) ?_
            exact x_zret C rfl (if_pos (by simp only [isK, tI_eq, tl_0, tl_2, tl_3, tl_4, tl_5, tl_6] at h1 h2 h3 h10 h11 ⊢ <;> omega)).symm rfl rfl dX8_isOf_51
          · refine x_iload_n C 1 dX8_isOf_25 rfl rfl ?_
            refine x_iconst C (v := 4) dX8_isOf_26 (by decide) ?_
            refine x_icmp_ne C (tgt := 36) dX8_isOf_27 (by decide) (fun h12 => ?_) (fun h12 => ?_)
            · refine x_iload_n C 1 dX8_isOf_36 rfl rfl ?_
              refine x_iconst C (v := 3) dX8_isOf_37 (by decide) ?_
              refine x_icmp_ne C (tgt := 50) dX8_isOf_38 (by decide) (fun h13 => ?_) (fun h13 => ?_)
              · refine x_iconst C (v := 0) dX8_isOf_50 (by decide) ?_
                exact x_zret C rfl (if_neg (by simp only [isK, tI_eq, tl_0, tl_2, tl_3, tl_4, tl_5, tl_6] at h1 h2 h3 h10 h11 h12 h13 ⊢ <;> omega)).symm rfl rfl dX8_isOf_51
              · refine x_iload_n C 0 dX8_isOf_41 rfl rfl ?_
                refine x_iconst C (v := 5) dX8_isOf_42 (by decide) ?_
                refine x_icmp_ne C (tgt := 50) dX8_isOf_43 (by decide) (fun h14 => ?_) (fun h14 => ?_)
                · refine x_iconst C (v := 0) dX8_isOf_50 (by decide) ?_
                  exact x_zret C rfl (if_neg (by simp only [isK, tI_eq, tl_0, tl_2, tl_3, tl_4, tl_5, tl_6] at h1 h2 h3 h10 h11 h12 h13 h14 ⊢ <;> omega)).symm rfl rfl dX8_isOf_51
                · refine x_iconst C (v := 1) dX8_isOf_46 (by decide) ?_
                  refine x_goto2 C (tgt := 51) dX8_isOf_47 (by decide) ?_
                  exact x_zret C rfl (if_pos (by simp only [isK, tI_eq, tl_0, tl_2, tl_3, tl_4, tl_5, tl_6] at h1 h2 h3 h10 h11 h12 h13 h14 ⊢ <;> omega)).symm rfl rfl dX8_isOf_51
            · refine x_iload_n C 0 dX8_isOf_30 rfl rfl ?_
              refine x_bipush C (v := 6) dX8_isOf_31 (by decide) ?_
              refine x_icmp_eq C (tgt := 46) dX8_isOf_33 (by decide) (fun h15 => ?_) (fun h15 => ?_)
              · refine x_iconst C (v := 1) dX8_isOf_46 (by decide) ?_
                refine x_goto2 C (tgt := 51) dX8_isOf_47 (by decide) ?_
                exact x_zret C rfl (if_pos (by simp only [isK, tI_eq, tl_0, tl_2, tl_3, tl_4, tl_5, tl_6] at h1 h2 h3 h10 h11 h12 h15 ⊢ <;> omega)).symm rfl rfl dX8_isOf_51
              · refine x_iload_n C 1 dX8_isOf_36 rfl rfl ?_
                refine x_iconst C (v := 3) dX8_isOf_37 (by decide) ?_
                refine x_icmp_ne C (tgt := 50) dX8_isOf_38 (by decide) (fun h16 => ?_) (fun h16 => ?_)
                · refine x_iconst C (v := 0) dX8_isOf_50 (by decide) ?_
                  exact x_zret C rfl (if_neg (by simp only [isK, tI_eq, tl_0, tl_2, tl_3, tl_4, tl_5, tl_6] at h1 h2 h3 h10 h11 h12 h15 h16 ⊢ <;> omega)).symm rfl rfl dX8_isOf_51
                · refine x_iload_n C 0 dX8_isOf_41 rfl rfl ?_
                  refine x_iconst C (v := 5) dX8_isOf_42 (by decide) ?_
                  refine x_icmp_ne C (tgt := 50) dX8_isOf_43 (by decide) (fun h17 => ?_) (fun h17 => ?_)
                  · refine x_iconst C (v := 0) dX8_isOf_50 (by decide) ?_
                    exact x_zret C rfl (if_neg (by simp only [isK, tI_eq, tl_0, tl_2, tl_3, tl_4, tl_5, tl_6] at h1 h2 h3 h10 h11 h12 h15 h16 h17 ⊢ <;> omega)).symm rfl rfl dX8_isOf_51
                  · refine x_iconst C (v := 1) dX8_isOf_46 (by decide) ?_
                    refine x_goto2 C (tgt := 51) dX8_isOf_47 (by decide) ?_
                    exact x_zret C rfl (if_pos (by simp only [isK, tI_eq, tl_0, tl_2, tl_3, tl_4, tl_5, tl_6] at h1 h2 h3 h10 h11 h12 h15 h16 h17 ⊢ <;> omega)).symm rfl rfl dX8_isOf_51
set_option maxHeartbeats 4000000 in
set_option maxRecDepth 100000 in
theorem c_findAll (l : Launch) (E : xE) (σ : Nat → Nat → Int32) (τ : Nat → Int64) : xMi l yX7_findingsOfAll cX7_findingsOfAll 3 .int 0 0 E [.ref (xad E (0))] (σ) (τ) (sumN (σ 4) 7) (σ) (τ) := by
  refine xMi_of (own := RX7) (by decide +kernel) rfl (Nat.le_of_ble_eq_true rfl) ?_
  intro zp ze zs zm za zb zh zc C
  refine WM.to (lv1 := [(0, .ref (xad E (0)))]) (st1 := []) (σ1 := σ) (τ1 := τ) ?_ rfl rfl rfl rfl
  refine x_iconst C (v := 0) dX7_findingsOfAll_0 (by decide) ?_
  refine x_istore_n C (lv1 := [(1, .int (0)), (0, .ref (xad E (0)))]) dX7_findingsOfAll_1 rfl (by decide) rfl ?_
  refine x_iconst C (v := 0) dX7_findingsOfAll_2 (by decide) ?_
  refine x_istore_n C (lv1 := [(2, .int (0)), (1, .int (0)), (0, .ref (xad E (0)))]) dX7_findingsOfAll_3 rfl (by decide) rfl ?_
  have loop : ∀ (j k : Nat), j + k = 7 → WM zp l ze { frames := 0, cells := 0, slots := 0, locals := 0 } zs zm za zb zh zc 0 0 (MQ zb (va_Qi (fun r (_ : Unit) => r = (sumN (σ 4) 7)) (fun _ t => xP E (σ) (τ) t.heap) (xA E)) za zs 0 0 (xA E)) E (xA E) 3 (σ) (τ) 4 [(0, .ref (xad E (0))), (1, .int (sumN (σ 4) k)), (2, .int (nI k))] [] := by
    intro j
    induction j with
    | zero =>
      intro k hk
      refine x_iload_n C 2 dX7_findingsOfAll_4 rfl rfl ?_
      refine x_bipush C (v := 7) dX7_findingsOfAll_5 (by decide) ?_
      refine x_icmp_ge C (tgt := 25) dX7_findingsOfAll_7 (by decide) (fun h1 => ?_) (fun h1 => absurd h1 (nI_nlt (a := k) (b := 7) (by omega) (by omega)))
      refine x_iload_n C 1 dX7_findingsOfAll_25 rfl rfl ?_
      exact x_iret C (by rw [show k = 7 by omega]) rfl rfl dX7_findingsOfAll_26
    | succ j ih =>
      intro k hk
      refine x_iload_n C 2 dX7_findingsOfAll_4 rfl rfl ?_
      refine x_bipush C (v := 7) dX7_findingsOfAll_5 (by decide) ?_
      refine x_icmp_ge C (tgt := 25) dX7_findingsOfAll_7 (by decide) (fun h2 => absurd (nI_lt (a := k) (b := 7) (by omega) (by omega)) h2) (fun h2 => ?_)
      refine x_iload_n C 1 dX7_findingsOfAll_10 rfl rfl ?_
      refine x_aload_n C 0 dX7_findingsOfAll_11 rfl rfl ?_
      refine x_get C (Nat.le_of_ble_eq_true rfl) xd_0 fl_X7_54 (q := (0, 72, 0)) (v := .ref (xad E (72))) rfl rfl dX7_findingsOfAll_12 ?_
      refine x_iload_n C 2 dX7_findingsOfAll_15 rfl rfl ?_
      refine x_ald C (Nat.le_of_ble_eq_true rfl) xd_72 (v := σ 4 k) (vp_in_nI (show k < 7 by omega) (by decide)) (by rw [(nI_clamp (show k < 2 ^ 31 by omega)), Nat.zero_add, Nat.one_mul]) dX7_findingsOfAll_16 ?_
      refine x_iadd C dX7_findingsOfAll_17 ?_
      refine x_istore_n C (lv1 := [(1, .int ((sumN (σ 4) k) + (σ 4 k))), (0, .ref (xad E (0))), (2, .int (nI k))]) dX7_findingsOfAll_18 rfl (by decide) rfl ?_
      refine x_iinc C (v := nI (k + 1)) (lv1 := [(2, .int (nI (k + 1))), (1, .int ((sumN (σ 4) k) + (σ 4 k))), (0, .ref (xad E (0)))]) 2 dX7_findingsOfAll_19 rfl (nI_add k 1) (by decide) rfl ?_
      refine x_goto2 C (tgt := 4) dX7_findingsOfAll_22 (by decide) ?_
      refine WM.keep [2, 1, 0] (lv' := [(0, .ref (xad E (0))), (1, .int ((sumN (σ 4) k) + (σ 4 k))), (2, .int (nI (k + 1)))]) rfl ?_
      exact WM.to (ih (k + 1) (by omega)) rfl rfl rfl rfl
  refine WM.keep [2, 1, 0] rfl ?_
  exact WM.to (loop (7) 0 (by omega)) rfl rfl rfl rfl
set_option maxHeartbeats 4000000 in
set_option maxRecDepth 100000 in
theorem k_turn (l : Launch) (E : xE) (σ : Nat → Nat → Int32) (τ : Nat → Int64) (T : Nat) (hT : T < 1073741824) (i what : Int32) (hI : Inv (cv σ) T) : xOi l yX7_turn cX7_turn 3 .int 2 44 E [.ref (xad E (0)), .int (i), .int (what)] σ τ (cpost (sp_turn i what (cv σ)) σ) := by
  refine xOi_of (own := RX7) (by decide +kernel) rfl (Nat.le_of_ble_eq_true rfl) ?_
  intro zp ze zs zm za zb zh zc C
  refine WM.to (lv1 := [(0, .ref (xad E (0))), (1, .int (i)), (2, .int (what))]) (st1 := []) (σ1 := σ) (τ1 := τ) ?_ rfl rfl rfl rfl
  have hg : gI (σ 0) := hI.g
  have hgT : gT (σ 0) T := hI.t
  have h0 : 0 ≤ (σ 0 10).toInt := hI.h0
  refine x_iload_n C 1 dX7_turn_0 rfl rfl ?_
  refine x_iconst C (v := 0) dX7_turn_1 (by decide) ?_
  refine x_aload_n C 0 dX7_turn_2 rfl rfl ?_
  refine x_get C (Nat.le_of_ble_eq_true rfl) xd_0 fl_X7_12 (q := (0, 1, 0)) (v := .ref (xad E (1))) rfl rfl dX7_turn_3 ?_
  refine x_get C (Nat.le_of_ble_eq_true rfl) xd_1 fl_X7_68 (q := (0, 2, 0)) (v := .ref (xad E (2))) rfl rfl dX7_turn_6 ?_
  refine WM.to (σ1 := va_up σ 0 (σ 0)) ?_ (xself _ _).symm rfl rfl rfl
  refine x_callVi C (As := []) (rest := [.int (0), .int (i)]) (cW_logged l E σ τ 0 (by decide) (σ 0)) kv_X7_136 (x_recv C (Nat.le_of_ble_eq_true rfl) xd_2 rfl) ⟨Nat.le_of_ble_eq_true rfl, Nat.le_of_ble_eq_true rfl⟩ rfl rfl (Nat.le_of_ble_eq_true rfl) dX7_turn_9 ?_
  refine WM.to (σ1 := σ) ?_ (xself _ _) rfl rfl rfl
  refine x_iconst C (v := 1) dX7_turn_12 (by decide) ?_
  refine x_isub C dX7_turn_13 ?_
  refine x_callSi C (As := [.int (i), .int (0), .int ((loggedG (σ 0)) - 1)]) (rest := []) (c_within l E σ τ i 0 ((loggedG (σ 0)) - 1)) ks_X7_59 ⟨Nat.le_of_ble_eq_true rfl, Nat.le_of_ble_eq_true rfl⟩ rfl rfl (Nat.le_of_ble_eq_true rfl) dX7_turn_14 ?_
  refine x_ifneB C (tgt := 27) dX7_turn_17 (by decide) (fun h1 => ?_) (fun h1 => ?_)
  · obtain ⟨q, hq, rfl⟩ := rngLog h0 h1
    have hlN := logN_le (σ 0)
    refine x_iload_n C 2 dX7_turn_27 rfl rfl ?_
    by_cases t2 : what = 0
    · refine WM.topi (y := 0) t2 ?_
      refine x_lookup C (off := 28) (tgt := 56) dX7_turn_28 (by decide) (by decide) (by decide) ?_
      refine x_aload_n C 0 dX7_turn_56 rfl rfl ?_
      refine x_get C (Nat.le_of_ble_eq_true rfl) xd_0 fl_X7_12 (q := (0, 1, 0)) (v := .ref (xad E (1))) rfl rfl dX7_turn_57 ?_
      refine x_get C (Nat.le_of_ble_eq_true rfl) xd_1 fl_X7_68 (q := (0, 2, 0)) (v := .ref (xad E (2))) rfl rfl dX7_turn_60 ?_
      refine x_get C (Nat.le_of_ble_eq_true rfl) xd_2 fl_X7_139 (q := (0, 6, 0)) (v := .ref (xad E (6))) rfl rfl dX7_turn_63 ?_
      refine x_iload_n C 1 dX7_turn_66 rfl rfl ?_
      refine x_ald C (Nat.le_of_ble_eq_true rfl) xd_6 (v := σ 0 (44 + 2 * q)) (vp_in_nI (show q < 40 by omega) (by decide)) (by rw [(nI_clamp (show q < 2 ^ 31 by omega))]) dX7_turn_67 ?_
      exact x_oret C (cpost_of (V := cv σ) (Eq.trans (if_pos (by first | assumption | ((try simp only [rng, mayQ, tI_lt, tI_eq, cvr_0, mvr_0, cvr_c, mvr_c, tl_0, tl_1, tl_2, tl_3, tl_4, tl_5, tl_6, tl_7, tl_8, tl_9, tl_10, tl_11, tl_12, tl_13, tl_99] at h1 t2 ⊢) <;> omega))) (by rw [t2]; unfold turnS; rw [nI_clamp (by omega)]; rfl)) rfl rfl rfl) dX7_turn_68
    · by_cases t3 : what = 1
      · refine WM.topi (y := 1) t3 ?_
        refine x_lookup C (off := 41) (tgt := 69) dX7_turn_28 (by decide) (by decide) (by decide) ?_
        refine x_aload_n C 0 dX7_turn_69 rfl rfl ?_
        refine x_get C (Nat.le_of_ble_eq_true rfl) xd_0 fl_X7_12 (q := (0, 1, 0)) (v := .ref (xad E (1))) rfl rfl dX7_turn_70 ?_
        refine x_get C (Nat.le_of_ble_eq_true rfl) xd_1 fl_X7_68 (q := (0, 2, 0)) (v := .ref (xad E (2))) rfl rfl dX7_turn_73 ?_
        refine x_get C (Nat.le_of_ble_eq_true rfl) xd_2 fl_X7_142 (q := (0, 7, 0)) (v := .ref (xad E (7))) rfl rfl dX7_turn_76 ?_
        refine x_iload_n C 1 dX7_turn_79 rfl rfl ?_
        refine x_ald C (Nat.le_of_ble_eq_true rfl) xd_7 (v := σ 0 (45 + 2 * q)) (vp_in_nI (show q < 40 by omega) (by decide)) (by rw [(nI_clamp (show q < 2 ^ 31 by omega))]) dX7_turn_80 ?_
        exact x_oret C (cpost_of (V := cv σ) (Eq.trans (if_pos (by first | assumption | ((try simp only [rng, mayQ, tI_lt, tI_eq, cvr_0, mvr_0, cvr_c, mvr_c, tl_0, tl_1, tl_2, tl_3, tl_4, tl_5, tl_6, tl_7, tl_8, tl_9, tl_10, tl_11, tl_12, tl_13, tl_99] at h1 t2 t3 ⊢) <;> omega))) (by rw [t3]; unfold turnS; rw [nI_clamp (by omega), show 44 + 2 * q + (1 : Int32).toNatClampNeg = 45 + 2 * q from by rw [show (1 : Int32).toNatClampNeg = 1 from by decide]; omega]; rfl)) rfl rfl rfl) dX7_turn_81
      · refine x_lookup C (off := 54) (tgt := 82) dX7_turn_28 (by decide) (by show Op.lookupswitch.offset [(0, 28), (1, 41)] 54 (Int32.toInt what) = 54; rw [lv_osw t2 (by decide), lv_osw t3 (by decide)]; rfl) (by decide) ?_
        refine x_aload_n C 0 dX7_turn_82 rfl rfl ?_
        refine x_ldc C dX7_turn_83 kc_X7_63 ?_
        refine x_callVi C (As := [.int ((-1000001))]) (rest := []) (c_finding l E σ τ 0 (by decide) (-1000001) (by decide)) kv_X7_64 (x_recv C (Nat.le_of_ble_eq_true rfl) xd_0 rfl) ⟨Nat.le_of_ble_eq_true rfl, Nat.le_of_ble_eq_true rfl⟩ rfl rfl (Nat.le_of_ble_eq_true rfl) dX7_turn_85 ?_
        exact x_oret C (cpost_of (V := u2 (cv σ) 2 0 (σ 4 0 + 1)) (if_neg (by first | assumption | ((try simp only [rng, mayQ, tI_lt, tI_eq, cvr_0, mvr_0, cvr_c, mvr_c, tl_0, tl_1, tl_2, tl_3, tl_4, tl_5, tl_6, tl_7, tl_8, tl_9, tl_10, tl_11, tl_12, tl_13, tl_99] at h1 t2 t3 ⊢) <;> omega))) (by rw [cv_u4]) (by rw [mv_u4]) rfl) dX7_turn_88
  · refine x_aload_n C 0 dX7_turn_20 rfl rfl ?_
    refine x_ldc C dX7_turn_21 kc_X7_63 ?_
    refine x_callVi C (As := [.int ((-1000001))]) (rest := []) (c_finding l E σ τ 0 (by decide) (-1000001) (by decide)) kv_X7_64 (x_recv C (Nat.le_of_ble_eq_true rfl) xd_0 rfl) ⟨Nat.le_of_ble_eq_true rfl, Nat.le_of_ble_eq_true rfl⟩ rfl rfl (Nat.le_of_ble_eq_true rfl) dX7_turn_23 ?_
    exact x_oret C (cpost_of (V := u2 (cv σ) 2 0 (σ 4 0 + 1)) (if_neg (by first | assumption | ((try simp only [rng, mayQ, tI_lt, tI_eq, cvr_0, mvr_0, cvr_c, mvr_c, tl_0, tl_1, tl_2, tl_3, tl_4, tl_5, tl_6, tl_7, tl_8, tl_9, tl_10, tl_11, tl_12, tl_13, tl_99] at h1 ⊢) <;> omega))) (by rw [cv_u4]) (by rw [mv_u4]) rfl) dX7_turn_26
set_option maxHeartbeats 4000000 in
set_option maxRecDepth 100000 in
theorem m_turn (l : Launch) (E : xE) (σ : Nat → Nat → Int32) (τ : Nat → Int64) (T : Nat) (hT : T < 1073741824) (i what : Int32) (hI : Inv (mv σ) T) (hlv : ∀ j, j < 12 → σ 15 j = (xzl 1).getD j 0) : xOi l yX8_turn cX8_turn 3 .int 1 25 E [.ref (xad E (81)), .int (i), .int (what)] σ τ (mpost (sp_turn i what (mv σ)) σ) := by
  refine xOi_of (own := RX8) (by decide +kernel) rfl (Nat.le_of_ble_eq_true rfl) ?_
  intro zp ze zs zm za zb zh zc C
  refine WM.to (lv1 := [(0, .ref (xad E (81))), (1, .int (i)), (2, .int (what))]) (st1 := []) (σ1 := σ) (τ1 := τ) ?_ rfl rfl rfl rfl
  have hg : gI (σ 10) := hI.g
  have hgT : gT (σ 10) T := hI.t
  have h0 : 0 ≤ (σ 10 10).toInt := hI.h0
  refine x_iload_n C 1 dX8_turn_0 rfl rfl ?_
  refine x_i2l C dX8_turn_1 ?_
  refine x_lconst C (v := 0) dX8_turn_2 (by decide) ?_
  refine x_aload_n C 0 dX8_turn_3 rfl rfl ?_
  refine x_callVi C (As := []) (rest := [.long (0), .long (Int32.toInt64 i)]) (c_mlogged l E σ τ ) kv_X8_119 (x_recv C (Nat.le_of_ble_eq_true rfl) xd_81 rfl) ⟨Nat.le_of_ble_eq_true rfl, Nat.le_of_ble_eq_true rfl⟩ rfl rfl (Nat.le_of_ble_eq_true rfl) dX8_turn_4 ?_
  refine x_iconst C (v := 1) dX8_turn_7 (by decide) ?_
  refine x_isub C dX8_turn_8 ?_
  refine x_i2l C dX8_turn_9 ?_
  refine x_callSi C (As := [.long (Int32.toInt64 i), .long (0), .long (Int32.toInt64 ((loggedG (σ 10)) - 1))]) (rest := []) (c_in l E σ τ (Int32.toInt64 i) 0 (Int32.toInt64 ((loggedG (σ 10)) - 1))) ks_X8_49 ⟨Nat.le_of_ble_eq_true rfl, Nat.le_of_ble_eq_true rfl⟩ rfl rfl (Nat.le_of_ble_eq_true rfl) dX8_turn_10 ?_
  refine WM.topi (y := if rng i 0 ((loggedG (σ 10)) - 1) then 1 else 0) (in_eq i 0 ((loggedG (σ 10)) - 1) (by decide) rfl) ?_
  refine x_ifeqB C (tgt := 42) dX8_turn_13 (by decide) (fun h1 => ?_) (fun h1 => ?_)
  · refine x_aload_n C 0 dX8_turn_42 rfl rfl ?_
    refine x_ldc C dX8_turn_43 kc_X8_46 ?_
    refine x_callVi C (As := [.int ((-1000001))]) (rest := []) (c_finds l E σ τ 0 (by decide) (-1000001) (by decide)) kv_X8_61 (x_recv C (Nat.le_of_ble_eq_true rfl) xd_81 rfl) ⟨Nat.le_of_ble_eq_true rfl, Nat.le_of_ble_eq_true rfl⟩ rfl rfl (Nat.le_of_ble_eq_true rfl) dX8_turn_45 ?_
    exact x_oret C (mpost_of (V := u2 (mv σ) 2 0 (σ 14 0 + 1)) (if_neg (by first | assumption | ((try simp only [rng, mayQ, tI_lt, tI_eq, cvr_0, mvr_0, cvr_c, mvr_c, tl_0, tl_1, tl_2, tl_3, tl_4, tl_5, tl_6, tl_7, tl_8, tl_9, tl_10, tl_11, tl_12, tl_13, tl_99] at h1 ⊢) <;> omega))) (by rw [mv_u14]) (by rw [cv_u14]) rfl) dX8_turn_48
  · refine x_iload_n C 2 dX8_turn_16 rfl rfl ?_
    refine x_i2l C dX8_turn_17 ?_
    refine x_lconst C (v := 0) dX8_turn_18 (by decide) ?_
    refine x_lconst C (v := 1) dX8_turn_19 (by decide) ?_
    refine x_callSi C (As := [.long (Int32.toInt64 what), .long (0), .long (1)]) (rest := []) (c_in l E σ τ (Int32.toInt64 what) 0 1) ks_X8_49 ⟨Nat.le_of_ble_eq_true rfl, Nat.le_of_ble_eq_true rfl⟩ rfl rfl (Nat.le_of_ble_eq_true rfl) dX8_turn_20 ?_
    refine WM.topi (y := if rng what 0 1 then 1 else 0) (in_eq what 0 1 (by decide) (by decide)) ?_
    refine x_ifeqB C (tgt := 42) dX8_turn_23 (by decide) (fun h2 => ?_) (fun h2 => ?_)
    · refine x_aload_n C 0 dX8_turn_42 rfl rfl ?_
      refine x_ldc C dX8_turn_43 kc_X8_46 ?_
      refine x_callVi C (As := [.int ((-1000001))]) (rest := []) (c_finds l E σ τ 0 (by decide) (-1000001) (by decide)) kv_X8_61 (x_recv C (Nat.le_of_ble_eq_true rfl) xd_81 rfl) ⟨Nat.le_of_ble_eq_true rfl, Nat.le_of_ble_eq_true rfl⟩ rfl rfl (Nat.le_of_ble_eq_true rfl) dX8_turn_45 ?_
      exact x_oret C (mpost_of (V := u2 (mv σ) 2 0 (σ 14 0 + 1)) (if_neg (by first | assumption | ((try simp only [rng, mayQ, tI_lt, tI_eq, cvr_0, mvr_0, cvr_c, mvr_c, tl_0, tl_1, tl_2, tl_3, tl_4, tl_5, tl_6, tl_7, tl_8, tl_9, tl_10, tl_11, tl_12, tl_13, tl_99] at h1 h2 ⊢) <;> omega))) (by rw [mv_u14]) (by rw [cv_u14]) rfl) dX8_turn_48
    · obtain ⟨q, hq, rfl⟩ := rngLog h0 h1
      have hlN := logN_le (σ 10)
      obtain ⟨r, hra, hrb, rfl⟩ := rngN (a := 0) (b := 1) h2 (by decide) (by decide) (by decide)
      refine x_aload_n C 0 dX8_turn_26 rfl rfl ?_
      refine x_get C (Nat.le_of_ble_eq_true rfl) xd_81 fl_X8_9 (q := (0, 82, 0)) (v := .ref (xad E (82))) rfl rfl dX8_turn_27 ?_
      refine x_bipush C (v := 44) dX8_turn_30 (by decide) ?_
      refine x_iconst C (v := 2) dX8_turn_32 (by decide) ?_
      refine x_iload_n C 1 dX8_turn_33 rfl rfl ?_
      refine x_imul C dX8_turn_34 ?_
      refine WM.topi (y := nI (2 * q)) (pk_mul 2 q) ?_
      refine x_iadd C dX8_turn_35 ?_
      refine WM.topi (y := nI (44 + (2 * q))) (nI_add 44 (2 * q)) ?_
      refine x_iload_n C 2 dX8_turn_36 rfl rfl ?_
      refine x_iadd C dX8_turn_37 ?_
      refine WM.topi (y := nI (44 + (2 * q) + r)) (nI_add (44 + (2 * q)) r) ?_
      refine x_ald C (Nat.le_of_ble_eq_true rfl) xd_82 (v := σ 10 (44 + (2 * q) + r)) (vp_in_nI (show 44 + (2 * q) + r < 284 by omega) (by decide)) (by rw [(nI_clamp (show 44 + (2 * q) + r < 2 ^ 31 by omega)), Nat.zero_add, Nat.one_mul]) dX8_turn_38 ?_
      refine x_goto2 C (tgt := 48) dX8_turn_39 (by decide) ?_
      exact x_oret C (mpost_of (V := mv σ) (Eq.trans (if_pos (by first | assumption | ((try simp only [rng, mayQ, tI_lt, tI_eq, cvr_0, mvr_0, cvr_c, mvr_c, tl_0, tl_1, tl_2, tl_3, tl_4, tl_5, tl_6, tl_7, tl_8, tl_9, tl_10, tl_11, tl_12, tl_13, tl_99] at h1 h2 ⊢) <;> omega))) (by unfold turnS; rw [nI_clamp (by omega), nI_clamp (by omega)]; rfl)) rfl rfl rfl) dX8_turn_48
set_option maxHeartbeats 4000000 in
set_option maxRecDepth 100000 in
theorem k_rising (l : Launch) (E : xE) (σ : Nat → Nat → Int32) (τ : Nat → Int64) (T : Nat) (hT : T < 1073741824)  (hI : Inv (cv σ) T) : xOi l yX7_rising cX7_rising 4 .int 2 43 E [.ref (xad E (0))] σ τ (cpost (sp_rising (cv σ)) σ) := by
  refine xOi_of (own := RX7) (by decide +kernel) rfl (Nat.le_of_ble_eq_true rfl) ?_
  intro zp ze zs zm za zb zh zc C
  refine WM.to (lv1 := [(0, .ref (xad E (0)))]) (st1 := []) (σ1 := σ) (τ1 := τ) ?_ rfl rfl rfl rfl
  have hg : gI (σ 0) := hI.g
  have hgT : gT (σ 0) T := hI.t
  have h0 : 0 ≤ (σ 0 10).toInt := hI.h0
  have hlN := logN_le (σ 0)
  refine x_aload_n C 0 dX7_rising_0 rfl rfl ?_
  refine x_get C (Nat.le_of_ble_eq_true rfl) xd_0 fl_X7_12 (q := (0, 1, 0)) (v := .ref (xad E (1))) rfl rfl dX7_rising_1 ?_
  refine x_get C (Nat.le_of_ble_eq_true rfl) xd_1 fl_X7_68 (q := (0, 2, 0)) (v := .ref (xad E (2))) rfl rfl dX7_rising_4 ?_
  refine x_get C (Nat.le_of_ble_eq_true rfl) xd_2 fl_X7_142 (q := (0, 7, 0)) (v := .ref (xad E (7))) rfl rfl dX7_rising_7 ?_
  refine x_astore_n C (lv1 := [(1, .ref (xad E (7))), (0, .ref (xad E (0)))]) dX7_rising_10 rfl (by decide) rfl ?_
  refine x_iconst C (v := 0) dX7_rising_11 (by decide) ?_
  refine x_istore_n C (lv1 := [(2, .int (0)), (1, .ref (xad E (7))), (0, .ref (xad E (0)))]) dX7_rising_12 rfl (by decide) rfl ?_
  refine x_iconst C (v := 1) dX7_rising_13 (by decide) ?_
  refine x_istore_n C (lv1 := [(3, .int (1)), (2, .int (0)), (1, .ref (xad E (7))), (0, .ref (xad E (0)))]) dX7_rising_14 rfl (by decide) rfl ?_
  have loop : ∀ (j k : Nat), j + k = logN (σ 0) - 1 → WM zp l ze { frames := 2, cells := 0, slots := 0, locals := 43 } zs zm za zb zh zc 0 0 (MQ zb (va_Qi (fun r (u : xV × (Nat → Int64)) => (cpost (sp_rising (cv σ)) σ) r u.1) (fun u t => xP E u.1 u.2 t.heap) (xA E)) za zs 0 0 (xA E)) E (xA E) 4 (σ) (τ) 15 [(0, .ref (xad E (0))), (1, .ref (xad E (7))), (2, .int (risN (σ 0) k)), (3, .int (nI (k + 1)))] [] := by
    intro j
    induction j with
    | zero =>
      intro k hk
      refine x_iload_n C 3 dX7_rising_15 rfl rfl ?_
      refine x_aload_n C 0 dX7_rising_16 rfl rfl ?_
      refine x_get C (Nat.le_of_ble_eq_true rfl) xd_0 fl_X7_12 (q := (0, 1, 0)) (v := .ref (xad E (1))) rfl rfl dX7_rising_17 ?_
      refine x_get C (Nat.le_of_ble_eq_true rfl) xd_1 fl_X7_68 (q := (0, 2, 0)) (v := .ref (xad E (2))) rfl rfl dX7_rising_20 ?_
      refine WM.to (σ1 := va_up σ 0 (σ 0)) ?_ (xself _ _).symm rfl rfl rfl
      refine x_callVi C (As := []) (rest := [.int (nI (k + 1))]) (cW_logged l E σ τ 0 (by decide) (σ 0)) kv_X7_136 (x_recv C (Nat.le_of_ble_eq_true rfl) xd_2 rfl) ⟨Nat.le_of_ble_eq_true rfl, Nat.le_of_ble_eq_true rfl⟩ rfl rfl (Nat.le_of_ble_eq_true rfl) dX7_rising_23 ?_
      refine WM.topi (y := nI (logN (σ 0))) (logged_eq h0) ?_
      refine WM.to (σ1 := σ) ?_ (xself _ _) rfl rfl rfl
      refine x_icmp_ge C (tgt := 49) dX7_rising_26 (by decide) (fun h1 => ?_) (fun h1 => absurd h1 (nI_nlt (a := k + 1) (b := logN (σ 0)) (by omega) (by omega)))
      refine x_iload_n C 2 dX7_rising_49 rfl rfl ?_
      exact x_oret C (cpost_of (V := cv σ) (by rw [show k = logN (σ 0) - 1 by omega]; rfl) rfl rfl rfl) dX7_rising_50
    | succ j ih =>
      intro k hk
      refine x_iload_n C 3 dX7_rising_15 rfl rfl ?_
      refine x_aload_n C 0 dX7_rising_16 rfl rfl ?_
      refine x_get C (Nat.le_of_ble_eq_true rfl) xd_0 fl_X7_12 (q := (0, 1, 0)) (v := .ref (xad E (1))) rfl rfl dX7_rising_17 ?_
      refine x_get C (Nat.le_of_ble_eq_true rfl) xd_1 fl_X7_68 (q := (0, 2, 0)) (v := .ref (xad E (2))) rfl rfl dX7_rising_20 ?_
      refine WM.to (σ1 := va_up σ 0 (σ 0)) ?_ (xself _ _).symm rfl rfl rfl
      refine x_callVi C (As := []) (rest := [.int (nI (k + 1))]) (cW_logged l E σ τ 0 (by decide) (σ 0)) kv_X7_136 (x_recv C (Nat.le_of_ble_eq_true rfl) xd_2 rfl) ⟨Nat.le_of_ble_eq_true rfl, Nat.le_of_ble_eq_true rfl⟩ rfl rfl (Nat.le_of_ble_eq_true rfl) dX7_rising_23 ?_
      refine WM.topi (y := nI (logN (σ 0))) (logged_eq h0) ?_
      refine WM.to (σ1 := σ) ?_ (xself _ _) rfl rfl rfl
      refine x_icmp_ge C (tgt := 49) dX7_rising_26 (by decide) (fun h2 => absurd (nI_lt (a := k + 1) (b := logN (σ 0)) (by omega) (by omega)) h2) (fun h2 => ?_)
      refine x_aload_n C 1 dX7_rising_29 rfl rfl ?_
      refine x_iload_n C 3 dX7_rising_30 rfl rfl ?_
      refine x_ald C (Nat.le_of_ble_eq_true rfl) xd_7 (v := σ 0 (45 + 2 * (k + 1))) (vp_in_nI (show k + 1 < 40 by omega) (by decide)) (by rw [(nI_clamp (show k + 1 < 2 ^ 31 by omega))]) dX7_rising_31 ?_
      refine x_aload_n C 1 dX7_rising_32 rfl rfl ?_
      refine x_iload_n C 3 dX7_rising_33 rfl rfl ?_
      refine x_iconst C (v := 1) dX7_rising_34 (by decide) ?_
      refine x_isub C dX7_rising_35 ?_
      refine WM.topi (y := nI k) (nI_pred k) ?_
      refine x_ald C (Nat.le_of_ble_eq_true rfl) xd_7 (v := σ 0 (45 + 2 * k)) (vp_in_nI (show k < 40 by omega) (by decide)) (by rw [(nI_clamp (show k < 2 ^ 31 by omega))]) dX7_rising_36 ?_
      refine x_icmp_le C (tgt := 43) dX7_rising_37 (by decide) (fun h3 => ?_) (fun h3 => ?_)
      · refine x_iinc C (v := nI (k + 1 + 1)) (lv1 := [(3, .int (nI (k + 1 + 1))), (0, .ref (xad E (0))), (1, .ref (xad E (7))), (2, .int (risN (σ 0) k))]) 3 dX7_rising_43 rfl (nI_add (k + 1) 1) (by decide) rfl ?_
        refine x_goto2 C (tgt := 15) dX7_rising_46 (by decide) ?_
        refine WM.keep [1, 2, 3, 0] (lv' := [(0, .ref (xad E (0))), (1, .ref (xad E (7))), (2, .int (risN (σ 0) k)), (3, .int (nI (k + 1 + 1)))]) rfl ?_
        exact WM.to (ih (k + 1) (by omega)) rfl rfl (by rw [show risN (σ 0) (k + 1) = risN (σ 0) k from if_neg h3]) rfl
      · refine x_iinc C (v := (risN (σ 0) k) + 1) (lv1 := [(2, .int ((risN (σ 0) k) + 1)), (0, .ref (xad E (0))), (1, .ref (xad E (7))), (3, .int (nI (k + 1)))]) 2 dX7_rising_40 rfl rfl (by decide) rfl ?_
        refine x_iinc C (v := nI (k + 1 + 1)) (lv1 := [(3, .int (nI (k + 1 + 1))), (2, .int ((risN (σ 0) k) + 1)), (0, .ref (xad E (0))), (1, .ref (xad E (7)))]) 3 dX7_rising_43 rfl (nI_add (k + 1) 1) (by decide) rfl ?_
        refine x_goto2 C (tgt := 15) dX7_rising_46 (by decide) ?_
        refine WM.keep [2, 3, 1, 0] (lv' := [(0, .ref (xad E (0))), (1, .ref (xad E (7))), (2, .int ((risN (σ 0) k) + 1)), (3, .int (nI (k + 1 + 1)))]) rfl ?_
        exact WM.to (ih (k + 1) (by omega)) rfl rfl (by rw [show risN (σ 0) (k + 1) = risN (σ 0) k + 1 from if_pos h3]) rfl
  refine WM.keep [3, 2, 1, 0] rfl ?_
  exact WM.to (loop (logN (σ 0) - 1) 0 (by omega)) rfl rfl rfl rfl
set_option maxHeartbeats 4000000 in
set_option maxRecDepth 100000 in
theorem m_rising (l : Launch) (E : xE) (σ : Nat → Nat → Int32) (τ : Nat → Int64) (T : Nat) (hT : T < 1073741824)  (hI : Inv (mv σ) T) (hlv : ∀ j, j < 12 → σ 15 j = (xzl 1).getD j 0) : xOi l yX8_rising cX8_rising 3 .int 1 21 E [.ref (xad E (81))] σ τ (mpost (sp_rising (mv σ)) σ) := by
  refine xOi_of (own := RX8) (by decide +kernel) rfl (Nat.le_of_ble_eq_true rfl) ?_
  intro zp ze zs zm za zb zh zc C
  refine WM.to (lv1 := [(0, .ref (xad E (81)))]) (st1 := []) (σ1 := σ) (τ1 := τ) ?_ rfl rfl rfl rfl
  have hg : gI (σ 10) := hI.g
  have hgT : gT (σ 10) T := hI.t
  have h0 : 0 ≤ (σ 10 10).toInt := hI.h0
  have hlN := logN_le (σ 10)
  refine x_iconst C (v := 0) dX8_rising_0 (by decide) ?_
  refine x_istore_n C (lv1 := [(1, .int (0)), (0, .ref (xad E (81)))]) dX8_rising_1 rfl (by decide) rfl ?_
  refine x_iconst C (v := 1) dX8_rising_2 (by decide) ?_
  refine x_istore_n C (lv1 := [(2, .int (1)), (1, .int (0)), (0, .ref (xad E (81)))]) dX8_rising_3 rfl (by decide) rfl ?_
  have loop : ∀ (j k : Nat), j + k = logN (σ 10) - 1 → WM zp l ze { frames := 1, cells := 0, slots := 0, locals := 21 } zs zm za zb zh zc 0 0 (MQ zb (va_Qi (fun r (u : xV × (Nat → Int64)) => (mpost (sp_rising (mv σ)) σ) r u.1) (fun u t => xP E u.1 u.2 t.heap) (xA E)) za zs 0 0 (xA E)) E (xA E) 3 (σ) (τ) 4 [(0, .ref (xad E (81))), (1, .int (risN (σ 10) k)), (2, .int (nI (k + 1)))] [] := by
    intro j
    induction j with
    | zero =>
      intro k hk
      refine x_iload_n C 2 dX8_rising_4 rfl rfl ?_
      refine x_aload_n C 0 dX8_rising_5 rfl rfl ?_
      refine x_callVi C (As := []) (rest := [.int (nI (k + 1))]) (c_mlogged l E σ τ ) kv_X8_119 (x_recv C (Nat.le_of_ble_eq_true rfl) xd_81 rfl) ⟨Nat.le_of_ble_eq_true rfl, Nat.le_of_ble_eq_true rfl⟩ rfl rfl (Nat.le_of_ble_eq_true rfl) dX8_rising_6 ?_
      refine WM.topi (y := nI (logN (σ 10))) (logged_eq h0) ?_
      refine x_icmp_ge C (tgt := 41) dX8_rising_9 (by decide) (fun h1 => ?_) (fun h1 => absurd h1 (nI_nlt (a := k + 1) (b := logN (σ 10)) (by omega) (by omega)))
      refine x_iload_n C 1 dX8_rising_41 rfl rfl ?_
      exact x_oret C (mpost_of (V := mv σ) (by rw [show k = logN (σ 10) - 1 by omega]; rfl) rfl rfl rfl) dX8_rising_42
    | succ j ih =>
      intro k hk
      refine x_iload_n C 2 dX8_rising_4 rfl rfl ?_
      refine x_aload_n C 0 dX8_rising_5 rfl rfl ?_
      refine x_callVi C (As := []) (rest := [.int (nI (k + 1))]) (c_mlogged l E σ τ ) kv_X8_119 (x_recv C (Nat.le_of_ble_eq_true rfl) xd_81 rfl) ⟨Nat.le_of_ble_eq_true rfl, Nat.le_of_ble_eq_true rfl⟩ rfl rfl (Nat.le_of_ble_eq_true rfl) dX8_rising_6 ?_
      refine WM.topi (y := nI (logN (σ 10))) (logged_eq h0) ?_
      refine x_icmp_ge C (tgt := 41) dX8_rising_9 (by decide) (fun h2 => absurd (nI_lt (a := k + 1) (b := logN (σ 10)) (by omega) (by omega)) h2) (fun h2 => ?_)
      refine x_iload_n C 1 dX8_rising_12 rfl rfl ?_
      refine x_aload_n C 0 dX8_rising_13 rfl rfl ?_
      refine x_iload_n C 2 dX8_rising_14 rfl rfl ?_
      refine x_callVi C (As := [.int (nI (k + 1))]) (rest := [.int (risN (σ 10) k)]) (c_mpeak l E σ τ (k + 1) (by omega)) kv_X8_126 (x_recv C (Nat.le_of_ble_eq_true rfl) xd_81 rfl) ⟨Nat.le_of_ble_eq_true rfl, Nat.le_of_ble_eq_true rfl⟩ rfl rfl (Nat.le_of_ble_eq_true rfl) dX8_rising_15 ?_
      refine x_aload_n C 0 dX8_rising_18 rfl rfl ?_
      refine x_iload_n C 2 dX8_rising_19 rfl rfl ?_
      refine x_iconst C (v := 1) dX8_rising_20 (by decide) ?_
      refine x_isub C dX8_rising_21 ?_
      refine WM.topi (y := nI k) (nI_pred k) ?_
      refine x_callVi C (As := [.int (nI k)]) (rest := [.int (σ 10 (45 + 2 * (k + 1))), .int (risN (σ 10) k)]) (c_mpeak l E σ τ k (by omega)) kv_X8_126 (x_recv C (Nat.le_of_ble_eq_true rfl) xd_81 rfl) ⟨Nat.le_of_ble_eq_true rfl, Nat.le_of_ble_eq_true rfl⟩ rfl rfl (Nat.le_of_ble_eq_true rfl) dX8_rising_22 ?_
      refine x_icmp_le C (tgt := 32) dX8_rising_25 (by decide) (fun h3 => ?_) (fun h3 => ?_)
      · refine x_iconst C (v := 0) dX8_rising_32 (by decide) ?_
        refine x_iadd C dX8_rising_33 ?_
        refine x_istore_n C (lv1 := [(1, .int ((risN (σ 10) k) + 0)), (0, .ref (xad E (81))), (2, .int (nI (k + 1)))]) dX8_rising_34 rfl (by decide) rfl ?_
        refine x_iinc C (v := nI (k + 1 + 1)) (lv1 := [(2, .int (nI (k + 1 + 1))), (1, .int ((risN (σ 10) k) + 0)), (0, .ref (xad E (81)))]) 2 dX8_rising_35 rfl (nI_add (k + 1) 1) (by decide) rfl ?_
        refine x_goto2 C (tgt := 4) dX8_rising_38 (by decide) ?_
        refine WM.keep [2, 1, 0] (lv' := [(0, .ref (xad E (81))), (1, .int ((risN (σ 10) k) + 0)), (2, .int (nI (k + 1 + 1)))]) rfl ?_
        exact WM.to (ih (k + 1) (by omega)) rfl rfl (by rw [show risN (σ 10) (k + 1) = risN (σ 10) k from if_neg h3, Int32.add_zero]) rfl
      · refine x_iconst C (v := 1) dX8_rising_28 (by decide) ?_
        refine x_goto2 C (tgt := 33) dX8_rising_29 (by decide) ?_
        refine x_iadd C dX8_rising_33 ?_
        refine x_istore_n C (lv1 := [(1, .int ((risN (σ 10) k) + 1)), (0, .ref (xad E (81))), (2, .int (nI (k + 1)))]) dX8_rising_34 rfl (by decide) rfl ?_
        refine x_iinc C (v := nI (k + 1 + 1)) (lv1 := [(2, .int (nI (k + 1 + 1))), (1, .int ((risN (σ 10) k) + 1)), (0, .ref (xad E (81)))]) 2 dX8_rising_35 rfl (nI_add (k + 1) 1) (by decide) rfl ?_
        refine x_goto2 C (tgt := 4) dX8_rising_38 (by decide) ?_
        refine WM.keep [2, 1, 0] (lv' := [(0, .ref (xad E (81))), (1, .int ((risN (σ 10) k) + 1)), (2, .int (nI (k + 1 + 1)))]) rfl ?_
        exact WM.to (ih (k + 1) (by omega)) rfl rfl (by rw [show risN (σ 10) (k + 1) = risN (σ 10) k + 1 from if_pos h3]) rfl
  refine WM.keep [2, 1, 0] rfl ?_
  exact WM.to (loop (logN (σ 10) - 1) 0 (by omega)) rfl rfl rfl rfl
set_option maxHeartbeats 4000000 in
set_option maxRecDepth 100000 in
theorem k_quickest (l : Launch) (E : xE) (σ : Nat → Nat → Int32) (τ : Nat → Int64) (T : Nat) (hT : T < 1073741824)  (hI : Inv (cv σ) T) : xOi l yX7_quickest cX7_quickest 5 .int 2 44 E [.ref (xad E (0))] σ τ (cpost (sp_quickest (cv σ)) σ) := by
  refine xOi_of (own := RX7) (by decide +kernel) rfl (Nat.le_of_ble_eq_true rfl) ?_
  intro zp ze zs zm za zb zh zc C
  refine WM.to (lv1 := [(0, .ref (xad E (0)))]) (st1 := []) (σ1 := σ) (τ1 := τ) ?_ rfl rfl rfl rfl
  have hg : gI (σ 0) := hI.g
  have hgT : gT (σ 0) T := hI.t
  have h0 : 0 ≤ (σ 0 10).toInt := hI.h0
  have hlN := logN_le (σ 0)
  refine x_aload_n C 0 dX7_quickest_0 rfl rfl ?_
  refine x_get C (Nat.le_of_ble_eq_true rfl) xd_0 fl_X7_12 (q := (0, 1, 0)) (v := .ref (xad E (1))) rfl rfl dX7_quickest_1 ?_
  refine x_get C (Nat.le_of_ble_eq_true rfl) xd_1 fl_X7_68 (q := (0, 2, 0)) (v := .ref (xad E (2))) rfl rfl dX7_quickest_4 ?_
  refine WM.to (σ1 := va_up σ 0 (σ 0)) ?_ (xself _ _).symm rfl rfl rfl
  refine x_callVi C (As := []) (rest := []) (cW_logged l E σ τ 0 (by decide) (σ 0)) kv_X7_136 (x_recv C (Nat.le_of_ble_eq_true rfl) xd_2 rfl) ⟨Nat.le_of_ble_eq_true rfl, Nat.le_of_ble_eq_true rfl⟩ rfl rfl (Nat.le_of_ble_eq_true rfl) dX7_quickest_7 ?_
  refine WM.topi (y := nI (logN (σ 0))) (logged_eq h0) ?_
  refine WM.to (σ1 := σ) ?_ (xself _ _) rfl rfl rfl
  refine x_istore_n C (lv1 := [(1, .int (nI (logN (σ 0)))), (0, .ref (xad E (0)))]) dX7_quickest_10 rfl (by decide) rfl ?_
  refine x_iload_n C 0 dX7_quickest_11 rfl rfl ?_
  refine x_iconst C (v := 2) dX7_quickest_12 (by decide) ?_
  refine x_icmp_ge C (tgt := 23) dX7_quickest_13 (by decide) (fun h1 => ?_) (fun h1 => ?_)
  · have hl2 : 2 ≤ logN (σ 0) := (log2 (by omega)).mp h1
    refine x_aload_n C 1 dX7_quickest_23 rfl rfl ?_
    refine x_get C (Nat.le_of_ble_eq_true rfl) xd_0 fl_X7_12 (q := (0, 1, 0)) (v := .ref (xad E (1))) rfl rfl dX7_quickest_24 ?_
    refine x_get C (Nat.le_of_ble_eq_true rfl) xd_1 fl_X7_68 (q := (0, 2, 0)) (v := .ref (xad E (2))) rfl rfl dX7_quickest_27 ?_
    refine x_get C (Nat.le_of_ble_eq_true rfl) xd_2 fl_X7_139 (q := (0, 6, 0)) (v := .ref (xad E (6))) rfl rfl dX7_quickest_30 ?_
    refine x_astore_n C (lv1 := [(2, .ref (xad E (6))), (1, .int (nI (logN (σ 0)))), (0, .ref (xad E (0)))]) dX7_quickest_33 rfl (by decide) rfl ?_
    refine x_aload_n C 0 dX7_quickest_34 rfl rfl ?_
    refine x_iconst C (v := 1) dX7_quickest_35 (by decide) ?_
    refine x_ald C (Nat.le_of_ble_eq_true rfl) xd_6 (v := σ 0 (44 + 2 * 1)) (vp_in_nI (show 1 < 40 by omega) (by decide)) (by rw [(show (1 : Int32).toNatClampNeg = 1 from by decide)]) dX7_quickest_36 ?_
    refine x_aload_n C 0 dX7_quickest_37 rfl rfl ?_
    refine x_iconst C (v := 0) dX7_quickest_38 (by decide) ?_
    refine x_ald C (Nat.le_of_ble_eq_true rfl) xd_6 (v := σ 0 (44 + 2 * 0)) (vp_in_nI (show 0 < 40 by omega) (by decide)) (by rw [(show (0 : Int32).toNatClampNeg = 0 from by decide)]) dX7_quickest_39 ?_
    refine x_isub C dX7_quickest_40 ?_
    refine x_istore_n C (lv1 := [(3, .int ((σ 0 (44 + 2 * 1)) - (σ 0 (44 + 2 * 0)))), (2, .ref (xad E (6))), (1, .int (nI (logN (σ 0)))), (0, .ref (xad E (0)))]) dX7_quickest_41 rfl (by decide) rfl ?_
    refine x_iconst C (v := 2) dX7_quickest_42 (by decide) ?_
    refine x_istore C (lv1 := [(4, .int (2)), (3, .int ((σ 0 (44 + 2 * 1)) - (σ 0 (44 + 2 * 0)))), (2, .ref (xad E (6))), (1, .int (nI (logN (σ 0)))), (0, .ref (xad E (0)))]) dX7_quickest_43 (by decide) rfl ?_
    have loop : ∀ (j k : Nat), j + k = logN (σ 0) - 2 → WM zp l ze { frames := 2, cells := 0, slots := 0, locals := 44 } zs zm za zb zh zc 0 0 (MQ zb (va_Qi (fun r (u : xV × (Nat → Int64)) => (cpost (sp_quickest (cv σ)) σ) r u.1) (fun u t => xP E u.1 u.2 t.heap) (xA E)) za zs 0 0 (xA E)) E (xA E) 5 (σ) (τ) 45 [(0, .ref (xad E (0))), (1, .int (nI (logN (σ 0)))), (2, .ref (xad E (6))), (3, .int (quickN (σ 0) k)), (4, .int (nI (k + 2)))] [] := by
      intro j
      induction j with
      | zero =>
        intro k hk
        refine x_iload C 4 dX7_quickest_45 rfl ?_
        refine x_iload_n C 1 dX7_quickest_47 rfl rfl ?_
        refine x_icmp_ge C (tgt := 73) dX7_quickest_48 (by decide) (fun h2 => ?_) (fun h2 => absurd h2 (nI_nlt (a := k + 2) (b := logN (σ 0)) (by omega) (by omega)))
        refine x_iload_n C 3 dX7_quickest_73 rfl rfl ?_
        exact x_oret C (cpost_of (V := cv σ) (Eq.trans (if_neg (by show ¬ loggedG (σ 0) < 2; rw [logged_eq h0]; exact h1)) (by rw [show k = logN (σ 0) - 2 by omega]; rfl)) rfl rfl rfl) dX7_quickest_74
      | succ j ih =>
        intro k hk
        refine x_iload C 4 dX7_quickest_45 rfl ?_
        refine x_iload_n C 1 dX7_quickest_47 rfl rfl ?_
        refine x_icmp_ge C (tgt := 73) dX7_quickest_48 (by decide) (fun h3 => absurd (nI_lt (a := k + 2) (b := logN (σ 0)) (by omega) (by omega)) h3) (fun h3 => ?_)
        refine x_iload_n C 3 dX7_quickest_51 rfl rfl ?_
        refine x_aload_n C 2 dX7_quickest_52 rfl rfl ?_
        refine x_iload C 4 dX7_quickest_53 rfl ?_
        refine x_ald C (Nat.le_of_ble_eq_true rfl) xd_6 (v := σ 0 (44 + 2 * (k + 2))) (vp_in_nI (show k + 2 < 40 by omega) (by decide)) (by rw [(nI_clamp (show k + 2 < 2 ^ 31 by omega))]) dX7_quickest_55 ?_
        refine x_aload_n C 2 dX7_quickest_56 rfl rfl ?_
        refine x_iload C 4 dX7_quickest_57 rfl ?_
        refine x_iconst C (v := 1) dX7_quickest_59 (by decide) ?_
        refine x_isub C dX7_quickest_60 ?_
        refine WM.topi (y := nI (k + 1)) (nI_pred (k + 1)) ?_
        refine x_ald C (Nat.le_of_ble_eq_true rfl) xd_6 (v := σ 0 (44 + 2 * (k + 1))) (vp_in_nI (show k + 1 < 40 by omega) (by decide)) (by rw [(nI_clamp (show k + 1 < 2 ^ 31 by omega))]) dX7_quickest_61 ?_
        refine x_isub C dX7_quickest_62 ?_
        refine x_mmin C km_X7_151 kM_min ⟨Nat.le_of_ble_eq_true rfl, Nat.le_of_ble_eq_true rfl⟩ dX7_quickest_63 ?_
        refine x_istore_n C (lv1 := [(3, .int (if ((σ 0 (44 + 2 * (k + 2))) - (σ 0 (44 + 2 * (k + 1)))) < (quickN (σ 0) k) then ((σ 0 (44 + 2 * (k + 2))) - (σ 0 (44 + 2 * (k + 1)))) else (quickN (σ 0) k))), (0, .ref (xad E (0))), (1, .int (nI (logN (σ 0)))), (2, .ref (xad E (6))), (4, .int (nI (k + 2)))]) dX7_quickest_66 rfl (by decide) rfl ?_
        refine x_iinc C (v := nI (k + 2 + 1)) (lv1 := [(4, .int (nI (k + 2 + 1))), (3, .int (if ((σ 0 (44 + 2 * (k + 2))) - (σ 0 (44 + 2 * (k + 1)))) < (quickN (σ 0) k) then ((σ 0 (44 + 2 * (k + 2))) - (σ 0 (44 + 2 * (k + 1)))) else (quickN (σ 0) k))), (0, .ref (xad E (0))), (1, .int (nI (logN (σ 0)))), (2, .ref (xad E (6)))]) 4 dX7_quickest_67 rfl (nI_add (k + 2) 1) (by decide) rfl ?_
        refine x_goto2 C (tgt := 45) dX7_quickest_70 (by decide) ?_
        refine WM.keep [2, 3, 4, 1, 0] (lv' := [(0, .ref (xad E (0))), (1, .int (nI (logN (σ 0)))), (2, .ref (xad E (6))), (3, .int (if ((σ 0 (44 + 2 * (k + 2))) - (σ 0 (44 + 2 * (k + 1)))) < (quickN (σ 0) k) then ((σ 0 (44 + 2 * (k + 2))) - (σ 0 (44 + 2 * (k + 1)))) else (quickN (σ 0) k))), (4, .int (nI (k + 2 + 1)))]) rfl ?_
        exact WM.to (ih (k + 1) (by omega)) rfl rfl rfl rfl
    refine WM.keep [4, 3, 2, 1, 0] rfl ?_
    exact WM.to (loop (logN (σ 0) - 2) 0 (by omega)) rfl rfl rfl rfl
  · refine x_aload_n C 1 dX7_quickest_16 rfl rfl ?_
    refine x_ldc C dX7_quickest_17 kc_X7_145 ?_
    refine x_callVi C (As := [.int ((-1000004))]) (rest := []) (c_finding l E σ τ 3 (by decide) (-1000004) (by decide)) kv_X7_64 (x_recv C (Nat.le_of_ble_eq_true rfl) xd_0 rfl) ⟨Nat.le_of_ble_eq_true rfl, Nat.le_of_ble_eq_true rfl⟩ rfl rfl (Nat.le_of_ble_eq_true rfl) dX7_quickest_19 ?_
    exact x_oret C (cpost_of (V := u2 (cv σ) 2 3 (σ 4 3 + 1)) (if_pos (by show loggedG (σ 0) < 2; rw [logged_eq h0]; exact h1)) (by rw [cv_u4]) (by rw [mv_u4]) rfl) dX7_quickest_22
set_option maxHeartbeats 4000000 in
set_option maxRecDepth 100000 in
theorem m_quickest (l : Launch) (E : xE) (σ : Nat → Nat → Int32) (τ : Nat → Int64) (T : Nat) (hT : T < 1073741824)  (hI : Inv (mv σ) T) (hlv : ∀ j, j < 12 → σ 15 j = (xzl 1).getD j 0) : xOi l yX8_quickest cX8_quickest 4 .int 1 21 E [.ref (xad E (81))] σ τ (mpost (sp_quickest (mv σ)) σ) := by
  refine xOi_of (own := RX8) (by decide +kernel) rfl (Nat.le_of_ble_eq_true rfl) ?_
  intro zp ze zs zm za zb zh zc C
  refine WM.to (lv1 := [(0, .ref (xad E (81)))]) (st1 := []) (σ1 := σ) (τ1 := τ) ?_ rfl rfl rfl rfl
  have hg : gI (σ 10) := hI.g
  have hgT : gT (σ 10) T := hI.t
  have h0 : 0 ≤ (σ 10 10).toInt := hI.h0
  have hlN := logN_le (σ 10)
  refine x_aload_n C 0 dX8_quickest_0 rfl rfl ?_
  refine x_callVi C (As := []) (rest := []) (c_mlogged l E σ τ ) kv_X8_119 (x_recv C (Nat.le_of_ble_eq_true rfl) xd_81 rfl) ⟨Nat.le_of_ble_eq_true rfl, Nat.le_of_ble_eq_true rfl⟩ rfl rfl (Nat.le_of_ble_eq_true rfl) dX8_quickest_1 ?_
  refine WM.topi (y := nI (logN (σ 10))) (logged_eq h0) ?_
  refine x_iconst C (v := 2) dX8_quickest_4 (by decide) ?_
  refine x_icmp_ge C (tgt := 15) dX8_quickest_5 (by decide) (fun h1 => ?_) (fun h1 => ?_)
  · have hl2 : 2 ≤ logN (σ 10) := (log2 (by omega)).mp h1
    refine x_aload_n C 0 dX8_quickest_15 rfl rfl ?_
    refine x_get C (Nat.le_of_ble_eq_true rfl) xd_81 fl_X8_9 (q := (0, 82, 0)) (v := .ref (xad E (82))) rfl rfl dX8_quickest_16 ?_
    refine x_bipush C (v := 46) dX8_quickest_19 (by decide) ?_
    refine x_ald C (Nat.le_of_ble_eq_true rfl) xd_82 (v := σ 10 46) (vp_in_nI (show 46 < 284 by omega) (by decide)) (by rw [(show (46 : Int32).toNatClampNeg = 46 from by decide), Nat.zero_add, Nat.one_mul]) dX8_quickest_21 ?_
    refine x_aload_n C 0 dX8_quickest_22 rfl rfl ?_
    refine x_get C (Nat.le_of_ble_eq_true rfl) xd_81 fl_X8_9 (q := (0, 82, 0)) (v := .ref (xad E (82))) rfl rfl dX8_quickest_23 ?_
    refine x_bipush C (v := 44) dX8_quickest_26 (by decide) ?_
    refine x_ald C (Nat.le_of_ble_eq_true rfl) xd_82 (v := σ 10 44) (vp_in_nI (show 44 < 284 by omega) (by decide)) (by rw [(show (44 : Int32).toNatClampNeg = 44 from by decide), Nat.zero_add, Nat.one_mul]) dX8_quickest_28 ?_
    refine x_isub C dX8_quickest_29 ?_
    refine x_istore_n C (lv1 := [(1, .int ((σ 10 46) - (σ 10 44))), (0, .ref (xad E (81)))]) dX8_quickest_30 rfl (by decide) rfl ?_
    refine x_iconst C (v := 2) dX8_quickest_31 (by decide) ?_
    refine x_istore_n C (lv1 := [(2, .int (2)), (1, .int ((σ 10 46) - (σ 10 44))), (0, .ref (xad E (81)))]) dX8_quickest_32 rfl (by decide) rfl ?_
    have loop : ∀ (j k : Nat), j + k = logN (σ 10) - 2 → WM zp l ze { frames := 1, cells := 0, slots := 0, locals := 21 } zs zm za zb zh zc 0 0 (MQ zb (va_Qi (fun r (u : xV × (Nat → Int64)) => (mpost (sp_quickest (mv σ)) σ) r u.1) (fun u t => xP E u.1 u.2 t.heap) (xA E)) za zs 0 0 (xA E)) E (xA E) 4 (σ) (τ) 33 [(0, .ref (xad E (81))), (1, .int (quickN (σ 10) k)), (2, .int (nI (k + 2)))] [] := by
      intro j
      induction j with
      | zero =>
        intro k hk
        refine x_iload_n C 2 dX8_quickest_33 rfl rfl ?_
        refine x_aload_n C 0 dX8_quickest_34 rfl rfl ?_
        refine x_callVi C (As := []) (rest := [.int (nI (k + 2))]) (c_mlogged l E σ τ ) kv_X8_119 (x_recv C (Nat.le_of_ble_eq_true rfl) xd_81 rfl) ⟨Nat.le_of_ble_eq_true rfl, Nat.le_of_ble_eq_true rfl⟩ rfl rfl (Nat.le_of_ble_eq_true rfl) dX8_quickest_35 ?_
        refine WM.topi (y := nI (logN (σ 10))) (logged_eq h0) ?_
        refine x_icmp_ge C (tgt := 84) dX8_quickest_38 (by decide) (fun h2 => ?_) (fun h2 => absurd h2 (nI_nlt (a := k + 2) (b := logN (σ 10)) (by omega) (by omega)))
        refine x_iload_n C 1 dX8_quickest_84 rfl rfl ?_
        exact x_oret C (mpost_of (V := mv σ) (Eq.trans (if_neg (by show ¬ loggedG (σ 10) < 2; rw [logged_eq h0]; exact h1)) (by rw [show k = logN (σ 10) - 2 by omega]; rfl)) rfl rfl rfl) dX8_quickest_85
      | succ j ih =>
        intro k hk
        refine x_iload_n C 2 dX8_quickest_33 rfl rfl ?_
        refine x_aload_n C 0 dX8_quickest_34 rfl rfl ?_
        refine x_callVi C (As := []) (rest := [.int (nI (k + 2))]) (c_mlogged l E σ τ ) kv_X8_119 (x_recv C (Nat.le_of_ble_eq_true rfl) xd_81 rfl) ⟨Nat.le_of_ble_eq_true rfl, Nat.le_of_ble_eq_true rfl⟩ rfl rfl (Nat.le_of_ble_eq_true rfl) dX8_quickest_35 ?_
        refine WM.topi (y := nI (logN (σ 10))) (logged_eq h0) ?_
        refine x_icmp_ge C (tgt := 84) dX8_quickest_38 (by decide) (fun h3 => absurd (nI_lt (a := k + 2) (b := logN (σ 10)) (by omega) (by omega)) h3) (fun h3 => ?_)
        refine x_aload_n C 0 dX8_quickest_41 rfl rfl ?_
        refine x_get C (Nat.le_of_ble_eq_true rfl) xd_81 fl_X8_9 (q := (0, 82, 0)) (v := .ref (xad E (82))) rfl rfl dX8_quickest_42 ?_
        refine x_bipush C (v := 44) dX8_quickest_45 (by decide) ?_
        refine x_iconst C (v := 2) dX8_quickest_47 (by decide) ?_
        refine x_iload_n C 2 dX8_quickest_48 rfl rfl ?_
        refine x_imul C dX8_quickest_49 ?_
        refine WM.topi (y := nI (2 * (k + 2))) (pk_mul 2 (k + 2)) ?_
        refine x_iadd C dX8_quickest_50 ?_
        refine WM.topi (y := nI (44 + (2 * (k + 2)))) (nI_add 44 (2 * (k + 2))) ?_
        refine x_ald C (Nat.le_of_ble_eq_true rfl) xd_82 (v := σ 10 (44 + (2 * (k + 2)))) (vp_in_nI (show 44 + (2 * (k + 2)) < 284 by omega) (by decide)) (by rw [(nI_clamp (show 44 + (2 * (k + 2)) < 2 ^ 31 by omega)), Nat.zero_add, Nat.one_mul]) dX8_quickest_51 ?_
        refine x_aload_n C 0 dX8_quickest_52 rfl rfl ?_
        refine x_get C (Nat.le_of_ble_eq_true rfl) xd_81 fl_X8_9 (q := (0, 82, 0)) (v := .ref (xad E (82))) rfl rfl dX8_quickest_53 ?_
        refine x_bipush C (v := 44) dX8_quickest_56 (by decide) ?_
        refine x_iconst C (v := 2) dX8_quickest_58 (by decide) ?_
        refine x_iload_n C 2 dX8_quickest_59 rfl rfl ?_
        refine x_imul C dX8_quickest_60 ?_
        refine WM.topi (y := nI (2 * (k + 2))) (pk_mul 2 (k + 2)) ?_
        refine x_iadd C dX8_quickest_61 ?_
        refine WM.topi (y := nI (44 + (2 * (k + 2)))) (nI_add 44 (2 * (k + 2))) ?_
        refine x_iconst C (v := 2) dX8_quickest_62 (by decide) ?_
        refine x_isub C dX8_quickest_63 ?_
        refine WM.topi (y := nI (44 + 2 * (k + 1))) (Eq.trans (pk_sub (b := 2) (by omega)) (congrArg nI (by omega))) ?_
        refine x_ald C (Nat.le_of_ble_eq_true rfl) xd_82 (v := σ 10 (44 + 2 * (k + 1))) (vp_in_nI (show 44 + 2 * (k + 1) < 284 by omega) (by decide)) (by rw [(nI_clamp (show 44 + 2 * (k + 1) < 2 ^ 31 by omega)), Nat.zero_add, Nat.one_mul]) dX8_quickest_64 ?_
        refine x_isub C dX8_quickest_65 ?_
        refine x_istore_n C (lv1 := [(3, .int ((σ 10 (44 + (2 * (k + 2)))) - (σ 10 (44 + 2 * (k + 1))))), (0, .ref (xad E (81))), (1, .int (quickN (σ 10) k)), (2, .int (nI (k + 2)))]) dX8_quickest_66 rfl (by decide) rfl ?_
        refine x_iload_n C 0 dX8_quickest_67 rfl rfl ?_
        refine x_iload_n C 2 dX8_quickest_68 rfl rfl ?_
        refine x_icmp_ge C (tgt := 76) dX8_quickest_69 (by decide) (fun h4 => ?_) (fun h4 => ?_)
        · refine x_iload_n C 2 dX8_quickest_76 rfl rfl ?_
          refine x_istore_n C (lv1 := [(1, .int (quickN (σ 10) k)), (3, .int ((σ 10 (44 + (2 * (k + 2)))) - (σ 10 (44 + 2 * (k + 1))))), (0, .ref (xad E (81))), (2, .int (nI (k + 2)))]) dX8_quickest_77 rfl (by decide) rfl ?_
          refine x_iinc C (v := nI (k + 2 + 1)) (lv1 := [(2, .int (nI (k + 2 + 1))), (1, .int (quickN (σ 10) k)), (3, .int ((σ 10 (44 + (2 * (k + 2)))) - (σ 10 (44 + 2 * (k + 1))))), (0, .ref (xad E (81)))]) 3 dX8_quickest_78 rfl (nI_add (k + 2) 1) (by decide) rfl ?_
          refine x_goto2 C (tgt := 33) dX8_quickest_81 (by decide) ?_
          refine WM.keep [3, 1, 0] (lv' := [(0, .ref (xad E (81))), (1, .int (quickN (σ 10) k)), (2, .int (nI (k + 2 + 1)))]) rfl ?_
          exact WM.to (ih (k + 1) (by omega)) rfl rfl (by rw [show quickN (σ 10) (k + 1) = quickN (σ 10) k from if_neg h4]) rfl
        · refine x_iload_n C 0 dX8_quickest_72 rfl rfl ?_
          refine x_goto2 C (tgt := 77) dX8_quickest_73 (by decide) ?_
          refine x_istore_n C (lv1 := [(1, .int ((σ 10 (44 + (2 * (k + 2)))) - (σ 10 (44 + 2 * (k + 1))))), (3, .int ((σ 10 (44 + (2 * (k + 2)))) - (σ 10 (44 + 2 * (k + 1))))), (0, .ref (xad E (81))), (2, .int (nI (k + 2)))]) dX8_quickest_77 rfl (by decide) rfl ?_
          refine x_iinc C (v := nI (k + 2 + 1)) (lv1 := [(2, .int (nI (k + 2 + 1))), (1, .int ((σ 10 (44 + (2 * (k + 2)))) - (σ 10 (44 + 2 * (k + 1))))), (3, .int ((σ 10 (44 + (2 * (k + 2)))) - (σ 10 (44 + 2 * (k + 1))))), (0, .ref (xad E (81)))]) 3 dX8_quickest_78 rfl (nI_add (k + 2) 1) (by decide) rfl ?_
          refine x_goto2 C (tgt := 33) dX8_quickest_81 (by decide) ?_
          refine WM.keep [3, 1, 0] (lv' := [(0, .ref (xad E (81))), (1, .int ((σ 10 (44 + (2 * (k + 2)))) - (σ 10 (44 + 2 * (k + 1))))), (2, .int (nI (k + 2 + 1)))]) rfl ?_
          exact WM.to (ih (k + 1) (by omega)) rfl rfl (by rw [show quickN (σ 10) (k + 1) = σ 10 (44 + 2 * (k + 2)) - σ 10 (44 + 2 * (k + 1)) from if_pos h4]) rfl
    refine WM.keep [2, 1, 0] rfl ?_
    exact WM.to (loop (logN (σ 10) - 2) 0 (by omega)) rfl rfl rfl rfl
  · refine x_aload_n C 0 dX8_quickest_8 rfl rfl ?_
    refine x_ldc C dX8_quickest_9 kc_X8_125 ?_
    refine x_callVi C (As := [.int ((-1000004))]) (rest := []) (c_finds l E σ τ 3 (by decide) (-1000004) (by decide)) kv_X8_61 (x_recv C (Nat.le_of_ble_eq_true rfl) xd_81 rfl) ⟨Nat.le_of_ble_eq_true rfl, Nat.le_of_ble_eq_true rfl⟩ rfl rfl (Nat.le_of_ble_eq_true rfl) dX8_quickest_11 ?_
    exact x_oret C (mpost_of (V := u2 (mv σ) 2 3 (σ 14 3 + 1)) (if_pos (by show loggedG (σ 10) < 2; rw [logged_eq h0]; exact h1)) (by rw [mv_u14]) (by rw [cv_u14]) rfl) dX8_quickest_14
set_option maxHeartbeats 4000000 in
set_option maxRecDepth 100000 in
theorem k_nextPeak (l : Launch) (E : xE) (σ : Nat → Nat → Int32) (τ : Nat → Int64) (T : Nat) (hT : T < 1073741824) (v : Int32) (hI : Inv (cv σ) T) : xOi l yX7_nextPeak cX7_nextPeak 6 .int 2 44 E [.ref (xad E (0)), .int (v)] σ τ (cpost (sp_nextPeak v (cv σ)) σ) := by
  refine xOi_of (own := RX7) (by decide +kernel) rfl (Nat.le_of_ble_eq_true rfl) ?_
  intro zp ze zs zm za zb zh zc C
  refine WM.to (lv1 := [(0, .ref (xad E (0))), (1, .int (v))]) (st1 := []) (σ1 := σ) (τ1 := τ) ?_ rfl rfl rfl rfl
  have hg : gI (σ 0) := hI.g
  have hgT : gT (σ 0) T := hI.t
  have h0 : 0 ≤ (σ 0 10).toInt := hI.h0
  have hlN := logN_le (σ 0)
  have hpk := hI.1.2.2.2.2.2
  refine x_iload_n C 1 dX7_nextPeak_0 rfl rfl ?_
  refine x_iconst C (v := 0) dX7_nextPeak_1 (by decide) ?_
  refine x_sipush C (v := 600) dX7_nextPeak_2 (by decide) ?_
  refine x_callSi C (As := [.int (v), .int (0), .int (600)]) (rest := []) (c_within l E σ τ v 0 600) ks_X7_59 ⟨Nat.le_of_ble_eq_true rfl, Nat.le_of_ble_eq_true rfl⟩ rfl rfl (Nat.le_of_ble_eq_true rfl) dX7_nextPeak_5 ?_
  refine x_ifneB C (tgt := 18) dX7_nextPeak_8 (by decide) (fun h1 => ?_) (fun h1 => ?_)
  · have hv := h1
    refine x_aload_n C 0 dX7_nextPeak_18 rfl rfl ?_
    refine x_get C (Nat.le_of_ble_eq_true rfl) xd_0 fl_X7_12 (q := (0, 1, 0)) (v := .ref (xad E (1))) rfl rfl dX7_nextPeak_19 ?_
    refine x_get C (Nat.le_of_ble_eq_true rfl) xd_1 fl_X7_68 (q := (0, 2, 0)) (v := .ref (xad E (2))) rfl rfl dX7_nextPeak_22 ?_
    refine WM.to (σ1 := va_up σ 0 (σ 0)) ?_ (xself _ _).symm rfl rfl rfl
    refine x_callVi C (As := []) (rest := []) (cW_logged l E σ τ 0 (by decide) (σ 0)) kv_X7_136 (x_recv C (Nat.le_of_ble_eq_true rfl) xd_2 rfl) ⟨Nat.le_of_ble_eq_true rfl, Nat.le_of_ble_eq_true rfl⟩ rfl rfl (Nat.le_of_ble_eq_true rfl) dX7_nextPeak_25 ?_
    refine WM.topi (y := nI (logN (σ 0))) (logged_eq h0) ?_
    refine WM.to (σ1 := σ) ?_ (xself _ _) rfl rfl rfl
    refine x_istore_n C (lv1 := [(2, .int (nI (logN (σ 0)))), (0, .ref (xad E (0))), (1, .int (v))]) dX7_nextPeak_28 rfl (by decide) rfl ?_
    refine x_iload_n C 0 dX7_nextPeak_29 rfl rfl ?_
    refine x_iconst C (v := 2) dX7_nextPeak_30 (by decide) ?_
    refine x_icmp_ge C (tgt := 41) dX7_nextPeak_31 (by decide) (fun h2 => ?_) (fun h2 => ?_)
    · have hl2 : 2 ≤ logN (σ 0) := (log2 (by omega)).mp h2
      refine x_aload_n C 1 dX7_nextPeak_41 rfl rfl ?_
      refine x_get C (Nat.le_of_ble_eq_true rfl) xd_0 fl_X7_12 (q := (0, 1, 0)) (v := .ref (xad E (1))) rfl rfl dX7_nextPeak_42 ?_
      refine x_get C (Nat.le_of_ble_eq_true rfl) xd_1 fl_X7_68 (q := (0, 2, 0)) (v := .ref (xad E (2))) rfl rfl dX7_nextPeak_45 ?_
      refine x_get C (Nat.le_of_ble_eq_true rfl) xd_2 fl_X7_142 (q := (0, 7, 0)) (v := .ref (xad E (7))) rfl rfl dX7_nextPeak_48 ?_
      refine x_astore_n C (lv1 := [(3, .ref (xad E (7))), (2, .int (nI (logN (σ 0)))), (0, .ref (xad E (0))), (1, .int (v))]) dX7_nextPeak_51 rfl (by decide) rfl ?_
      refine x_iconst C (v := 0) dX7_nextPeak_52 (by decide) ?_
      refine x_istore C (lv1 := [(4, .int (0)), (3, .ref (xad E (7))), (2, .int (nI (logN (σ 0)))), (0, .ref (xad E (0))), (1, .int (v))]) dX7_nextPeak_53 (by decide) rfl ?_
      refine x_iconst C (v := 1) dX7_nextPeak_55 (by decide) ?_
      refine x_istore C (lv1 := [(5, .int (1)), (4, .int (0)), (3, .ref (xad E (7))), (2, .int (nI (logN (σ 0)))), (0, .ref (xad E (0))), (1, .int (v))]) dX7_nextPeak_56 (by decide) rfl ?_
      have loop : ∀ (j k : Nat), j + k = logN (σ 0) - 2 → WM zp l ze { frames := 2, cells := 0, slots := 0, locals := 44 } zs zm za zb zh zc 0 0 (MQ zb (va_Qi (fun r (u : xV × (Nat → Int64)) => (cpost (sp_nextPeak v (cv σ)) σ) r u.1) (fun u t => xP E u.1 u.2 t.heap) (xA E)) za zs 0 0 (xA E)) E (xA E) 6 (σ) (τ) 58 [(0, .ref (xad E (0))), (1, .int (v)), (2, .int (nI (logN (σ 0)))), (3, .ref (xad E (7))), (4, .int (nI (bestN (σ 0) v k))), (5, .int (nI (k + 1)))] [] := by
        intro j
        induction j with
        | zero =>
          intro k hk
          refine x_iload C 5 dX7_nextPeak_58 rfl ?_
          refine x_iconst C (v := 1) dX7_nextPeak_60 (by decide) ?_
          refine x_iadd C dX7_nextPeak_61 ?_
          refine WM.topi (y := nI (k + 1 + 1)) (nI_add (k + 1) 1) ?_
          refine x_iload_n C 2 dX7_nextPeak_62 rfl rfl ?_
          refine x_icmp_ge C (tgt := 97) dX7_nextPeak_63 (by decide) (fun h3 => ?_) (fun h3 => absurd h3 (nI_nlt (a := k + 1 + 1) (b := logN (σ 0)) (by omega) (by omega)))
          refine x_aload_n C 3 dX7_nextPeak_97 rfl rfl ?_
          refine x_iload C 4 dX7_nextPeak_98 rfl ?_
          refine x_iconst C (v := 1) dX7_nextPeak_100 (by decide) ?_
          refine x_iadd C dX7_nextPeak_101 ?_
          refine WM.topi (y := nI (bestN (σ 0) v k + 1)) (nI_add (bestN (σ 0) v k) 1) ?_
          refine x_ald C (Nat.le_of_ble_eq_true rfl) xd_7 (v := σ 0 (45 + 2 * (bestN (σ 0) v k + 1))) (vp_in_nI (show bestN (σ 0) v k + 1 < 40 by (have := bestN_le (σ 0) v k; omega)) (by decide)) (by rw [(nI_clamp (show bestN (σ 0) v k + 1 < 2 ^ 31 by (have := bestN_le (σ 0) v k; omega)))]) dX7_nextPeak_102 ?_
          exact x_oret C (cpost_of (V := cv σ) (Eq.trans (if_pos (by assumption)) (Eq.trans (if_neg (by show ¬ loggedG (σ 0) < 2; rw [logged_eq h0]; exact h2)) (by rw [show k = logN (σ 0) - 2 by omega]; rfl))) rfl rfl rfl) dX7_nextPeak_103
        | succ j ih =>
          intro k hk
          refine x_iload C 5 dX7_nextPeak_58 rfl ?_
          refine x_iconst C (v := 1) dX7_nextPeak_60 (by decide) ?_
          refine x_iadd C dX7_nextPeak_61 ?_
          refine WM.topi (y := nI (k + 1 + 1)) (nI_add (k + 1) 1) ?_
          refine x_iload_n C 2 dX7_nextPeak_62 rfl rfl ?_
          refine x_icmp_ge C (tgt := 97) dX7_nextPeak_63 (by decide) (fun h4 => absurd (nI_lt (a := k + 1 + 1) (b := logN (σ 0)) (by omega) (by omega)) h4) (fun h4 => ?_)
          refine x_aload_n C 3 dX7_nextPeak_66 rfl rfl ?_
          refine x_iload C 5 dX7_nextPeak_67 rfl ?_
          refine x_ald C (Nat.le_of_ble_eq_true rfl) xd_7 (v := σ 0 (45 + 2 * (k + 1))) (vp_in_nI (show k + 1 < 40 by omega) (by decide)) (by rw [(nI_clamp (show k + 1 < 2 ^ 31 by omega))]) dX7_nextPeak_69 ?_
          refine x_iload_n C 1 dX7_nextPeak_70 rfl rfl ?_
          refine x_isub C dX7_nextPeak_71 ?_
          refine x_mabs C km_X7_146 kM_abs ⟨Nat.le_of_ble_eq_true rfl, Nat.le_of_ble_eq_true rfl⟩ dX7_nextPeak_72 ?_
          refine WM.topi (y := offG (σ 0) v (k + 1)) (off_eq (hpk (k + 1) (by omega)) hv) ?_
          refine x_aload_n C 3 dX7_nextPeak_75 rfl rfl ?_
          refine x_iload C 4 dX7_nextPeak_76 rfl ?_
          refine x_ald C (Nat.le_of_ble_eq_true rfl) xd_7 (v := σ 0 (45 + 2 * (bestN (σ 0) v k))) (vp_in_nI (show bestN (σ 0) v k < 40 by (have := bestN_le (σ 0) v k; omega)) (by decide)) (by rw [(nI_clamp (show bestN (σ 0) v k < 2 ^ 31 by (have := bestN_le (σ 0) v k; omega)))]) dX7_nextPeak_78 ?_
          refine x_iload_n C 1 dX7_nextPeak_79 rfl rfl ?_
          refine x_isub C dX7_nextPeak_80 ?_
          refine x_mabs C km_X7_146 kM_abs ⟨Nat.le_of_ble_eq_true rfl, Nat.le_of_ble_eq_true rfl⟩ dX7_nextPeak_81 ?_
          refine WM.topi (y := offG (σ 0) v (bestN (σ 0) v k)) (off_eq (hpk _ (by have := bestN_le (σ 0) v k; omega)) hv) ?_
          refine x_icmp_ge C (tgt := 91) dX7_nextPeak_84 (by decide) (fun h5 => ?_) (fun h5 => ?_)
          · refine x_iinc C (v := nI (k + 1 + 1)) (lv1 := [(5, .int (nI (k + 1 + 1))), (0, .ref (xad E (0))), (1, .int (v)), (2, .int (nI (logN (σ 0)))), (3, .ref (xad E (7))), (4, .int (nI (bestN (σ 0) v k)))]) 5 dX7_nextPeak_91 rfl (nI_add (k + 1) 1) (by decide) rfl ?_
            refine x_goto2 C (tgt := 58) dX7_nextPeak_94 (by decide) ?_
            refine WM.keep [1, 2, 3, 4, 5, 0] (lv' := [(0, .ref (xad E (0))), (1, .int (v)), (2, .int (nI (logN (σ 0)))), (3, .ref (xad E (7))), (4, .int (nI (bestN (σ 0) v k))), (5, .int (nI (k + 1 + 1)))]) rfl ?_
            exact WM.to (ih (k + 1) (by omega)) rfl rfl (by rw [show bestN (σ 0) v (k + 1) = bestN (σ 0) v k from if_neg h5]) rfl
          · refine x_iload C 5 dX7_nextPeak_87 rfl ?_
            refine x_istore C (lv1 := [(4, .int (nI (k + 1))), (0, .ref (xad E (0))), (1, .int (v)), (2, .int (nI (logN (σ 0)))), (3, .ref (xad E (7))), (5, .int (nI (k + 1)))]) dX7_nextPeak_89 (by decide) rfl ?_
            refine x_iinc C (v := nI (k + 1 + 1)) (lv1 := [(5, .int (nI (k + 1 + 1))), (4, .int (nI (k + 1))), (0, .ref (xad E (0))), (1, .int (v)), (2, .int (nI (logN (σ 0)))), (3, .ref (xad E (7)))]) 5 dX7_nextPeak_91 rfl (nI_add (k + 1) 1) (by decide) rfl ?_
            refine x_goto2 C (tgt := 58) dX7_nextPeak_94 (by decide) ?_
            refine WM.keep [2, 3, 4, 5, 1, 0] (lv' := [(0, .ref (xad E (0))), (1, .int (v)), (2, .int (nI (logN (σ 0)))), (3, .ref (xad E (7))), (4, .int (nI (k + 1))), (5, .int (nI (k + 1 + 1)))]) rfl ?_
            exact WM.to (ih (k + 1) (by omega)) rfl rfl (by rw [show bestN (σ 0) v (k + 1) = k + 1 from if_pos h5]) rfl
      refine WM.keep [4, 5, 3, 2, 1, 0] rfl ?_
      exact WM.to (loop (logN (σ 0) - 2) 0 (by omega)) rfl rfl rfl rfl
    · refine x_aload_n C 1 dX7_nextPeak_34 rfl rfl ?_
      refine x_ldc C dX7_nextPeak_35 kc_X7_145 ?_
      refine x_callVi C (As := [.int ((-1000004))]) (rest := []) (c_finding l E σ τ 3 (by decide) (-1000004) (by decide)) kv_X7_64 (x_recv C (Nat.le_of_ble_eq_true rfl) xd_0 rfl) ⟨Nat.le_of_ble_eq_true rfl, Nat.le_of_ble_eq_true rfl⟩ rfl rfl (Nat.le_of_ble_eq_true rfl) dX7_nextPeak_37 ?_
      exact x_oret C (cpost_of (V := u2 (cv σ) 2 3 (σ 4 3 + 1)) (Eq.trans (if_pos (by assumption)) (if_pos (by show loggedG (σ 0) < 2; rw [logged_eq h0]; exact h2))) (by rw [cv_u4]) (by rw [mv_u4]) rfl) dX7_nextPeak_40
  · refine x_aload_n C 0 dX7_nextPeak_11 rfl rfl ?_
    refine x_ldc C dX7_nextPeak_12 kc_X7_63 ?_
    refine x_callVi C (As := [.int ((-1000001))]) (rest := []) (c_finding l E σ τ 0 (by decide) (-1000001) (by decide)) kv_X7_64 (x_recv C (Nat.le_of_ble_eq_true rfl) xd_0 rfl) ⟨Nat.le_of_ble_eq_true rfl, Nat.le_of_ble_eq_true rfl⟩ rfl rfl (Nat.le_of_ble_eq_true rfl) dX7_nextPeak_14 ?_
    exact x_oret C (cpost_of (V := u2 (cv σ) 2 0 (σ 4 0 + 1)) (if_neg (by first | assumption | ((try simp only [rng, mayQ, tI_lt, tI_eq, cvr_0, mvr_0, cvr_c, mvr_c, tl_0, tl_1, tl_2, tl_3, tl_4, tl_5, tl_6, tl_7, tl_8, tl_9, tl_10, tl_11, tl_12, tl_13, tl_99, tl_600] at h1 ⊢) <;> omega))) (by rw [cv_u4]) (by rw [mv_u4]) rfl) dX7_nextPeak_17
set_option maxHeartbeats 4000000 in
set_option maxRecDepth 100000 in
theorem m_nextPeak (l : Launch) (E : xE) (σ : Nat → Nat → Int32) (τ : Nat → Int64) (T : Nat) (hT : T < 1073741824) (v : Int32) (hI : Inv (mv σ) T) (hlv : ∀ j, j < 12 → σ 15 j = (xzl 1).getD j 0) : xOi l yX8_nextPeak cX8_nextPeak 6 .int 1 25 E [.ref (xad E (81)), .int (v)] σ τ (mpost (sp_nextPeak v (mv σ)) σ) := by
  refine xOi_of (own := RX8) (by decide +kernel) rfl (Nat.le_of_ble_eq_true rfl) ?_
  intro zp ze zs zm za zb zh zc C
  refine WM.to (lv1 := [(0, .ref (xad E (81))), (1, .int (v))]) (st1 := []) (σ1 := σ) (τ1 := τ) ?_ rfl rfl rfl rfl
  have hg : gI (σ 10) := hI.g
  have hgT : gT (σ 10) T := hI.t
  have h0 : 0 ≤ (σ 10 10).toInt := hI.h0
  have hlN := logN_le (σ 10)
  have hpk := hI.1.2.2.2.2.2
  refine x_iload_n C 1 dX8_nextPeak_0 rfl rfl ?_
  refine x_i2l C dX8_nextPeak_1 ?_
  refine x_lconst C (v := 0) dX8_nextPeak_2 (by decide) ?_
  refine x_ldc2 C dX8_nextPeak_3 kc_X8_123 ?_
  refine x_callSi C (As := [.long (Int32.toInt64 v), .long (0), .long (600)]) (rest := []) (c_in l E σ τ (Int32.toInt64 v) 0 600) ks_X8_49 ⟨Nat.le_of_ble_eq_true rfl, Nat.le_of_ble_eq_true rfl⟩ rfl rfl (Nat.le_of_ble_eq_true rfl) dX8_nextPeak_6 ?_
  refine WM.topi (y := if rng v 0 600 then 1 else 0) (in_eq v 0 600 (by decide) (by decide)) ?_
  refine x_ifneB C (tgt := 19) dX8_nextPeak_9 (by decide) (fun h1 => ?_) (fun h1 => ?_)
  · have hv := h1
    refine x_aload_n C 0 dX8_nextPeak_19 rfl rfl ?_
    refine x_callVi C (As := []) (rest := []) (c_mlogged l E σ τ ) kv_X8_119 (x_recv C (Nat.le_of_ble_eq_true rfl) xd_81 rfl) ⟨Nat.le_of_ble_eq_true rfl, Nat.le_of_ble_eq_true rfl⟩ rfl rfl (Nat.le_of_ble_eq_true rfl) dX8_nextPeak_20 ?_
    refine WM.topi (y := nI (logN (σ 10))) (logged_eq h0) ?_
    refine x_iconst C (v := 2) dX8_nextPeak_23 (by decide) ?_
    refine x_icmp_ge C (tgt := 34) dX8_nextPeak_24 (by decide) (fun h2 => ?_) (fun h2 => ?_)
    · have hl2 : 2 ≤ logN (σ 10) := (log2 (by omega)).mp h2
      refine x_iconst C (v := 0) dX8_nextPeak_34 (by decide) ?_
      refine x_istore_n C (lv1 := [(2, .int (0)), (0, .ref (xad E (81))), (1, .int (v))]) dX8_nextPeak_35 rfl (by decide) rfl ?_
      refine x_sipush C (v := 9999) dX8_nextPeak_36 (by decide) ?_
      refine x_istore_n C (lv1 := [(3, .int (9999)), (2, .int (0)), (0, .ref (xad E (81))), (1, .int (v))]) dX8_nextPeak_39 rfl (by decide) rfl ?_
      refine x_iconst C (v := 0) dX8_nextPeak_40 (by decide) ?_
      refine x_istore C (lv1 := [(4, .int (0)), (3, .int (9999)), (2, .int (0)), (0, .ref (xad E (81))), (1, .int (v))]) dX8_nextPeak_41 (by decide) rfl ?_
      have loop : ∀ (j k : Nat), j + k = logN (σ 10) - 1 → WM zp l ze { frames := 1, cells := 0, slots := 0, locals := 25 } zs zm za zb zh zc 0 0 (MQ zb (va_Qi (fun r (u : xV × (Nat → Int64)) => (mpost (sp_nextPeak v (mv σ)) σ) r u.1) (fun u t => xP E u.1 u.2 t.heap) (xA E)) za zs 0 0 (xA E)) E (xA E) 6 (σ) (τ) 43 [(0, .ref (xad E (81))), (1, .int (v)), (2, .int (nI (bestN (σ 10) v (k - 1)))), (3, .int (lessM (σ 10) v k)), (4, .int (nI k))] [] := by
        intro j
        induction j with
        | zero =>
          intro k hk
          refine x_iload C 4 dX8_nextPeak_43 rfl ?_
          refine x_aload_n C 0 dX8_nextPeak_45 rfl rfl ?_
          refine x_callVi C (As := []) (rest := [.int (nI k)]) (c_mlogged l E σ τ ) kv_X8_119 (x_recv C (Nat.le_of_ble_eq_true rfl) xd_81 rfl) ⟨Nat.le_of_ble_eq_true rfl, Nat.le_of_ble_eq_true rfl⟩ rfl rfl (Nat.le_of_ble_eq_true rfl) dX8_nextPeak_46 ?_
          refine WM.topi (y := nI (logN (σ 10))) (logged_eq h0) ?_
          refine x_iconst C (v := 1) dX8_nextPeak_49 (by decide) ?_
          refine x_isub C dX8_nextPeak_50 ?_
          refine WM.topi (y := nI (logN (σ 10) - 1)) (pk_sub (b := 1) (by omega)) ?_
          refine x_icmp_ge C (tgt := 117) dX8_nextPeak_51 (by decide) (fun h3 => ?_) (fun h3 => absurd h3 (nI_nlt (a := k) (b := logN (σ 10) - 1) (by omega) (by omega)))
          refine x_aload_n C 0 dX8_nextPeak_117 rfl rfl ?_
          refine x_iload_n C 2 dX8_nextPeak_118 rfl rfl ?_
          refine x_iconst C (v := 1) dX8_nextPeak_119 (by decide) ?_
          refine x_iadd C dX8_nextPeak_120 ?_
          refine WM.topi (y := nI (bestN (σ 10) v (k - 1) + 1)) (nI_add (bestN (σ 10) v (k - 1)) 1) ?_
          refine x_callVi C (As := [.int (nI (bestN (σ 10) v (k - 1) + 1))]) (rest := []) (c_mpeak l E σ τ (bestN (σ 10) v (k - 1) + 1) (by have := bestN_le (σ 10) v (k - 1); omega)) kv_X8_126 (x_recv C (Nat.le_of_ble_eq_true rfl) xd_81 rfl) ⟨Nat.le_of_ble_eq_true rfl, Nat.le_of_ble_eq_true rfl⟩ rfl rfl (Nat.le_of_ble_eq_true rfl) dX8_nextPeak_121 ?_
          exact x_oret C (mpost_of (V := mv σ) (Eq.trans (if_pos (by assumption)) (Eq.trans (if_neg (by show ¬ loggedG (σ 10) < 2; rw [logged_eq h0]; exact h2)) (by rw [show k = logN (σ 10) - 1 by omega]; rfl))) rfl rfl rfl) dX8_nextPeak_124
        | succ j ih =>
          intro k hk
          refine x_iload C 4 dX8_nextPeak_43 rfl ?_
          refine x_aload_n C 0 dX8_nextPeak_45 rfl rfl ?_
          refine x_callVi C (As := []) (rest := [.int (nI k)]) (c_mlogged l E σ τ ) kv_X8_119 (x_recv C (Nat.le_of_ble_eq_true rfl) xd_81 rfl) ⟨Nat.le_of_ble_eq_true rfl, Nat.le_of_ble_eq_true rfl⟩ rfl rfl (Nat.le_of_ble_eq_true rfl) dX8_nextPeak_46 ?_
          refine WM.topi (y := nI (logN (σ 10))) (logged_eq h0) ?_
          refine x_iconst C (v := 1) dX8_nextPeak_49 (by decide) ?_
          refine x_isub C dX8_nextPeak_50 ?_
          refine WM.topi (y := nI (logN (σ 10) - 1)) (pk_sub (b := 1) (by omega)) ?_
          refine x_icmp_ge C (tgt := 117) dX8_nextPeak_51 (by decide) (fun h4 => absurd (nI_lt (a := k) (b := logN (σ 10) - 1) (by omega) (by omega)) h4) (fun h4 => ?_)
          refine x_aload_n C 0 dX8_nextPeak_54 rfl rfl ?_
          refine x_iload C 4 dX8_nextPeak_55 rfl ?_
          refine x_callVi C (As := [.int (nI k)]) (rest := []) (c_mpeak l E σ τ k (by omega)) kv_X8_126 (x_recv C (Nat.le_of_ble_eq_true rfl) xd_81 rfl) ⟨Nat.le_of_ble_eq_true rfl, Nat.le_of_ble_eq_true rfl⟩ rfl rfl (Nat.le_of_ble_eq_true rfl) dX8_nextPeak_57 ?_
          refine x_iload_n C 1 dX8_nextPeak_60 rfl rfl ?_
          refine x_icmp_le C (tgt := 75) dX8_nextPeak_61 (by decide) (fun h5 => ?_) (fun h5 => ?_)
          · refine x_iload_n C 1 dX8_nextPeak_75 rfl rfl ?_
            refine x_aload_n C 0 dX8_nextPeak_76 rfl rfl ?_
            refine x_iload C 4 dX8_nextPeak_77 rfl ?_
            refine x_callVi C (As := [.int (nI k)]) (rest := [.int (v)]) (c_mpeak l E σ τ k (by omega)) kv_X8_126 (x_recv C (Nat.le_of_ble_eq_true rfl) xd_81 rfl) ⟨Nat.le_of_ble_eq_true rfl, Nat.le_of_ble_eq_true rfl⟩ rfl rfl (Nat.le_of_ble_eq_true rfl) dX8_nextPeak_79 ?_
            refine x_isub C dX8_nextPeak_82 ?_
            refine WM.topi (y := offG (σ 10) v k) (by unfold offG; rw [if_neg h5]) ?_
            refine x_istore C (lv1 := [(5, .int (offG (σ 10) v k)), (0, .ref (xad E (81))), (1, .int (v)), (2, .int (nI (bestN (σ 10) v (k - 1)))), (3, .int (lessM (σ 10) v k)), (4, .int (nI k))]) dX8_nextPeak_83 (by decide) rfl ?_
            refine x_iload C 0 dX8_nextPeak_85 rfl ?_
            refine x_iload_n C 4 dX8_nextPeak_87 rfl rfl ?_
            refine x_icmp_ge C (tgt := 96) dX8_nextPeak_88 (by decide) (fun h6 => ?_) (fun h6 => ?_)
            · refine x_iload_n C 3 dX8_nextPeak_96 rfl rfl ?_
              refine x_istore_n C (lv1 := [(2, .int (nI (bestN (σ 10) v (k - 1)))), (5, .int (offG (σ 10) v k)), (0, .ref (xad E (81))), (1, .int (v)), (3, .int (lessM (σ 10) v k)), (4, .int (nI k))]) dX8_nextPeak_97 rfl (by decide) rfl ?_
              refine x_iload C 1 dX8_nextPeak_98 rfl ?_
              refine x_iload_n C 4 dX8_nextPeak_100 rfl rfl ?_
              refine x_icmp_ge C (tgt := 109) dX8_nextPeak_101 (by decide) (fun h7 => ?_) (fun h7 => ?_)
              · refine x_iload_n C 4 dX8_nextPeak_109 rfl rfl ?_
                refine x_istore_n C (lv1 := [(3, .int (lessM (σ 10) v k)), (2, .int (nI (bestN (σ 10) v (k - 1)))), (5, .int (offG (σ 10) v k)), (0, .ref (xad E (81))), (1, .int (v)), (4, .int (nI k))]) dX8_nextPeak_110 rfl (by decide) rfl ?_
                refine x_iinc C (v := nI (k + 1)) (lv1 := [(4, .int (nI (k + 1))), (3, .int (lessM (σ 10) v k)), (2, .int (nI (bestN (σ 10) v (k - 1)))), (5, .int (offG (σ 10) v k)), (0, .ref (xad E (81))), (1, .int (v))]) 5 dX8_nextPeak_111 rfl (nI_add k 1) (by decide) rfl ?_
                refine x_goto2 C (tgt := 43) dX8_nextPeak_114 (by decide) ?_
                refine WM.keep [4, 5, 2, 1, 0] (lv' := [(0, .ref (xad E (81))), (1, .int (v)), (2, .int (nI (bestN (σ 10) v (k - 1)))), (3, .int (lessM (σ 10) v k)), (4, .int (nI (k + 1)))]) rfl ?_
                exact WM.to (ih (k + 1) (by omega)) rfl rfl (by rw [show k + 1 - 1 = k from rfl, best_no (σ := σ) hpk hv (by omega) h6, less_no (σ := σ) hpk hv (by omega) h6]) rfl
              · refine x_iload C 1 dX8_nextPeak_104 rfl ?_
                refine x_goto2 C (tgt := 110) dX8_nextPeak_106 (by decide) ?_
                refine x_istore_n C (lv1 := [(3, .int (offG (σ 10) v k)), (2, .int (nI (bestN (σ 10) v (k - 1)))), (5, .int (offG (σ 10) v k)), (0, .ref (xad E (81))), (1, .int (v)), (4, .int (nI k))]) dX8_nextPeak_110 rfl (by decide) rfl ?_
                refine x_iinc C (v := nI (k + 1)) (lv1 := [(4, .int (nI (k + 1))), (3, .int (offG (σ 10) v k)), (2, .int (nI (bestN (σ 10) v (k - 1)))), (5, .int (offG (σ 10) v k)), (0, .ref (xad E (81))), (1, .int (v))]) 5 dX8_nextPeak_111 rfl (nI_add k 1) (by decide) rfl ?_
                refine x_goto2 C (tgt := 43) dX8_nextPeak_114 (by decide) ?_
                refine WM.keep [4, 5, 2, 1, 0] (lv' := [(0, .ref (xad E (81))), (1, .int (v)), (2, .int (nI (bestN (σ 10) v (k - 1)))), (3, .int (offG (σ 10) v k)), (4, .int (nI (k + 1)))]) rfl ?_
                exact WM.to (ih (k + 1) (by omega)) rfl rfl (absurd h7 h6) rfl
            · refine x_iload C 5 dX8_nextPeak_91 rfl ?_
              refine x_goto2 C (tgt := 97) dX8_nextPeak_93 (by decide) ?_
              refine x_istore_n C (lv1 := [(2, .int (nI k)), (5, .int (offG (σ 10) v k)), (0, .ref (xad E (81))), (1, .int (v)), (3, .int (lessM (σ 10) v k)), (4, .int (nI k))]) dX8_nextPeak_97 rfl (by decide) rfl ?_
              refine x_iload C 1 dX8_nextPeak_98 rfl ?_
              refine x_iload_n C 4 dX8_nextPeak_100 rfl rfl ?_
              refine x_icmp_ge C (tgt := 109) dX8_nextPeak_101 (by decide) (fun h8 => ?_) (fun h8 => ?_)
              · refine x_iload_n C 4 dX8_nextPeak_109 rfl rfl ?_
                refine x_istore_n C (lv1 := [(3, .int (lessM (σ 10) v k)), (2, .int (nI k)), (5, .int (offG (σ 10) v k)), (0, .ref (xad E (81))), (1, .int (v)), (4, .int (nI k))]) dX8_nextPeak_110 rfl (by decide) rfl ?_
                refine x_iinc C (v := nI (k + 1)) (lv1 := [(4, .int (nI (k + 1))), (3, .int (lessM (σ 10) v k)), (2, .int (nI k)), (5, .int (offG (σ 10) v k)), (0, .ref (xad E (81))), (1, .int (v))]) 5 dX8_nextPeak_111 rfl (nI_add k 1) (by decide) rfl ?_
                refine x_goto2 C (tgt := 43) dX8_nextPeak_114 (by decide) ?_
                refine WM.keep [4, 5, 2, 1, 0] (lv' := [(0, .ref (xad E (81))), (1, .int (v)), (2, .int (nI k)), (3, .int (lessM (σ 10) v k)), (4, .int (nI (k + 1)))]) rfl ?_
                exact WM.to (ih (k + 1) (by omega)) rfl rfl (absurd h6 h8) rfl
              · refine x_iload C 1 dX8_nextPeak_104 rfl ?_
                refine x_goto2 C (tgt := 110) dX8_nextPeak_106 (by decide) ?_
                refine x_istore_n C (lv1 := [(3, .int (offG (σ 10) v k)), (2, .int (nI k)), (5, .int (offG (σ 10) v k)), (0, .ref (xad E (81))), (1, .int (v)), (4, .int (nI k))]) dX8_nextPeak_110 rfl (by decide) rfl ?_
                refine x_iinc C (v := nI (k + 1)) (lv1 := [(4, .int (nI (k + 1))), (3, .int (offG (σ 10) v k)), (2, .int (nI k)), (5, .int (offG (σ 10) v k)), (0, .ref (xad E (81))), (1, .int (v))]) 5 dX8_nextPeak_111 rfl (nI_add k 1) (by decide) rfl ?_
                refine x_goto2 C (tgt := 43) dX8_nextPeak_114 (by decide) ?_
                refine WM.keep [4, 5, 2, 1, 0] (lv' := [(0, .ref (xad E (81))), (1, .int (v)), (2, .int (nI k)), (3, .int (offG (σ 10) v k)), (4, .int (nI (k + 1)))]) rfl ?_
                exact WM.to (ih (k + 1) (by omega)) rfl rfl (by rw [show k + 1 - 1 = k from rfl, best_yes (σ := σ) hpk hv (by omega) h6, less_yes (σ := σ) hpk hv (by omega) h6]) rfl
          · refine x_aload_n C 0 dX8_nextPeak_64 rfl rfl ?_
            refine x_iload C 4 dX8_nextPeak_65 rfl ?_
            refine x_callVi C (As := [.int (nI k)]) (rest := []) (c_mpeak l E σ τ k (by omega)) kv_X8_126 (x_recv C (Nat.le_of_ble_eq_true rfl) xd_81 rfl) ⟨Nat.le_of_ble_eq_true rfl, Nat.le_of_ble_eq_true rfl⟩ rfl rfl (Nat.le_of_ble_eq_true rfl) dX8_nextPeak_67 ?_
            refine x_iload_n C 1 dX8_nextPeak_70 rfl rfl ?_
            refine x_isub C dX8_nextPeak_71 ?_
            refine x_goto2 C (tgt := 83) dX8_nextPeak_72 (by decide) ?_
            refine WM.topi (y := offG (σ 10) v k) (by unfold offG; rw [if_pos h5]) ?_
            refine x_istore C (lv1 := [(5, .int (offG (σ 10) v k)), (0, .ref (xad E (81))), (1, .int (v)), (2, .int (nI (bestN (σ 10) v (k - 1)))), (3, .int (lessM (σ 10) v k)), (4, .int (nI k))]) dX8_nextPeak_83 (by decide) rfl ?_
            refine x_iload C 0 dX8_nextPeak_85 rfl ?_
            refine x_iload_n C 4 dX8_nextPeak_87 rfl rfl ?_
            refine x_icmp_ge C (tgt := 96) dX8_nextPeak_88 (by decide) (fun h9 => ?_) (fun h9 => ?_)
            · refine x_iload_n C 3 dX8_nextPeak_96 rfl rfl ?_
              refine x_istore_n C (lv1 := [(2, .int (nI (bestN (σ 10) v (k - 1)))), (5, .int (offG (σ 10) v k)), (0, .ref (xad E (81))), (1, .int (v)), (3, .int (lessM (σ 10) v k)), (4, .int (nI k))]) dX8_nextPeak_97 rfl (by decide) rfl ?_
              refine x_iload C 1 dX8_nextPeak_98 rfl ?_
              refine x_iload_n C 4 dX8_nextPeak_100 rfl rfl ?_
              refine x_icmp_ge C (tgt := 109) dX8_nextPeak_101 (by decide) (fun h10 => ?_) (fun h10 => ?_)
              · refine x_iload_n C 4 dX8_nextPeak_109 rfl rfl ?_
                refine x_istore_n C (lv1 := [(3, .int (lessM (σ 10) v k)), (2, .int (nI (bestN (σ 10) v (k - 1)))), (5, .int (offG (σ 10) v k)), (0, .ref (xad E (81))), (1, .int (v)), (4, .int (nI k))]) dX8_nextPeak_110 rfl (by decide) rfl ?_
                refine x_iinc C (v := nI (k + 1)) (lv1 := [(4, .int (nI (k + 1))), (3, .int (lessM (σ 10) v k)), (2, .int (nI (bestN (σ 10) v (k - 1)))), (5, .int (offG (σ 10) v k)), (0, .ref (xad E (81))), (1, .int (v))]) 5 dX8_nextPeak_111 rfl (nI_add k 1) (by decide) rfl ?_
                refine x_goto2 C (tgt := 43) dX8_nextPeak_114 (by decide) ?_
                refine WM.keep [4, 5, 2, 1, 0] (lv' := [(0, .ref (xad E (81))), (1, .int (v)), (2, .int (nI (bestN (σ 10) v (k - 1)))), (3, .int (lessM (σ 10) v k)), (4, .int (nI (k + 1)))]) rfl ?_
                exact WM.to (ih (k + 1) (by omega)) rfl rfl (by rw [show k + 1 - 1 = k from rfl, best_no (σ := σ) hpk hv (by omega) h9, less_no (σ := σ) hpk hv (by omega) h9]) rfl
              · refine x_iload C 1 dX8_nextPeak_104 rfl ?_
                refine x_goto2 C (tgt := 110) dX8_nextPeak_106 (by decide) ?_
                refine x_istore_n C (lv1 := [(3, .int (offG (σ 10) v k)), (2, .int (nI (bestN (σ 10) v (k - 1)))), (5, .int (offG (σ 10) v k)), (0, .ref (xad E (81))), (1, .int (v)), (4, .int (nI k))]) dX8_nextPeak_110 rfl (by decide) rfl ?_
                refine x_iinc C (v := nI (k + 1)) (lv1 := [(4, .int (nI (k + 1))), (3, .int (offG (σ 10) v k)), (2, .int (nI (bestN (σ 10) v (k - 1)))), (5, .int (offG (σ 10) v k)), (0, .ref (xad E (81))), (1, .int (v))]) 5 dX8_nextPeak_111 rfl (nI_add k 1) (by decide) rfl ?_
                refine x_goto2 C (tgt := 43) dX8_nextPeak_114 (by decide) ?_
                refine WM.keep [4, 5, 2, 1, 0] (lv' := [(0, .ref (xad E (81))), (1, .int (v)), (2, .int (nI (bestN (σ 10) v (k - 1)))), (3, .int (offG (σ 10) v k)), (4, .int (nI (k + 1)))]) rfl ?_
                exact WM.to (ih (k + 1) (by omega)) rfl rfl (absurd h10 h9) rfl
            · refine x_iload C 5 dX8_nextPeak_91 rfl ?_
              refine x_goto2 C (tgt := 97) dX8_nextPeak_93 (by decide) ?_
              refine x_istore_n C (lv1 := [(2, .int (nI k)), (5, .int (offG (σ 10) v k)), (0, .ref (xad E (81))), (1, .int (v)), (3, .int (lessM (σ 10) v k)), (4, .int (nI k))]) dX8_nextPeak_97 rfl (by decide) rfl ?_
              refine x_iload C 1 dX8_nextPeak_98 rfl ?_
              refine x_iload_n C 4 dX8_nextPeak_100 rfl rfl ?_
              refine x_icmp_ge C (tgt := 109) dX8_nextPeak_101 (by decide) (fun h11 => ?_) (fun h11 => ?_)
              · refine x_iload_n C 4 dX8_nextPeak_109 rfl rfl ?_
                refine x_istore_n C (lv1 := [(3, .int (lessM (σ 10) v k)), (2, .int (nI k)), (5, .int (offG (σ 10) v k)), (0, .ref (xad E (81))), (1, .int (v)), (4, .int (nI k))]) dX8_nextPeak_110 rfl (by decide) rfl ?_
                refine x_iinc C (v := nI (k + 1)) (lv1 := [(4, .int (nI (k + 1))), (3, .int (lessM (σ 10) v k)), (2, .int (nI k)), (5, .int (offG (σ 10) v k)), (0, .ref (xad E (81))), (1, .int (v))]) 5 dX8_nextPeak_111 rfl (nI_add k 1) (by decide) rfl ?_
                refine x_goto2 C (tgt := 43) dX8_nextPeak_114 (by decide) ?_
                refine WM.keep [4, 5, 2, 1, 0] (lv' := [(0, .ref (xad E (81))), (1, .int (v)), (2, .int (nI k)), (3, .int (lessM (σ 10) v k)), (4, .int (nI (k + 1)))]) rfl ?_
                exact WM.to (ih (k + 1) (by omega)) rfl rfl (absurd h9 h11) rfl
              · refine x_iload C 1 dX8_nextPeak_104 rfl ?_
                refine x_goto2 C (tgt := 110) dX8_nextPeak_106 (by decide) ?_
                refine x_istore_n C (lv1 := [(3, .int (offG (σ 10) v k)), (2, .int (nI k)), (5, .int (offG (σ 10) v k)), (0, .ref (xad E (81))), (1, .int (v)), (4, .int (nI k))]) dX8_nextPeak_110 rfl (by decide) rfl ?_
                refine x_iinc C (v := nI (k + 1)) (lv1 := [(4, .int (nI (k + 1))), (3, .int (offG (σ 10) v k)), (2, .int (nI k)), (5, .int (offG (σ 10) v k)), (0, .ref (xad E (81))), (1, .int (v))]) 5 dX8_nextPeak_111 rfl (nI_add k 1) (by decide) rfl ?_
                refine x_goto2 C (tgt := 43) dX8_nextPeak_114 (by decide) ?_
                refine WM.keep [4, 5, 2, 1, 0] (lv' := [(0, .ref (xad E (81))), (1, .int (v)), (2, .int (nI k)), (3, .int (offG (σ 10) v k)), (4, .int (nI (k + 1)))]) rfl ?_
                exact WM.to (ih (k + 1) (by omega)) rfl rfl (by rw [show k + 1 - 1 = k from rfl, best_yes (σ := σ) hpk hv (by omega) h9, less_yes (σ := σ) hpk hv (by omega) h9]) rfl
      refine WM.keep [3, 4, 2, 1, 0] rfl ?_
      exact WM.to (loop (logN (σ 10) - 1) 0 (by omega)) rfl rfl rfl rfl
    · refine x_aload_n C 0 dX8_nextPeak_27 rfl rfl ?_
      refine x_ldc C dX8_nextPeak_28 kc_X8_125 ?_
      refine x_callVi C (As := [.int ((-1000004))]) (rest := []) (c_finds l E σ τ 3 (by decide) (-1000004) (by decide)) kv_X8_61 (x_recv C (Nat.le_of_ble_eq_true rfl) xd_81 rfl) ⟨Nat.le_of_ble_eq_true rfl, Nat.le_of_ble_eq_true rfl⟩ rfl rfl (Nat.le_of_ble_eq_true rfl) dX8_nextPeak_30 ?_
      exact x_oret C (mpost_of (V := u2 (mv σ) 2 3 (σ 14 3 + 1)) (Eq.trans (if_pos (by assumption)) (if_pos (by show loggedG (σ 10) < 2; rw [logged_eq h0]; exact h2))) (by rw [mv_u14]) (by rw [cv_u14]) rfl) dX8_nextPeak_33
  · refine x_aload_n C 0 dX8_nextPeak_12 rfl rfl ?_
    refine x_ldc C dX8_nextPeak_13 kc_X8_46 ?_
    refine x_callVi C (As := [.int ((-1000001))]) (rest := []) (c_finds l E σ τ 0 (by decide) (-1000001) (by decide)) kv_X8_61 (x_recv C (Nat.le_of_ble_eq_true rfl) xd_81 rfl) ⟨Nat.le_of_ble_eq_true rfl, Nat.le_of_ble_eq_true rfl⟩ rfl rfl (Nat.le_of_ble_eq_true rfl) dX8_nextPeak_15 ?_
    exact x_oret C (mpost_of (V := u2 (mv σ) 2 0 (σ 14 0 + 1)) (if_neg (by first | assumption | ((try simp only [rng, mayQ, tI_lt, tI_eq, cvr_0, mvr_0, cvr_c, mvr_c, tl_0, tl_1, tl_2, tl_3, tl_4, tl_5, tl_6, tl_7, tl_8, tl_9, tl_10, tl_11, tl_12, tl_13, tl_99, tl_600, tl_9999] at h1 ⊢) <;> omega))) (by rw [mv_u14]) (by rw [cv_u14]) rfl) dX8_nextPeak_18
set_option maxHeartbeats 4000000 in
set_option maxRecDepth 100000 in
theorem k_as (l : Launch) (E : xE) (σ : Nat → Nat → Int32) (τ : Nat → Int64) (T : Nat) (hT : T < 1073741824) (spot kind : Int32) (hI : Inv (cv σ) T) : xOi l yX7_as cX7_as 4 .int 2 46 E [.ref (xad E (0)), .int (spot), .int (kind)] σ τ (cpost (sp_as spot kind (cv σ)) σ) := by
  refine xOi_of (own := RX7) (by decide +kernel) rfl (Nat.le_of_ble_eq_true rfl) ?_
  intro zp ze zs zm za zb zh zc C
  refine WM.to (lv1 := [(0, .ref (xad E (0))), (1, .int (spot)), (2, .int (kind))]) (st1 := []) (σ1 := σ) (τ1 := τ) ?_ rfl rfl rfl rfl
  have hg : gI (σ 0) := hI.g
  have hgT : gT (σ 0) T := hI.t
  have h0 : 0 ≤ (σ 0 10).toInt := hI.h0
  have hsp : ∀ j, j < 10 → -1 ≤ (σ 0 (124 + j)).toInt ∧ (σ 0 (124 + j)).toInt ≤ 11 := hI.1.2.2.2.1
  refine x_iload_n C 1 dX7_as_0 rfl rfl ?_
  refine x_callSi C (As := [.int (spot)]) (rest := []) (c_isSpot l E σ τ spot) ks_X7_250 ⟨Nat.le_of_ble_eq_true rfl, Nat.le_of_ble_eq_true rfl⟩ rfl rfl (Nat.le_of_ble_eq_true rfl) dX7_as_1 ?_
  refine x_ifeqB C (tgt := 14) dX7_as_4 (by decide) (fun h1 => ?_) (fun h1 => ?_)
  · refine x_aload_n C 0 dX7_as_14 rfl rfl ?_
    refine x_ldc C dX7_as_15 kc_X7_63 ?_
    refine x_callVi C (As := [.int ((-1000001))]) (rest := []) (c_finding l E σ τ 0 (by decide) (-1000001) (by decide)) kv_X7_64 (x_recv C (Nat.le_of_ble_eq_true rfl) xd_0 rfl) ⟨Nat.le_of_ble_eq_true rfl, Nat.le_of_ble_eq_true rfl⟩ rfl rfl (Nat.le_of_ble_eq_true rfl) dX7_as_17 ?_
    exact x_oret C (cpost_of (V := u2 (cv σ) 2 0 (σ 4 0 + 1)) (if_neg (by first | assumption | ((try simp only [rng, mayQ, tI_lt, tI_eq, cvr_0, mvr_0, cvr_c, mvr_c, tl_0, tl_1, tl_2, tl_3, tl_4, tl_5, tl_6, tl_7, tl_8, tl_9, tl_10, tl_11, tl_12, tl_13, tl_99] at h1 ⊢) <;> omega))) (by rw [cv_u4]) (by rw [mv_u4]) rfl) dX7_as_20
  · refine x_iload_n C 2 dX7_as_7 rfl rfl ?_
    refine x_callSi C (As := [.int (kind)]) (rest := []) (c_isKind l E σ τ kind) ks_X7_78 ⟨Nat.le_of_ble_eq_true rfl, Nat.le_of_ble_eq_true rfl⟩ rfl rfl (Nat.le_of_ble_eq_true rfl) dX7_as_8 ?_
    refine x_ifneB C (tgt := 21) dX7_as_11 (by decide) (fun h2 => ?_) (fun h2 => ?_)
    · obtain ⟨q, hqa, hqb, rfl⟩ := rngN (a := 0) (b := 9) h1 (by decide) (by decide) (by decide)
      refine x_aload_n C 0 dX7_as_21 rfl rfl ?_
      refine x_get C (Nat.le_of_ble_eq_true rfl) xd_0 fl_X7_12 (q := (0, 1, 0)) (v := .ref (xad E (1))) rfl rfl dX7_as_22 ?_
      refine x_get C (Nat.le_of_ble_eq_true rfl) xd_1 fl_X7_253 (q := (0, 9, 0)) (v := .ref (xad E (9))) rfl rfl dX7_as_25 ?_
      refine x_iload_n C 1 dX7_as_28 rfl rfl ?_
      refine x_ald C (Nat.le_of_ble_eq_true rfl) xd_9 (v := σ 0 (124 + q)) (vp_in_nI (show q < 10 by omega) (by decide)) (by rw [(nI_clamp (show q < 2 ^ 31 by omega)), Nat.one_mul]) dX7_as_29 ?_
      refine x_istore_n C (lv1 := [(3, .int (σ 0 (124 + q))), (0, .ref (xad E (0))), (1, .int (nI q)), (2, .int (kind))]) dX7_as_30 rfl (by decide) rfl ?_
      refine x_iload_n C 0 dX7_as_31 rfl rfl ?_
      refine x_callSi C (As := [.int (σ 0 (124 + q))]) (rest := []) (c_isCup l E σ τ (σ 0 (124 + q))) ks_X7_74 ⟨Nat.le_of_ble_eq_true rfl, Nat.le_of_ble_eq_true rfl⟩ rfl rfl (Nat.le_of_ble_eq_true rfl) dX7_as_32 ?_
      refine x_ifneB C (tgt := 46) dX7_as_35 (by decide) (fun h3 => ?_) (fun h3 => ?_)
      · obtain ⟨r, hra, hrb, er⟩ := rngN (a := 0) (b := 11) h3 (by decide) (by decide) (by decide)
        refine WM.to (lv1 := [(3, .int (nI r)), (0, .ref (xad E (0))), (1, .int (nI q)), (2, .int (kind))]) ?_ rfl rfl (by rw [er]) rfl
        refine x_aload_n C 1 dX7_as_46 rfl rfl ?_
        refine x_get C (Nat.le_of_ble_eq_true rfl) xd_0 fl_X7_12 (q := (0, 1, 0)) (v := .ref (xad E (1))) rfl rfl dX7_as_47 ?_
        refine x_get C (Nat.le_of_ble_eq_true rfl) xd_1 fl_X7_68 (q := (0, 2, 0)) (v := .ref (xad E (2))) rfl rfl dX7_as_50 ?_
        refine x_iload_n C 0 dX7_as_53 rfl rfl ?_
        refine x_iload_n C 3 dX7_as_54 rfl rfl ?_
        refine WM.to (σ1 := va_up σ 0 (σ 0)) ?_ (xself _ _).symm rfl rfl rfl
        refine x_callVi C (As := [.int (nI r), .int (kind)]) (rest := []) (cW_isOf l E σ τ 0 (by decide) (σ 0) r (by omega) hg kind) kv_X7_257 (x_recv C (Nat.le_of_ble_eq_true rfl) xd_2 rfl) ⟨Nat.le_of_ble_eq_true rfl, Nat.le_of_ble_eq_true rfl⟩ rfl rfl (Nat.le_of_ble_eq_true rfl) dX7_as_55 ?_
        refine WM.to (σ1 := σ) ?_ (xself _ _) rfl rfl rfl
        refine x_ifneB C (tgt := 69) dX7_as_58 (by decide) (fun h4 => ?_) (fun h4 => ?_)
        · refine x_iload_n C 0 dX7_as_69 rfl rfl ?_
          exact x_oret C (cpost_of (V := cv σ) (Eq.trans (if_pos ⟨h1, h2⟩) (Eq.trans (congrArg (fun z => asS (cv σ 0 (124 + z)) kind (cv σ)) (nI_clamp (by omega))) (Eq.trans (if_neg (by rw [show cv σ 0 (124 + q) = nI r from er]; exact nI_pos (by omega))) (Eq.trans (if_pos ((show isK (cv σ 0 (32 + (cv σ 0 (124 + q)).toNatClampNeg)) kind ↔ _ from by rw [show cv σ 0 (124 + q) = nI r from er, nI_clamp (by omega)]; exact Iff.rfl).mpr h4)) (by rw [show cv σ 0 (124 + q) = nI r from er]))))) rfl rfl rfl) dX7_as_70
        · refine x_aload_n C 1 dX7_as_61 rfl rfl ?_
          refine x_ldcw C dX7_as_62 kc_X7_260 ?_
          refine x_callVi C (As := [.int ((-1000003))]) (rest := []) (c_finding l E σ τ 2 (by decide) (-1000003) (by decide)) kv_X7_64 (x_recv C (Nat.le_of_ble_eq_true rfl) xd_0 rfl) ⟨Nat.le_of_ble_eq_true rfl, Nat.le_of_ble_eq_true rfl⟩ rfl rfl (Nat.le_of_ble_eq_true rfl) dX7_as_65 ?_
          exact x_oret C (cpost_of (V := u2 (cv σ) 2 2 (σ 4 2 + 1)) (Eq.trans (if_pos ⟨h1, h2⟩) (Eq.trans (congrArg (fun z => asS (cv σ 0 (124 + z)) kind (cv σ)) (nI_clamp (by omega))) (Eq.trans (if_neg (by rw [show cv σ 0 (124 + q) = nI r from er]; exact nI_pos (by omega))) (if_neg (fun z => h4 ((show isK (cv σ 0 (32 + (cv σ 0 (124 + q)).toNatClampNeg)) kind ↔ _ from by rw [show cv σ 0 (124 + q) = nI r from er, nI_clamp (by omega)]; exact Iff.rfl).mp z)))))) (by rw [cv_u4]) (by rw [mv_u4]) rfl) dX7_as_68
      · refine x_aload_n C 1 dX7_as_38 rfl rfl ?_
        refine x_ldcw C dX7_as_39 kc_X7_256 ?_
        refine x_callVi C (As := [.int ((-1000006))]) (rest := []) (c_finding l E σ τ 5 (by decide) (-1000006) (by decide)) kv_X7_64 (x_recv C (Nat.le_of_ble_eq_true rfl) xd_0 rfl) ⟨Nat.le_of_ble_eq_true rfl, Nat.le_of_ble_eq_true rfl⟩ rfl rfl (Nat.le_of_ble_eq_true rfl) dX7_as_42 ?_
        exact x_oret C (cpost_of (V := u2 (cv σ) 2 5 (σ 4 5 + 1)) (Eq.trans (if_pos ⟨h1, h2⟩) (Eq.trans (congrArg (fun z => asS (cv σ 0 (124 + z)) kind (cv σ)) (nI_clamp (by omega))) (if_pos (by have := hsp q (by omega); simp only [cvr_0, mvr_0, rng, tI_lt, tl_0, tl_11] at h3 ⊢ <;> omega)))) (by rw [cv_u4]) (by rw [mv_u4]) rfl) dX7_as_45
    · refine x_aload_n C 0 dX7_as_14 rfl rfl ?_
      refine x_ldc C dX7_as_15 kc_X7_63 ?_
      refine x_callVi C (As := [.int ((-1000001))]) (rest := []) (c_finding l E σ τ 0 (by decide) (-1000001) (by decide)) kv_X7_64 (x_recv C (Nat.le_of_ble_eq_true rfl) xd_0 rfl) ⟨Nat.le_of_ble_eq_true rfl, Nat.le_of_ble_eq_true rfl⟩ rfl rfl (Nat.le_of_ble_eq_true rfl) dX7_as_17 ?_
      exact x_oret C (cpost_of (V := u2 (cv σ) 2 0 (σ 4 0 + 1)) (if_neg (by first | assumption | ((try simp only [rng, mayQ, tI_lt, tI_eq, cvr_0, mvr_0, cvr_c, mvr_c, tl_0, tl_1, tl_2, tl_3, tl_4, tl_5, tl_6, tl_7, tl_8, tl_9, tl_10, tl_11, tl_12, tl_13, tl_99] at h1 h2 ⊢) <;> omega))) (by rw [cv_u4]) (by rw [mv_u4]) rfl) dX7_as_20
set_option maxHeartbeats 4000000 in
set_option maxRecDepth 100000 in
theorem m_as (l : Launch) (E : xE) (σ : Nat → Nat → Int32) (τ : Nat → Int64) (T : Nat) (hT : T < 1073741824) (spot kind : Int32) (hI : Inv (mv σ) T) (hlv : ∀ j, j < 12 → σ 15 j = (xzl 1).getD j 0) : xOi l yX8_as cX8_as 4 .int 1 25 E [.ref (xad E (81)), .int (spot), .int (kind)] σ τ (mpost (sp_as spot kind (mv σ)) σ) := by
  refine xOi_of (own := RX8) (by decide +kernel) rfl (Nat.le_of_ble_eq_true rfl) ?_
  intro zp ze zs zm za zb zh zc C
  refine WM.to (lv1 := [(0, .ref (xad E (81))), (1, .int (spot)), (2, .int (kind))]) (st1 := []) (σ1 := σ) (τ1 := τ) ?_ rfl rfl rfl rfl
  have hg : gI (σ 10) := hI.g
  have hgT : gT (σ 10) T := hI.t
  have h0 : 0 ≤ (σ 10 10).toInt := hI.h0
  have hsp : ∀ j, j < 10 → -1 ≤ (σ 10 (124 + j)).toInt ∧ (σ 10 (124 + j)).toInt ≤ 11 := hI.1.2.2.2.1
  refine x_iload_n C 1 dX8_as_0 rfl rfl ?_
  refine x_i2l C dX8_as_1 ?_
  refine x_lconst C (v := 0) dX8_as_2 (by decide) ?_
  refine x_ldc2 C dX8_as_3 kc_X8_277 ?_
  refine x_callSi C (As := [.long (Int32.toInt64 spot), .long (0), .long (9)]) (rest := []) (c_in l E σ τ (Int32.toInt64 spot) 0 9) ks_X8_49 ⟨Nat.le_of_ble_eq_true rfl, Nat.le_of_ble_eq_true rfl⟩ rfl rfl (Nat.le_of_ble_eq_true rfl) dX8_as_6 ?_
  refine WM.topi (y := if rng spot 0 9 then 1 else 0) (in_eq spot 0 9 (by decide) (by decide)) ?_
  refine x_ifeqB C (tgt := 24) dX8_as_9 (by decide) (fun h1 => ?_) (fun h1 => ?_)
  · refine x_aload_n C 0 dX8_as_24 rfl rfl ?_
    refine x_ldc C dX8_as_25 kc_X8_46 ?_
    refine x_callVi C (As := [.int ((-1000001))]) (rest := []) (c_finds l E σ τ 0 (by decide) (-1000001) (by decide)) kv_X8_61 (x_recv C (Nat.le_of_ble_eq_true rfl) xd_81 rfl) ⟨Nat.le_of_ble_eq_true rfl, Nat.le_of_ble_eq_true rfl⟩ rfl rfl (Nat.le_of_ble_eq_true rfl) dX8_as_27 ?_
    exact x_oret C (mpost_of (V := u2 (mv σ) 2 0 (σ 14 0 + 1)) (if_neg (by first | assumption | ((try simp only [rng, mayQ, tI_lt, tI_eq, cvr_0, mvr_0, cvr_c, mvr_c, tl_0, tl_1, tl_2, tl_3, tl_4, tl_5, tl_6, tl_7, tl_8, tl_9, tl_10, tl_11, tl_12, tl_13, tl_32, tl_99] at h1 ⊢) <;> omega))) (by rw [mv_u14]) (by rw [cv_u14]) rfl) dX8_as_30
  · refine x_iload_n C 2 dX8_as_12 rfl rfl ?_
    refine x_i2l C dX8_as_13 ?_
    refine x_lconst C (v := 0) dX8_as_14 (by decide) ?_
    refine x_ldc2 C dX8_as_15 kc_X8_69 ?_
    refine x_callSi C (As := [.long (Int32.toInt64 kind), .long (0), .long (6)]) (rest := []) (c_in l E σ τ (Int32.toInt64 kind) 0 6) ks_X8_49 ⟨Nat.le_of_ble_eq_true rfl, Nat.le_of_ble_eq_true rfl⟩ rfl rfl (Nat.le_of_ble_eq_true rfl) dX8_as_18 ?_
    refine WM.topi (y := if rng kind 0 6 then 1 else 0) (in_eq kind 0 6 (by decide) (by decide)) ?_
    refine x_ifneB C (tgt := 31) dX8_as_21 (by decide) (fun h2 => ?_) (fun h2 => ?_)
    · obtain ⟨q, hqa, hqb, rfl⟩ := rngN (a := 0) (b := 9) h1 (by decide) (by decide) (by decide)
      refine x_aload_n C 0 dX8_as_31 rfl rfl ?_
      refine x_get C (Nat.le_of_ble_eq_true rfl) xd_81 fl_X8_9 (q := (0, 82, 0)) (v := .ref (xad E (82))) rfl rfl dX8_as_32 ?_
      refine x_bipush C (v := 124) dX8_as_35 (by decide) ?_
      refine x_iload_n C 1 dX8_as_37 rfl rfl ?_
      refine x_iadd C dX8_as_38 ?_
      refine WM.topi (y := nI (124 + q)) (nI_add 124 q) ?_
      refine x_ald C (Nat.le_of_ble_eq_true rfl) xd_82 (v := σ 10 (124 + q)) (vp_in_nI (show 124 + q < 284 by omega) (by decide)) (by rw [(nI_clamp (show 124 + q < 2 ^ 31 by omega)), Nat.zero_add, Nat.one_mul]) dX8_as_39 ?_
      refine x_istore_n C (lv1 := [(3, .int (σ 10 (124 + q))), (0, .ref (xad E (81))), (1, .int (nI q)), (2, .int (kind))]) dX8_as_40 rfl (by decide) rfl ?_
      refine x_iload_n C 0 dX8_as_41 rfl rfl ?_
      refine x_if_ge C (tgt := 53) dX8_as_42 (by decide) (fun h3 => ?_) (fun h3 => ?_)
      · obtain ⟨r, hrb, er⟩ := spotN (hsp q (by omega)) h3
        refine WM.to (lv1 := [(3, .int (nI r)), (0, .ref (xad E (81))), (1, .int (nI q)), (2, .int (kind))]) ?_ rfl rfl (by rw [er]) rfl
        refine x_aload_n C 1 dX8_as_53 rfl rfl ?_
        refine x_get C (Nat.le_of_ble_eq_true rfl) xd_81 fl_X8_9 (q := (0, 82, 0)) (v := .ref (xad E (82))) rfl rfl dX8_as_54 ?_
        refine x_bipush C (v := 32) dX8_as_57 (by decide) ?_
        refine x_iload_n C 0 dX8_as_59 rfl rfl ?_
        refine x_iadd C dX8_as_60 ?_
        refine WM.topi (y := nI (32 + r)) (nI_add 32 r) ?_
        refine x_ald C (Nat.le_of_ble_eq_true rfl) xd_82 (v := σ 10 (32 + r)) (vp_in_nI (show 32 + r < 284 by omega) (by decide)) (by rw [(nI_clamp (show 32 + r < 2 ^ 31 by omega)), Nat.zero_add, Nat.one_mul]) dX8_as_61 ?_
        refine x_iload_n C 3 dX8_as_62 rfl rfl ?_
        refine x_callSi C (As := [.int (σ 10 (32 + r)), .int (kind)]) (rest := []) (c_misOf l E σ τ (σ 10 (32 + r)) kind) ks_X8_280 ⟨Nat.le_of_ble_eq_true rfl, Nat.le_of_ble_eq_true rfl⟩ rfl rfl (Nat.le_of_ble_eq_true rfl) dX8_as_63 ?_
        refine x_ifeqB C (tgt := 73) dX8_as_66 (by decide) (fun h4 => ?_) (fun h4 => ?_)
        · refine x_aload_n C 1 dX8_as_73 rfl rfl ?_
          refine x_ldcw C dX8_as_74 kc_X8_283 ?_
          refine x_callVi C (As := [.int ((-1000003))]) (rest := []) (c_finds l E σ τ 2 (by decide) (-1000003) (by decide)) kv_X8_61 (x_recv C (Nat.le_of_ble_eq_true rfl) xd_81 rfl) ⟨Nat.le_of_ble_eq_true rfl, Nat.le_of_ble_eq_true rfl⟩ rfl rfl (Nat.le_of_ble_eq_true rfl) dX8_as_77 ?_
          exact x_oret C (mpost_of (V := u2 (mv σ) 2 2 (σ 14 2 + 1)) (Eq.trans (if_pos ⟨h1, h2⟩) (Eq.trans (congrArg (fun z => asS (mv σ 0 (124 + z)) kind (mv σ)) (nI_clamp (by omega))) (Eq.trans (if_neg h3) (if_neg (fun z => h4 ((show isK (mv σ 0 (32 + (mv σ 0 (124 + q)).toNatClampNeg)) kind ↔ _ from by rw [show mv σ 0 (124 + q) = nI r from er, nI_clamp (by omega)]; exact Iff.rfl).mp z)))))) (by rw [mv_u14]) (by rw [cv_u14]) rfl) dX8_as_80
        · refine x_iload_n C 0 dX8_as_69 rfl rfl ?_
          refine x_goto2 C (tgt := 80) dX8_as_70 (by decide) ?_
          exact x_oret C (mpost_of (V := mv σ) (Eq.trans (if_pos ⟨h1, h2⟩) (Eq.trans (congrArg (fun z => asS (mv σ 0 (124 + z)) kind (mv σ)) (nI_clamp (by omega))) (Eq.trans (if_neg h3) (Eq.trans (if_pos ((show isK (mv σ 0 (32 + (mv σ 0 (124 + q)).toNatClampNeg)) kind ↔ _ from by rw [show mv σ 0 (124 + q) = nI r from er, nI_clamp (by omega)]; exact Iff.rfl).mpr h4)) (by rw [show mv σ 0 (124 + q) = nI r from er]))))) rfl rfl rfl) dX8_as_80
      · refine x_aload_n C 1 dX8_as_45 rfl rfl ?_
        refine x_ldcw C dX8_as_46 kc_X8_279 ?_
        refine x_callVi C (As := [.int ((-1000006))]) (rest := []) (c_finds l E σ τ 5 (by decide) (-1000006) (by decide)) kv_X8_61 (x_recv C (Nat.le_of_ble_eq_true rfl) xd_81 rfl) ⟨Nat.le_of_ble_eq_true rfl, Nat.le_of_ble_eq_true rfl⟩ rfl rfl (Nat.le_of_ble_eq_true rfl) dX8_as_49 ?_
        exact x_oret C (mpost_of (V := u2 (mv σ) 2 5 (σ 14 5 + 1)) (Eq.trans (if_pos ⟨h1, h2⟩) (Eq.trans (congrArg (fun z => asS (mv σ 0 (124 + z)) kind (mv σ)) (nI_clamp (by omega))) (if_pos (by have := hsp q (by omega); simp only [cvr_0, mvr_0, rng, tI_lt, tl_0, tl_11] at h3 ⊢ <;> omega)))) (by rw [mv_u14]) (by rw [cv_u14]) rfl) dX8_as_52
    · refine x_aload_n C 0 dX8_as_24 rfl rfl ?_
      refine x_ldc C dX8_as_25 kc_X8_46 ?_
      refine x_callVi C (As := [.int ((-1000001))]) (rest := []) (c_finds l E σ τ 0 (by decide) (-1000001) (by decide)) kv_X8_61 (x_recv C (Nat.le_of_ble_eq_true rfl) xd_81 rfl) ⟨Nat.le_of_ble_eq_true rfl, Nat.le_of_ble_eq_true rfl⟩ rfl rfl (Nat.le_of_ble_eq_true rfl) dX8_as_27 ?_
      exact x_oret C (mpost_of (V := u2 (mv σ) 2 0 (σ 14 0 + 1)) (if_neg (by first | assumption | ((try simp only [rng, mayQ, tI_lt, tI_eq, cvr_0, mvr_0, cvr_c, mvr_c, tl_0, tl_1, tl_2, tl_3, tl_4, tl_5, tl_6, tl_7, tl_8, tl_9, tl_10, tl_11, tl_12, tl_13, tl_32, tl_99] at h1 h2 ⊢) <;> omega))) (by rw [mv_u14]) (by rw [cv_u14]) rfl) dX8_as_30
set_option maxHeartbeats 4000000 in
set_option maxRecDepth 100000 in
theorem k_count (l : Launch) (E : xE) (σ : Nat → Nat → Int32) (τ : Nat → Int64) (T : Nat) (hT : T < 1073741824) (what : Int32) (hI : Inv (cv σ) T) : xOi l yX7_count cX7_count 2 .int 2 44 E [.ref (xad E (0)), .int (what)] σ τ (cpost (sp_count what (cv σ)) σ) := by
  refine xOi_of (own := RX7) (by decide +kernel) rfl (Nat.le_of_ble_eq_true rfl) ?_
  intro zp ze zs zm za zb zh zc C
  refine WM.to (lv1 := [(0, .ref (xad E (0))), (1, .int (what))]) (st1 := []) (σ1 := σ) (τ1 := τ) ?_ rfl rfl rfl rfl
  have hg : gI (σ 0) := hI.g
  have hgT : gT (σ 0) T := hI.t
  have h0 : 0 ≤ (σ 0 10).toInt := hI.h0
  refine x_iload_n C 1 dX7_count_0 rfl rfl ?_
  by_cases t1 : what = 0
  · refine WM.topi (y := 0) t1 ?_
    refine x_tableIn C (tgt := 52) dX7_count_1 (by decide) (by decide) rfl (by decide) ?_
    refine x_aload_n C 0 dX7_count_52 rfl rfl ?_
    refine x_get C (Nat.le_of_ble_eq_true rfl) xd_0 fl_X7_12 (q := (0, 1, 0)) (v := .ref (xad E (1))) rfl rfl dX7_count_53 ?_
    refine x_get C (Nat.le_of_ble_eq_true rfl) xd_1 fl_X7_68 (q := (0, 2, 0)) (v := .ref (xad E (2))) rfl rfl dX7_count_56 ?_
    refine x_get C (Nat.le_of_ble_eq_true rfl) xd_2 fl_X7_71 (q := (0, 3, 0)) (v := .ref (xad E (3))) rfl rfl dX7_count_59 ?_
    refine x_iconst C (v := 0) dX7_count_62 (by decide) ?_
    refine x_ald C (Nat.le_of_ble_eq_true rfl) xd_3 (v := σ 0 0) (vp_in_nI (show 0 < 4 by omega) (by decide)) (by rw [(show (0 : Int32).toNatClampNeg = 0 from by decide), Nat.zero_add, Nat.one_mul]) dX7_count_63 ?_
    exact x_oret C (cpost_of (V := cv σ) (Eq.trans (if_pos (by first | assumption | ((try simp only [rng, mayQ, tI_lt, tI_eq, cvr_0, mvr_0, cvr_c, mvr_c, tl_0, tl_1, tl_2, tl_3, tl_4, tl_5, tl_6, tl_7, tl_8, tl_9, tl_10, tl_11, tl_12, tl_13, tl_99] at t1 ⊢) <;> omega))) (by rw [t1]; rfl)) rfl rfl rfl) dX7_count_64
  · by_cases t2 : what = 1
    · refine WM.topi (y := 1) t2 ?_
      refine x_tableIn C (tgt := 65) dX7_count_1 (by decide) (by decide) rfl (by decide) ?_
      refine x_aload_n C 0 dX7_count_65 rfl rfl ?_
      refine x_get C (Nat.le_of_ble_eq_true rfl) xd_0 fl_X7_12 (q := (0, 1, 0)) (v := .ref (xad E (1))) rfl rfl dX7_count_66 ?_
      refine x_get C (Nat.le_of_ble_eq_true rfl) xd_1 fl_X7_68 (q := (0, 2, 0)) (v := .ref (xad E (2))) rfl rfl dX7_count_69 ?_
      refine x_get C (Nat.le_of_ble_eq_true rfl) xd_2 fl_X7_71 (q := (0, 3, 0)) (v := .ref (xad E (3))) rfl rfl dX7_count_72 ?_
      refine x_iconst C (v := 1) dX7_count_75 (by decide) ?_
      refine x_ald C (Nat.le_of_ble_eq_true rfl) xd_3 (v := σ 0 1) (vp_in_nI (show 1 < 4 by omega) (by decide)) (by rw [(show (1 : Int32).toNatClampNeg = 1 from by decide), Nat.zero_add, Nat.one_mul]) dX7_count_76 ?_
      exact x_oret C (cpost_of (V := cv σ) (Eq.trans (if_pos (by first | assumption | ((try simp only [rng, mayQ, tI_lt, tI_eq, cvr_0, mvr_0, cvr_c, mvr_c, tl_0, tl_1, tl_2, tl_3, tl_4, tl_5, tl_6, tl_7, tl_8, tl_9, tl_10, tl_11, tl_12, tl_13, tl_99] at t1 t2 ⊢) <;> omega))) (by rw [t2]; rfl)) rfl rfl rfl) dX7_count_77
    · by_cases t3 : what = 2
      · refine WM.topi (y := 2) t3 ?_
        refine x_tableIn C (tgt := 78) dX7_count_1 (by decide) (by decide) rfl (by decide) ?_
        refine x_aload_n C 0 dX7_count_78 rfl rfl ?_
        refine x_get C (Nat.le_of_ble_eq_true rfl) xd_0 fl_X7_12 (q := (0, 1, 0)) (v := .ref (xad E (1))) rfl rfl dX7_count_79 ?_
        refine x_get C (Nat.le_of_ble_eq_true rfl) xd_1 fl_X7_68 (q := (0, 2, 0)) (v := .ref (xad E (2))) rfl rfl dX7_count_82 ?_
        refine x_get C (Nat.le_of_ble_eq_true rfl) xd_2 fl_X7_71 (q := (0, 3, 0)) (v := .ref (xad E (3))) rfl rfl dX7_count_85 ?_
        refine x_iconst C (v := 2) dX7_count_88 (by decide) ?_
        refine x_ald C (Nat.le_of_ble_eq_true rfl) xd_3 (v := σ 0 2) (vp_in_nI (show 2 < 4 by omega) (by decide)) (by rw [(show (2 : Int32).toNatClampNeg = 2 from by decide), Nat.zero_add, Nat.one_mul]) dX7_count_89 ?_
        exact x_oret C (cpost_of (V := cv σ) (Eq.trans (if_pos (by first | assumption | ((try simp only [rng, mayQ, tI_lt, tI_eq, cvr_0, mvr_0, cvr_c, mvr_c, tl_0, tl_1, tl_2, tl_3, tl_4, tl_5, tl_6, tl_7, tl_8, tl_9, tl_10, tl_11, tl_12, tl_13, tl_99] at t1 t2 t3 ⊢) <;> omega))) (by rw [t3]; rfl)) rfl rfl rfl) dX7_count_90
      · by_cases t4 : what = 3
        · refine WM.topi (y := 3) t4 ?_
          refine x_tableIn C (tgt := 91) dX7_count_1 (by decide) (by decide) rfl (by decide) ?_
          refine x_aload_n C 0 dX7_count_91 rfl rfl ?_
          refine x_get C (Nat.le_of_ble_eq_true rfl) xd_0 fl_X7_12 (q := (0, 1, 0)) (v := .ref (xad E (1))) rfl rfl dX7_count_92 ?_
          refine x_get C (Nat.le_of_ble_eq_true rfl) xd_1 fl_X7_68 (q := (0, 2, 0)) (v := .ref (xad E (2))) rfl rfl dX7_count_95 ?_
          refine x_get C (Nat.le_of_ble_eq_true rfl) xd_2 fl_X7_71 (q := (0, 3, 0)) (v := .ref (xad E (3))) rfl rfl dX7_count_98 ?_
          refine x_iconst C (v := 3) dX7_count_101 (by decide) ?_
          refine x_ald C (Nat.le_of_ble_eq_true rfl) xd_3 (v := σ 0 3) (vp_in_nI (show 3 < 4 by omega) (by decide)) (by rw [(show (3 : Int32).toNatClampNeg = 3 from by decide), Nat.zero_add, Nat.one_mul]) dX7_count_102 ?_
          exact x_oret C (cpost_of (V := cv σ) (Eq.trans (if_pos (by first | assumption | ((try simp only [rng, mayQ, tI_lt, tI_eq, cvr_0, mvr_0, cvr_c, mvr_c, tl_0, tl_1, tl_2, tl_3, tl_4, tl_5, tl_6, tl_7, tl_8, tl_9, tl_10, tl_11, tl_12, tl_13, tl_99] at t1 t2 t3 t4 ⊢) <;> omega))) (by rw [t4]; rfl)) rfl rfl rfl) dX7_count_103
        · by_cases t5 : what = 4
          · refine WM.topi (y := 4) t5 ?_
            refine x_tableIn C (tgt := 104) dX7_count_1 (by decide) (by decide) rfl (by decide) ?_
            refine x_aload_n C 0 dX7_count_104 rfl rfl ?_
            refine x_get C (Nat.le_of_ble_eq_true rfl) xd_0 fl_X7_12 (q := (0, 1, 0)) (v := .ref (xad E (1))) rfl rfl dX7_count_105 ?_
            refine x_get C (Nat.le_of_ble_eq_true rfl) xd_1 fl_X7_68 (q := (0, 2, 0)) (v := .ref (xad E (2))) rfl rfl dX7_count_108 ?_
            refine WM.to (σ1 := va_up σ 0 (σ 0)) ?_ (xself _ _).symm rfl rfl rfl
            refine x_callVi C (As := []) (rest := []) (cW_logged l E σ τ 0 (by decide) (σ 0)) kv_X7_136 (x_recv C (Nat.le_of_ble_eq_true rfl) xd_2 rfl) ⟨Nat.le_of_ble_eq_true rfl, Nat.le_of_ble_eq_true rfl⟩ rfl rfl (Nat.le_of_ble_eq_true rfl) dX7_count_111 ?_
            refine WM.to (σ1 := σ) ?_ (xself _ _) rfl rfl rfl
            exact x_oret C (cpost_of (V := cv σ) (Eq.trans (if_neg (by first | assumption | ((try simp only [rng, mayQ, tI_lt, tI_eq, cvr_0, mvr_0, cvr_c, mvr_c, tl_0, tl_1, tl_2, tl_3, tl_4, tl_5, tl_6, tl_7, tl_8, tl_9, tl_10, tl_11, tl_12, tl_13, tl_99] at t1 t2 t3 t4 t5 ⊢) <;> omega))) (if_pos (by first | assumption | ((try simp only [rng, mayQ, tI_lt, tI_eq, cvr_0, mvr_0, cvr_c, mvr_c, tl_0, tl_1, tl_2, tl_3, tl_4, tl_5, tl_6, tl_7, tl_8, tl_9, tl_10, tl_11, tl_12, tl_13, tl_99] at t1 t2 t3 t4 t5 ⊢) <;> omega)))) rfl rfl rfl) dX7_count_114
          · by_cases t6 : what = 5
            · refine WM.topi (y := 5) t6 ?_
              refine x_tableIn C (tgt := 115) dX7_count_1 (by decide) (by decide) rfl (by decide) ?_
              refine x_aload_n C 0 dX7_count_115 rfl rfl ?_
              refine x_get C (Nat.le_of_ble_eq_true rfl) xd_0 fl_X7_12 (q := (0, 1, 0)) (v := .ref (xad E (1))) rfl rfl dX7_count_116 ?_
              refine x_get C (Nat.le_of_ble_eq_true rfl) xd_1 fl_X7_68 (q := (0, 2, 0)) (v := .ref (xad E (2))) rfl rfl dX7_count_119 ?_
              refine x_get C (Nat.le_of_ble_eq_true rfl) xd_2 fl_X7_194 (q := (1, 0, 10)) (v := .int (σ 0 10)) rfl rfl dX7_count_122 ?_
              exact x_oret C (cpost_of (V := cv σ) (Eq.trans (if_neg (by first | assumption | ((try simp only [rng, mayQ, tI_lt, tI_eq, cvr_0, mvr_0, cvr_c, mvr_c, tl_0, tl_1, tl_2, tl_3, tl_4, tl_5, tl_6, tl_7, tl_8, tl_9, tl_10, tl_11, tl_12, tl_13, tl_99] at t1 t2 t3 t4 t5 t6 ⊢) <;> omega))) (Eq.trans (if_neg (by first | assumption | ((try simp only [rng, mayQ, tI_lt, tI_eq, cvr_0, mvr_0, cvr_c, mvr_c, tl_0, tl_1, tl_2, tl_3, tl_4, tl_5, tl_6, tl_7, tl_8, tl_9, tl_10, tl_11, tl_12, tl_13, tl_99] at t1 t2 t3 t4 t5 t6 ⊢) <;> omega))) (if_pos (by first | assumption | ((try simp only [rng, mayQ, tI_lt, tI_eq, cvr_0, mvr_0, cvr_c, mvr_c, tl_0, tl_1, tl_2, tl_3, tl_4, tl_5, tl_6, tl_7, tl_8, tl_9, tl_10, tl_11, tl_12, tl_13, tl_99] at t1 t2 t3 t4 t5 t6 ⊢) <;> omega))))) rfl rfl rfl) dX7_count_125
            · by_cases t7 : what = 6
              · refine WM.topi (y := 6) t7 ?_
                refine x_tableIn C (tgt := 126) dX7_count_1 (by decide) (by decide) rfl (by decide) ?_
                refine x_aload_n C 0 dX7_count_126 rfl rfl ?_
                refine x_get C (Nat.le_of_ble_eq_true rfl) xd_0 fl_X7_12 (q := (0, 1, 0)) (v := .ref (xad E (1))) rfl rfl dX7_count_127 ?_
                refine x_get C (Nat.le_of_ble_eq_true rfl) xd_1 fl_X7_163 (q := (1, 0, 13)) (v := .int (σ 0 13)) rfl rfl dX7_count_130 ?_
                exact x_oret C (cpost_of (V := cv σ) (Eq.trans (if_neg (by first | assumption | ((try simp only [rng, mayQ, tI_lt, tI_eq, cvr_0, mvr_0, cvr_c, mvr_c, tl_0, tl_1, tl_2, tl_3, tl_4, tl_5, tl_6, tl_7, tl_8, tl_9, tl_10, tl_11, tl_12, tl_13, tl_99] at t1 t2 t3 t4 t5 t6 t7 ⊢) <;> omega))) (Eq.trans (if_neg (by first | assumption | ((try simp only [rng, mayQ, tI_lt, tI_eq, cvr_0, mvr_0, cvr_c, mvr_c, tl_0, tl_1, tl_2, tl_3, tl_4, tl_5, tl_6, tl_7, tl_8, tl_9, tl_10, tl_11, tl_12, tl_13, tl_99] at t1 t2 t3 t4 t5 t6 t7 ⊢) <;> omega))) (Eq.trans (if_neg (by first | assumption | ((try simp only [rng, mayQ, tI_lt, tI_eq, cvr_0, mvr_0, cvr_c, mvr_c, tl_0, tl_1, tl_2, tl_3, tl_4, tl_5, tl_6, tl_7, tl_8, tl_9, tl_10, tl_11, tl_12, tl_13, tl_99] at t1 t2 t3 t4 t5 t6 t7 ⊢) <;> omega))) (if_pos (by first | assumption | ((try simp only [rng, mayQ, tI_lt, tI_eq, cvr_0, mvr_0, cvr_c, mvr_c, tl_0, tl_1, tl_2, tl_3, tl_4, tl_5, tl_6, tl_7, tl_8, tl_9, tl_10, tl_11, tl_12, tl_13, tl_99] at t1 t2 t3 t4 t5 t6 t7 ⊢) <;> omega)))))) rfl rfl rfl) dX7_count_133
              · by_cases t8 : what = 7
                · refine WM.topi (y := 7) t8 ?_
                  refine x_tableIn C (tgt := 134) dX7_count_1 (by decide) (by decide) rfl (by decide) ?_
                  refine x_aload_n C 0 dX7_count_134 rfl rfl ?_
                  refine x_get C (Nat.le_of_ble_eq_true rfl) xd_0 fl_X7_30 (q := (0, 55, 0)) (v := .ref (xad E (55))) rfl rfl dX7_count_135 ?_
                  refine x_get C (Nat.le_of_ble_eq_true rfl) xd_55 fl_X7_155 (q := (1, 6, 1)) (v := .int (σ 6 1)) rfl rfl dX7_count_138 ?_
                  exact x_oret C (cpost_of (V := cv σ) (Eq.trans (if_neg (by first | assumption | ((try simp only [rng, mayQ, tI_lt, tI_eq, cvr_0, mvr_0, cvr_c, mvr_c, tl_0, tl_1, tl_2, tl_3, tl_4, tl_5, tl_6, tl_7, tl_8, tl_9, tl_10, tl_11, tl_12, tl_13, tl_99] at t1 t2 t3 t4 t5 t6 t7 t8 ⊢) <;> omega))) (Eq.trans (if_neg (by first | assumption | ((try simp only [rng, mayQ, tI_lt, tI_eq, cvr_0, mvr_0, cvr_c, mvr_c, tl_0, tl_1, tl_2, tl_3, tl_4, tl_5, tl_6, tl_7, tl_8, tl_9, tl_10, tl_11, tl_12, tl_13, tl_99] at t1 t2 t3 t4 t5 t6 t7 t8 ⊢) <;> omega))) (Eq.trans (if_neg (by first | assumption | ((try simp only [rng, mayQ, tI_lt, tI_eq, cvr_0, mvr_0, cvr_c, mvr_c, tl_0, tl_1, tl_2, tl_3, tl_4, tl_5, tl_6, tl_7, tl_8, tl_9, tl_10, tl_11, tl_12, tl_13, tl_99] at t1 t2 t3 t4 t5 t6 t7 t8 ⊢) <;> omega))) (Eq.trans (if_neg (by first | assumption | ((try simp only [rng, mayQ, tI_lt, tI_eq, cvr_0, mvr_0, cvr_c, mvr_c, tl_0, tl_1, tl_2, tl_3, tl_4, tl_5, tl_6, tl_7, tl_8, tl_9, tl_10, tl_11, tl_12, tl_13, tl_99] at t1 t2 t3 t4 t5 t6 t7 t8 ⊢) <;> omega))) (if_pos (by first | assumption | ((try simp only [rng, mayQ, tI_lt, tI_eq, cvr_0, mvr_0, cvr_c, mvr_c, tl_0, tl_1, tl_2, tl_3, tl_4, tl_5, tl_6, tl_7, tl_8, tl_9, tl_10, tl_11, tl_12, tl_13, tl_99] at t1 t2 t3 t4 t5 t6 t7 t8 ⊢) <;> omega))))))) rfl rfl rfl) dX7_count_141
                · by_cases t9 : what = 8
                  · refine WM.topi (y := 8) t9 ?_
                    refine x_tableIn C (tgt := 142) dX7_count_1 (by decide) (by decide) rfl (by decide) ?_
                    refine x_aload_n C 0 dX7_count_142 rfl rfl ?_
                    refine x_get C (Nat.le_of_ble_eq_true rfl) xd_0 fl_X7_12 (q := (0, 1, 0)) (v := .ref (xad E (1))) rfl rfl dX7_count_143 ?_
                    refine x_get C (Nat.le_of_ble_eq_true rfl) xd_1 fl_X7_248 (q := (1, 0, 12)) (v := .int (σ 0 12)) rfl rfl dX7_count_146 ?_
                    exact x_oret C (cpost_of (V := cv σ) (Eq.trans (if_neg (by first | assumption | ((try simp only [rng, mayQ, tI_lt, tI_eq, cvr_0, mvr_0, cvr_c, mvr_c, tl_0, tl_1, tl_2, tl_3, tl_4, tl_5, tl_6, tl_7, tl_8, tl_9, tl_10, tl_11, tl_12, tl_13, tl_99] at t1 t2 t3 t4 t5 t6 t7 t8 t9 ⊢) <;> omega))) (Eq.trans (if_neg (by first | assumption | ((try simp only [rng, mayQ, tI_lt, tI_eq, cvr_0, mvr_0, cvr_c, mvr_c, tl_0, tl_1, tl_2, tl_3, tl_4, tl_5, tl_6, tl_7, tl_8, tl_9, tl_10, tl_11, tl_12, tl_13, tl_99] at t1 t2 t3 t4 t5 t6 t7 t8 t9 ⊢) <;> omega))) (Eq.trans (if_neg (by first | assumption | ((try simp only [rng, mayQ, tI_lt, tI_eq, cvr_0, mvr_0, cvr_c, mvr_c, tl_0, tl_1, tl_2, tl_3, tl_4, tl_5, tl_6, tl_7, tl_8, tl_9, tl_10, tl_11, tl_12, tl_13, tl_99] at t1 t2 t3 t4 t5 t6 t7 t8 t9 ⊢) <;> omega))) (Eq.trans (if_neg (by first | assumption | ((try simp only [rng, mayQ, tI_lt, tI_eq, cvr_0, mvr_0, cvr_c, mvr_c, tl_0, tl_1, tl_2, tl_3, tl_4, tl_5, tl_6, tl_7, tl_8, tl_9, tl_10, tl_11, tl_12, tl_13, tl_99] at t1 t2 t3 t4 t5 t6 t7 t8 t9 ⊢) <;> omega))) (Eq.trans (if_neg (by first | assumption | ((try simp only [rng, mayQ, tI_lt, tI_eq, cvr_0, mvr_0, cvr_c, mvr_c, tl_0, tl_1, tl_2, tl_3, tl_4, tl_5, tl_6, tl_7, tl_8, tl_9, tl_10, tl_11, tl_12, tl_13, tl_99] at t1 t2 t3 t4 t5 t6 t7 t8 t9 ⊢) <;> omega))) (if_pos (by first | assumption | ((try simp only [rng, mayQ, tI_lt, tI_eq, cvr_0, mvr_0, cvr_c, mvr_c, tl_0, tl_1, tl_2, tl_3, tl_4, tl_5, tl_6, tl_7, tl_8, tl_9, tl_10, tl_11, tl_12, tl_13, tl_99] at t1 t2 t3 t4 t5 t6 t7 t8 t9 ⊢) <;> omega)))))))) rfl rfl rfl) dX7_count_149
                  · refine x_tableOut C (tgt := 150) dX7_count_1 (by rw [tI_eq, show (0 : Int32).toInt = 0 from by decide] at t1; rw [tI_eq, show (1 : Int32).toInt = 1 from by decide] at t2; rw [tI_eq, show (2 : Int32).toInt = 2 from by decide] at t3; rw [tI_eq, show (3 : Int32).toInt = 3 from by decide] at t4; rw [tI_eq, show (4 : Int32).toInt = 4 from by decide] at t5; rw [tI_eq, show (5 : Int32).toInt = 5 from by decide] at t6; rw [tI_eq, show (6 : Int32).toInt = 6 from by decide] at t7; rw [tI_eq, show (7 : Int32).toInt = 7 from by decide] at t8; rw [tI_eq, show (8 : Int32).toInt = 8 from by decide] at t9; first | omega) (by decide) ?_
                    refine x_aload_n C 0 dX7_count_150 rfl rfl ?_
                    refine x_ldc C dX7_count_151 kc_X7_63 ?_
                    refine x_callVi C (As := [.int ((-1000001))]) (rest := []) (c_finding l E σ τ 0 (by decide) (-1000001) (by decide)) kv_X7_64 (x_recv C (Nat.le_of_ble_eq_true rfl) xd_0 rfl) ⟨Nat.le_of_ble_eq_true rfl, Nat.le_of_ble_eq_true rfl⟩ rfl rfl (Nat.le_of_ble_eq_true rfl) dX7_count_153 ?_
                    exact x_oret C (cpost_of (V := u2 (cv σ) 2 0 (σ 4 0 + 1)) (Eq.trans (if_neg (by first | assumption | ((try simp only [rng, mayQ, tI_lt, tI_eq, cvr_0, mvr_0, cvr_c, mvr_c, tl_0, tl_1, tl_2, tl_3, tl_4, tl_5, tl_6, tl_7, tl_8, tl_9, tl_10, tl_11, tl_12, tl_13, tl_99] at t1 t2 t3 t4 t5 t6 t7 t8 t9 ⊢) <;> omega))) (Eq.trans (if_neg (by first | assumption | ((try simp only [rng, mayQ, tI_lt, tI_eq, cvr_0, mvr_0, cvr_c, mvr_c, tl_0, tl_1, tl_2, tl_3, tl_4, tl_5, tl_6, tl_7, tl_8, tl_9, tl_10, tl_11, tl_12, tl_13, tl_99] at t1 t2 t3 t4 t5 t6 t7 t8 t9 ⊢) <;> omega))) (Eq.trans (if_neg (by first | assumption | ((try simp only [rng, mayQ, tI_lt, tI_eq, cvr_0, mvr_0, cvr_c, mvr_c, tl_0, tl_1, tl_2, tl_3, tl_4, tl_5, tl_6, tl_7, tl_8, tl_9, tl_10, tl_11, tl_12, tl_13, tl_99] at t1 t2 t3 t4 t5 t6 t7 t8 t9 ⊢) <;> omega))) (Eq.trans (if_neg (by first | assumption | ((try simp only [rng, mayQ, tI_lt, tI_eq, cvr_0, mvr_0, cvr_c, mvr_c, tl_0, tl_1, tl_2, tl_3, tl_4, tl_5, tl_6, tl_7, tl_8, tl_9, tl_10, tl_11, tl_12, tl_13, tl_99] at t1 t2 t3 t4 t5 t6 t7 t8 t9 ⊢) <;> omega))) (Eq.trans (if_neg (by first | assumption | ((try simp only [rng, mayQ, tI_lt, tI_eq, cvr_0, mvr_0, cvr_c, mvr_c, tl_0, tl_1, tl_2, tl_3, tl_4, tl_5, tl_6, tl_7, tl_8, tl_9, tl_10, tl_11, tl_12, tl_13, tl_99] at t1 t2 t3 t4 t5 t6 t7 t8 t9 ⊢) <;> omega))) (if_neg (by first | assumption | ((try simp only [rng, mayQ, tI_lt, tI_eq, cvr_0, mvr_0, cvr_c, mvr_c, tl_0, tl_1, tl_2, tl_3, tl_4, tl_5, tl_6, tl_7, tl_8, tl_9, tl_10, tl_11, tl_12, tl_13, tl_99] at t1 t2 t3 t4 t5 t6 t7 t8 t9 ⊢) <;> omega)))))))) (by rw [cv_u4]) (by rw [mv_u4]) rfl) dX7_count_156
set_option maxHeartbeats 4000000 in
set_option maxRecDepth 100000 in
theorem m_count (l : Launch) (E : xE) (σ : Nat → Nat → Int32) (τ : Nat → Int64) (T : Nat) (hT : T < 1073741824) (what : Int32) (hI : Inv (mv σ) T) (hlv : ∀ j, j < 12 → σ 15 j = (xzl 1).getD j 0) : xOi l yX8_count cX8_count 2 .int 1 21 E [.ref (xad E (81)), .int (what)] σ τ (mpost (sp_count what (mv σ)) σ) := by
  refine xOi_of (own := RX8) (by decide +kernel) rfl (Nat.le_of_ble_eq_true rfl) ?_
  intro zp ze zs zm za zb zh zc C
  refine WM.to (lv1 := [(0, .ref (xad E (81))), (1, .int (what))]) (st1 := []) (σ1 := σ) (τ1 := τ) ?_ rfl rfl rfl rfl
  have hg : gI (σ 10) := hI.g
  have hgT : gT (σ 10) T := hI.t
  have h0 : 0 ≤ (σ 10 10).toInt := hI.h0
  refine x_iload_n C 1 dX8_count_0 rfl rfl ?_
  by_cases t1 : what = 0
  · refine WM.topi (y := 0) t1 ?_
    refine x_tableIn C (tgt := 52) dX8_count_1 (by decide) (by decide) rfl (by decide) ?_
    refine WM.to (lv1 := [(0, .ref (xad E (81))), (1, .int (0))]) ?_ rfl rfl (by rw [t1]) rfl
    refine x_aload_n C 0 dX8_count_52 rfl rfl ?_
    refine x_get C (Nat.le_of_ble_eq_true rfl) xd_81 fl_X8_9 (q := (0, 82, 0)) (v := .ref (xad E (82))) rfl rfl dX8_count_53 ?_
    refine x_iload_n C 1 dX8_count_56 rfl rfl ?_
    refine x_ald C (Nat.le_of_ble_eq_true rfl) xd_82 (v := σ 10 0) (vp_in_nI (show 0 < 284 by omega) (by decide)) (by rw [(show (0 : Int32).toNatClampNeg = 0 from by decide), Nat.zero_add, Nat.one_mul]) dX8_count_57 ?_
    exact x_oret C (mpost_of (V := mv σ) (Eq.trans (if_pos (by first | assumption | ((try simp only [rng, mayQ, tI_lt, tI_eq, cvr_0, mvr_0, cvr_c, mvr_c, tl_0, tl_1, tl_2, tl_3, tl_4, tl_5, tl_6, tl_7, tl_8, tl_9, tl_10, tl_11, tl_12, tl_13, tl_99] at t1 ⊢) <;> omega))) (by rw [t1]; rfl)) rfl rfl rfl) dX8_count_58
  · by_cases t2 : what = 1
    · refine WM.topi (y := 1) t2 ?_
      refine x_tableIn C (tgt := 52) dX8_count_1 (by decide) (by decide) rfl (by decide) ?_
      refine WM.to (lv1 := [(0, .ref (xad E (81))), (1, .int (1))]) ?_ rfl rfl (by rw [t2]) rfl
      refine x_aload_n C 0 dX8_count_52 rfl rfl ?_
      refine x_get C (Nat.le_of_ble_eq_true rfl) xd_81 fl_X8_9 (q := (0, 82, 0)) (v := .ref (xad E (82))) rfl rfl dX8_count_53 ?_
      refine x_iload_n C 1 dX8_count_56 rfl rfl ?_
      refine x_ald C (Nat.le_of_ble_eq_true rfl) xd_82 (v := σ 10 1) (vp_in_nI (show 1 < 284 by omega) (by decide)) (by rw [(show (1 : Int32).toNatClampNeg = 1 from by decide), Nat.zero_add, Nat.one_mul]) dX8_count_57 ?_
      exact x_oret C (mpost_of (V := mv σ) (Eq.trans (if_pos (by first | assumption | ((try simp only [rng, mayQ, tI_lt, tI_eq, cvr_0, mvr_0, cvr_c, mvr_c, tl_0, tl_1, tl_2, tl_3, tl_4, tl_5, tl_6, tl_7, tl_8, tl_9, tl_10, tl_11, tl_12, tl_13, tl_99] at t1 t2 ⊢) <;> omega))) (by rw [t2]; rfl)) rfl rfl rfl) dX8_count_58
    · by_cases t3 : what = 2
      · refine WM.topi (y := 2) t3 ?_
        refine x_tableIn C (tgt := 52) dX8_count_1 (by decide) (by decide) rfl (by decide) ?_
        refine WM.to (lv1 := [(0, .ref (xad E (81))), (1, .int (2))]) ?_ rfl rfl (by rw [t3]) rfl
        refine x_aload_n C 0 dX8_count_52 rfl rfl ?_
        refine x_get C (Nat.le_of_ble_eq_true rfl) xd_81 fl_X8_9 (q := (0, 82, 0)) (v := .ref (xad E (82))) rfl rfl dX8_count_53 ?_
        refine x_iload_n C 1 dX8_count_56 rfl rfl ?_
        refine x_ald C (Nat.le_of_ble_eq_true rfl) xd_82 (v := σ 10 2) (vp_in_nI (show 2 < 284 by omega) (by decide)) (by rw [(show (2 : Int32).toNatClampNeg = 2 from by decide), Nat.zero_add, Nat.one_mul]) dX8_count_57 ?_
        exact x_oret C (mpost_of (V := mv σ) (Eq.trans (if_pos (by first | assumption | ((try simp only [rng, mayQ, tI_lt, tI_eq, cvr_0, mvr_0, cvr_c, mvr_c, tl_0, tl_1, tl_2, tl_3, tl_4, tl_5, tl_6, tl_7, tl_8, tl_9, tl_10, tl_11, tl_12, tl_13, tl_99] at t1 t2 t3 ⊢) <;> omega))) (by rw [t3]; rfl)) rfl rfl rfl) dX8_count_58
      · by_cases t4 : what = 3
        · refine WM.topi (y := 3) t4 ?_
          refine x_tableIn C (tgt := 52) dX8_count_1 (by decide) (by decide) rfl (by decide) ?_
          refine WM.to (lv1 := [(0, .ref (xad E (81))), (1, .int (3))]) ?_ rfl rfl (by rw [t4]) rfl
          refine x_aload_n C 0 dX8_count_52 rfl rfl ?_
          refine x_get C (Nat.le_of_ble_eq_true rfl) xd_81 fl_X8_9 (q := (0, 82, 0)) (v := .ref (xad E (82))) rfl rfl dX8_count_53 ?_
          refine x_iload_n C 1 dX8_count_56 rfl rfl ?_
          refine x_ald C (Nat.le_of_ble_eq_true rfl) xd_82 (v := σ 10 3) (vp_in_nI (show 3 < 284 by omega) (by decide)) (by rw [(show (3 : Int32).toNatClampNeg = 3 from by decide), Nat.zero_add, Nat.one_mul]) dX8_count_57 ?_
          exact x_oret C (mpost_of (V := mv σ) (Eq.trans (if_pos (by first | assumption | ((try simp only [rng, mayQ, tI_lt, tI_eq, cvr_0, mvr_0, cvr_c, mvr_c, tl_0, tl_1, tl_2, tl_3, tl_4, tl_5, tl_6, tl_7, tl_8, tl_9, tl_10, tl_11, tl_12, tl_13, tl_99] at t1 t2 t3 t4 ⊢) <;> omega))) (by rw [t4]; rfl)) rfl rfl rfl) dX8_count_58
        · by_cases t5 : what = 4
          · refine WM.topi (y := 4) t5 ?_
            refine x_tableIn C (tgt := 59) dX8_count_1 (by decide) (by decide) rfl (by decide) ?_
            refine x_aload_n C 0 dX8_count_59 rfl rfl ?_
            refine x_callVi C (As := []) (rest := []) (c_mlogged l E σ τ ) kv_X8_119 (x_recv C (Nat.le_of_ble_eq_true rfl) xd_81 rfl) ⟨Nat.le_of_ble_eq_true rfl, Nat.le_of_ble_eq_true rfl⟩ rfl rfl (Nat.le_of_ble_eq_true rfl) dX8_count_60 ?_
            exact x_oret C (mpost_of (V := mv σ) (Eq.trans (if_neg (by first | assumption | ((try simp only [rng, mayQ, tI_lt, tI_eq, cvr_0, mvr_0, cvr_c, mvr_c, tl_0, tl_1, tl_2, tl_3, tl_4, tl_5, tl_6, tl_7, tl_8, tl_9, tl_10, tl_11, tl_12, tl_13, tl_99] at t1 t2 t3 t4 t5 ⊢) <;> omega))) (if_pos (by first | assumption | ((try simp only [rng, mayQ, tI_lt, tI_eq, cvr_0, mvr_0, cvr_c, mvr_c, tl_0, tl_1, tl_2, tl_3, tl_4, tl_5, tl_6, tl_7, tl_8, tl_9, tl_10, tl_11, tl_12, tl_13, tl_99] at t1 t2 t3 t4 t5 ⊢) <;> omega)))) rfl rfl rfl) dX8_count_63
          · by_cases t6 : what = 5
            · refine WM.topi (y := 5) t6 ?_
              refine x_tableIn C (tgt := 64) dX8_count_1 (by decide) (by decide) rfl (by decide) ?_
              refine x_aload_n C 0 dX8_count_64 rfl rfl ?_
              refine x_get C (Nat.le_of_ble_eq_true rfl) xd_81 fl_X8_9 (q := (0, 82, 0)) (v := .ref (xad E (82))) rfl rfl dX8_count_65 ?_
              refine x_bipush C (v := 10) dX8_count_68 (by decide) ?_
              refine x_ald C (Nat.le_of_ble_eq_true rfl) xd_82 (v := σ 10 10) (vp_in_nI (show 10 < 284 by omega) (by decide)) (by rw [(show (10 : Int32).toNatClampNeg = 10 from by decide), Nat.zero_add, Nat.one_mul]) dX8_count_70 ?_
              exact x_oret C (mpost_of (V := mv σ) (Eq.trans (if_neg (by first | assumption | ((try simp only [rng, mayQ, tI_lt, tI_eq, cvr_0, mvr_0, cvr_c, mvr_c, tl_0, tl_1, tl_2, tl_3, tl_4, tl_5, tl_6, tl_7, tl_8, tl_9, tl_10, tl_11, tl_12, tl_13, tl_99] at t1 t2 t3 t4 t5 t6 ⊢) <;> omega))) (Eq.trans (if_neg (by first | assumption | ((try simp only [rng, mayQ, tI_lt, tI_eq, cvr_0, mvr_0, cvr_c, mvr_c, tl_0, tl_1, tl_2, tl_3, tl_4, tl_5, tl_6, tl_7, tl_8, tl_9, tl_10, tl_11, tl_12, tl_13, tl_99] at t1 t2 t3 t4 t5 t6 ⊢) <;> omega))) (if_pos (by first | assumption | ((try simp only [rng, mayQ, tI_lt, tI_eq, cvr_0, mvr_0, cvr_c, mvr_c, tl_0, tl_1, tl_2, tl_3, tl_4, tl_5, tl_6, tl_7, tl_8, tl_9, tl_10, tl_11, tl_12, tl_13, tl_99] at t1 t2 t3 t4 t5 t6 ⊢) <;> omega))))) rfl rfl rfl) dX8_count_71
            · by_cases t7 : what = 6
              · refine WM.topi (y := 6) t7 ?_
                refine x_tableIn C (tgt := 72) dX8_count_1 (by decide) (by decide) rfl (by decide) ?_
                refine x_aload_n C 0 dX8_count_72 rfl rfl ?_
                refine x_get C (Nat.le_of_ble_eq_true rfl) xd_81 fl_X8_9 (q := (0, 82, 0)) (v := .ref (xad E (82))) rfl rfl dX8_count_73 ?_
                refine x_bipush C (v := 13) dX8_count_76 (by decide) ?_
                refine x_ald C (Nat.le_of_ble_eq_true rfl) xd_82 (v := σ 10 13) (vp_in_nI (show 13 < 284 by omega) (by decide)) (by rw [(show (13 : Int32).toNatClampNeg = 13 from by decide), Nat.zero_add, Nat.one_mul]) dX8_count_78 ?_
                exact x_oret C (mpost_of (V := mv σ) (Eq.trans (if_neg (by first | assumption | ((try simp only [rng, mayQ, tI_lt, tI_eq, cvr_0, mvr_0, cvr_c, mvr_c, tl_0, tl_1, tl_2, tl_3, tl_4, tl_5, tl_6, tl_7, tl_8, tl_9, tl_10, tl_11, tl_12, tl_13, tl_99] at t1 t2 t3 t4 t5 t6 t7 ⊢) <;> omega))) (Eq.trans (if_neg (by first | assumption | ((try simp only [rng, mayQ, tI_lt, tI_eq, cvr_0, mvr_0, cvr_c, mvr_c, tl_0, tl_1, tl_2, tl_3, tl_4, tl_5, tl_6, tl_7, tl_8, tl_9, tl_10, tl_11, tl_12, tl_13, tl_99] at t1 t2 t3 t4 t5 t6 t7 ⊢) <;> omega))) (Eq.trans (if_neg (by first | assumption | ((try simp only [rng, mayQ, tI_lt, tI_eq, cvr_0, mvr_0, cvr_c, mvr_c, tl_0, tl_1, tl_2, tl_3, tl_4, tl_5, tl_6, tl_7, tl_8, tl_9, tl_10, tl_11, tl_12, tl_13, tl_99] at t1 t2 t3 t4 t5 t6 t7 ⊢) <;> omega))) (if_pos (by first | assumption | ((try simp only [rng, mayQ, tI_lt, tI_eq, cvr_0, mvr_0, cvr_c, mvr_c, tl_0, tl_1, tl_2, tl_3, tl_4, tl_5, tl_6, tl_7, tl_8, tl_9, tl_10, tl_11, tl_12, tl_13, tl_99] at t1 t2 t3 t4 t5 t6 t7 ⊢) <;> omega)))))) rfl rfl rfl) dX8_count_79
              · by_cases t8 : what = 7
                · refine WM.topi (y := 7) t8 ?_
                  refine x_tableIn C (tgt := 80) dX8_count_1 (by decide) (by decide) rfl (by decide) ?_
                  refine x_aload_n C 0 dX8_count_80 rfl rfl ?_
                  refine x_get C (Nat.le_of_ble_eq_true rfl) xd_81 fl_X8_129 (q := (1, 17, 1)) (v := .int (σ 17 1)) rfl rfl dX8_count_81 ?_
                  exact x_oret C (mpost_of (V := mv σ) (Eq.trans (if_neg (by first | assumption | ((try simp only [rng, mayQ, tI_lt, tI_eq, cvr_0, mvr_0, cvr_c, mvr_c, tl_0, tl_1, tl_2, tl_3, tl_4, tl_5, tl_6, tl_7, tl_8, tl_9, tl_10, tl_11, tl_12, tl_13, tl_99] at t1 t2 t3 t4 t5 t6 t7 t8 ⊢) <;> omega))) (Eq.trans (if_neg (by first | assumption | ((try simp only [rng, mayQ, tI_lt, tI_eq, cvr_0, mvr_0, cvr_c, mvr_c, tl_0, tl_1, tl_2, tl_3, tl_4, tl_5, tl_6, tl_7, tl_8, tl_9, tl_10, tl_11, tl_12, tl_13, tl_99] at t1 t2 t3 t4 t5 t6 t7 t8 ⊢) <;> omega))) (Eq.trans (if_neg (by first | assumption | ((try simp only [rng, mayQ, tI_lt, tI_eq, cvr_0, mvr_0, cvr_c, mvr_c, tl_0, tl_1, tl_2, tl_3, tl_4, tl_5, tl_6, tl_7, tl_8, tl_9, tl_10, tl_11, tl_12, tl_13, tl_99] at t1 t2 t3 t4 t5 t6 t7 t8 ⊢) <;> omega))) (Eq.trans (if_neg (by first | assumption | ((try simp only [rng, mayQ, tI_lt, tI_eq, cvr_0, mvr_0, cvr_c, mvr_c, tl_0, tl_1, tl_2, tl_3, tl_4, tl_5, tl_6, tl_7, tl_8, tl_9, tl_10, tl_11, tl_12, tl_13, tl_99] at t1 t2 t3 t4 t5 t6 t7 t8 ⊢) <;> omega))) (if_pos (by first | assumption | ((try simp only [rng, mayQ, tI_lt, tI_eq, cvr_0, mvr_0, cvr_c, mvr_c, tl_0, tl_1, tl_2, tl_3, tl_4, tl_5, tl_6, tl_7, tl_8, tl_9, tl_10, tl_11, tl_12, tl_13, tl_99] at t1 t2 t3 t4 t5 t6 t7 t8 ⊢) <;> omega))))))) rfl rfl rfl) dX8_count_84
                · by_cases t9 : what = 8
                  · refine WM.topi (y := 8) t9 ?_
                    refine x_tableIn C (tgt := 85) dX8_count_1 (by decide) (by decide) rfl (by decide) ?_
                    refine x_aload_n C 0 dX8_count_85 rfl rfl ?_
                    refine x_get C (Nat.le_of_ble_eq_true rfl) xd_81 fl_X8_9 (q := (0, 82, 0)) (v := .ref (xad E (82))) rfl rfl dX8_count_86 ?_
                    refine x_bipush C (v := 12) dX8_count_89 (by decide) ?_
                    refine x_ald C (Nat.le_of_ble_eq_true rfl) xd_82 (v := σ 10 12) (vp_in_nI (show 12 < 284 by omega) (by decide)) (by rw [(show (12 : Int32).toNatClampNeg = 12 from by decide), Nat.zero_add, Nat.one_mul]) dX8_count_91 ?_
                    exact x_oret C (mpost_of (V := mv σ) (Eq.trans (if_neg (by first | assumption | ((try simp only [rng, mayQ, tI_lt, tI_eq, cvr_0, mvr_0, cvr_c, mvr_c, tl_0, tl_1, tl_2, tl_3, tl_4, tl_5, tl_6, tl_7, tl_8, tl_9, tl_10, tl_11, tl_12, tl_13, tl_99] at t1 t2 t3 t4 t5 t6 t7 t8 t9 ⊢) <;> omega))) (Eq.trans (if_neg (by first | assumption | ((try simp only [rng, mayQ, tI_lt, tI_eq, cvr_0, mvr_0, cvr_c, mvr_c, tl_0, tl_1, tl_2, tl_3, tl_4, tl_5, tl_6, tl_7, tl_8, tl_9, tl_10, tl_11, tl_12, tl_13, tl_99] at t1 t2 t3 t4 t5 t6 t7 t8 t9 ⊢) <;> omega))) (Eq.trans (if_neg (by first | assumption | ((try simp only [rng, mayQ, tI_lt, tI_eq, cvr_0, mvr_0, cvr_c, mvr_c, tl_0, tl_1, tl_2, tl_3, tl_4, tl_5, tl_6, tl_7, tl_8, tl_9, tl_10, tl_11, tl_12, tl_13, tl_99] at t1 t2 t3 t4 t5 t6 t7 t8 t9 ⊢) <;> omega))) (Eq.trans (if_neg (by first | assumption | ((try simp only [rng, mayQ, tI_lt, tI_eq, cvr_0, mvr_0, cvr_c, mvr_c, tl_0, tl_1, tl_2, tl_3, tl_4, tl_5, tl_6, tl_7, tl_8, tl_9, tl_10, tl_11, tl_12, tl_13, tl_99] at t1 t2 t3 t4 t5 t6 t7 t8 t9 ⊢) <;> omega))) (Eq.trans (if_neg (by first | assumption | ((try simp only [rng, mayQ, tI_lt, tI_eq, cvr_0, mvr_0, cvr_c, mvr_c, tl_0, tl_1, tl_2, tl_3, tl_4, tl_5, tl_6, tl_7, tl_8, tl_9, tl_10, tl_11, tl_12, tl_13, tl_99] at t1 t2 t3 t4 t5 t6 t7 t8 t9 ⊢) <;> omega))) (if_pos (by first | assumption | ((try simp only [rng, mayQ, tI_lt, tI_eq, cvr_0, mvr_0, cvr_c, mvr_c, tl_0, tl_1, tl_2, tl_3, tl_4, tl_5, tl_6, tl_7, tl_8, tl_9, tl_10, tl_11, tl_12, tl_13, tl_99] at t1 t2 t3 t4 t5 t6 t7 t8 t9 ⊢) <;> omega)))))))) rfl rfl rfl) dX8_count_92
                  · refine x_tableOut C (tgt := 93) dX8_count_1 (by rw [tI_eq, show (0 : Int32).toInt = 0 from by decide] at t1; rw [tI_eq, show (1 : Int32).toInt = 1 from by decide] at t2; rw [tI_eq, show (2 : Int32).toInt = 2 from by decide] at t3; rw [tI_eq, show (3 : Int32).toInt = 3 from by decide] at t4; rw [tI_eq, show (4 : Int32).toInt = 4 from by decide] at t5; rw [tI_eq, show (5 : Int32).toInt = 5 from by decide] at t6; rw [tI_eq, show (6 : Int32).toInt = 6 from by decide] at t7; rw [tI_eq, show (7 : Int32).toInt = 7 from by decide] at t8; rw [tI_eq, show (8 : Int32).toInt = 8 from by decide] at t9; first | omega) (by decide) ?_
                    refine x_aload_n C 0 dX8_count_93 rfl rfl ?_
                    refine x_ldc C dX8_count_94 kc_X8_46 ?_
                    refine x_callVi C (As := [.int ((-1000001))]) (rest := []) (c_finds l E σ τ 0 (by decide) (-1000001) (by decide)) kv_X8_61 (x_recv C (Nat.le_of_ble_eq_true rfl) xd_81 rfl) ⟨Nat.le_of_ble_eq_true rfl, Nat.le_of_ble_eq_true rfl⟩ rfl rfl (Nat.le_of_ble_eq_true rfl) dX8_count_96 ?_
                    exact x_oret C (mpost_of (V := u2 (mv σ) 2 0 (σ 14 0 + 1)) (Eq.trans (if_neg (by first | assumption | ((try simp only [rng, mayQ, tI_lt, tI_eq, cvr_0, mvr_0, cvr_c, mvr_c, tl_0, tl_1, tl_2, tl_3, tl_4, tl_5, tl_6, tl_7, tl_8, tl_9, tl_10, tl_11, tl_12, tl_13, tl_99] at t1 t2 t3 t4 t5 t6 t7 t8 t9 ⊢) <;> omega))) (Eq.trans (if_neg (by first | assumption | ((try simp only [rng, mayQ, tI_lt, tI_eq, cvr_0, mvr_0, cvr_c, mvr_c, tl_0, tl_1, tl_2, tl_3, tl_4, tl_5, tl_6, tl_7, tl_8, tl_9, tl_10, tl_11, tl_12, tl_13, tl_99] at t1 t2 t3 t4 t5 t6 t7 t8 t9 ⊢) <;> omega))) (Eq.trans (if_neg (by first | assumption | ((try simp only [rng, mayQ, tI_lt, tI_eq, cvr_0, mvr_0, cvr_c, mvr_c, tl_0, tl_1, tl_2, tl_3, tl_4, tl_5, tl_6, tl_7, tl_8, tl_9, tl_10, tl_11, tl_12, tl_13, tl_99] at t1 t2 t3 t4 t5 t6 t7 t8 t9 ⊢) <;> omega))) (Eq.trans (if_neg (by first | assumption | ((try simp only [rng, mayQ, tI_lt, tI_eq, cvr_0, mvr_0, cvr_c, mvr_c, tl_0, tl_1, tl_2, tl_3, tl_4, tl_5, tl_6, tl_7, tl_8, tl_9, tl_10, tl_11, tl_12, tl_13, tl_99] at t1 t2 t3 t4 t5 t6 t7 t8 t9 ⊢) <;> omega))) (Eq.trans (if_neg (by first | assumption | ((try simp only [rng, mayQ, tI_lt, tI_eq, cvr_0, mvr_0, cvr_c, mvr_c, tl_0, tl_1, tl_2, tl_3, tl_4, tl_5, tl_6, tl_7, tl_8, tl_9, tl_10, tl_11, tl_12, tl_13, tl_99] at t1 t2 t3 t4 t5 t6 t7 t8 t9 ⊢) <;> omega))) (if_neg (by first | assumption | ((try simp only [rng, mayQ, tI_lt, tI_eq, cvr_0, mvr_0, cvr_c, mvr_c, tl_0, tl_1, tl_2, tl_3, tl_4, tl_5, tl_6, tl_7, tl_8, tl_9, tl_10, tl_11, tl_12, tl_13, tl_99] at t1 t2 t3 t4 t5 t6 t7 t8 t9 ⊢) <;> omega)))))))) (by rw [mv_u14]) (by rw [cv_u14]) rfl) dX8_count_99
set_option maxHeartbeats 4000000 in
set_option maxRecDepth 100000 in
theorem k_status (l : Launch) (E : xE) (σ : Nat → Nat → Int32) (τ : Nat → Int64) (T : Nat) (hT : T < 1073741824) (which : Int32) (hI : Inv (cv σ) T) : xOi l yX7_status cX7_status 2 .int 2 44 E [.ref (xad E (0)), .int (which)] σ τ (cpost (sp_status which (cv σ)) σ) := by
  refine xOi_of (own := RX7) (by decide +kernel) rfl (Nat.le_of_ble_eq_true rfl) ?_
  intro zp ze zs zm za zb zh zc C
  refine WM.to (lv1 := [(0, .ref (xad E (0))), (1, .int (which))]) (st1 := []) (σ1 := σ) (τ1 := τ) ?_ rfl rfl rfl rfl
  have hg : gI (σ 0) := hI.g
  have hgT : gT (σ 0) T := hI.t
  have h0 : 0 ≤ (σ 0 10).toInt := hI.h0
  refine x_iload_n C 1 dX7_status_0 rfl rfl ?_
  refine x_iconst C (v := -1) dX7_status_1 (by decide) ?_
  refine x_icmp_ne C (tgt := 10) dX7_status_2 (by decide) (fun h1 => ?_) (fun h1 => ?_)
  · refine x_iload_n C 1 dX7_status_10 rfl rfl ?_
    refine x_iconst C (v := 0) dX7_status_11 (by decide) ?_
    refine x_bipush C (v := 6) dX7_status_12 (by decide) ?_
    refine x_callSi C (As := [.int (which), .int (0), .int (6)]) (rest := []) (c_within l E σ τ which 0 6) ks_X7_59 ⟨Nat.le_of_ble_eq_true rfl, Nat.le_of_ble_eq_true rfl⟩ rfl rfl (Nat.le_of_ble_eq_true rfl) dX7_status_14 ?_
    refine x_ifneB C (tgt := 27) dX7_status_17 (by decide) (fun h2 => ?_) (fun h2 => ?_)
    · obtain ⟨q, hqa, hqb, rfl⟩ := rngN (a := 0) (b := 6) h2 (by decide) (by decide) (by decide)
      refine x_aload_n C 0 dX7_status_27 rfl rfl ?_
      refine x_get C (Nat.le_of_ble_eq_true rfl) xd_0 fl_X7_54 (q := (0, 72, 0)) (v := .ref (xad E (72))) rfl rfl dX7_status_28 ?_
      refine x_iload_n C 1 dX7_status_31 rfl rfl ?_
      refine x_ald C (Nat.le_of_ble_eq_true rfl) xd_72 (v := σ 4 q) (vp_in_nI (show q < 7 by omega) (by decide)) (by rw [(nI_clamp (show q < 2 ^ 31 by omega)), Nat.zero_add, Nat.one_mul]) dX7_status_32 ?_
      exact x_oret C (cpost_of (V := cv σ) (Eq.trans (if_neg (by simp only [tI_eq, tn_1, nI_toInt (show q < 2 ^ 31 by omega)] <;> omega)) (Eq.trans (if_pos (by assumption)) (by rw [nI_clamp (by omega)]; rfl))) rfl rfl rfl) dX7_status_33
    · refine x_aload_n C 0 dX7_status_20 rfl rfl ?_
      refine x_ldc C dX7_status_21 kc_X7_63 ?_
      refine x_callVi C (As := [.int ((-1000001))]) (rest := []) (c_finding l E σ τ 0 (by decide) (-1000001) (by decide)) kv_X7_64 (x_recv C (Nat.le_of_ble_eq_true rfl) xd_0 rfl) ⟨Nat.le_of_ble_eq_true rfl, Nat.le_of_ble_eq_true rfl⟩ rfl rfl (Nat.le_of_ble_eq_true rfl) dX7_status_23 ?_
      exact x_oret C (cpost_of (V := u2 (cv σ) 2 0 (σ 4 0 + 1)) (Eq.trans (if_neg (by first | assumption | ((try simp only [rng, mayQ, tI_lt, tI_eq, cvr_0, mvr_0, cvr_c, mvr_c, tl_0, tl_1, tl_2, tl_3, tl_4, tl_5, tl_6, tl_7, tl_8, tl_9, tl_10, tl_11, tl_12, tl_13, tl_99, tn_1] at h1 h2 ⊢) <;> omega))) (if_neg (by first | assumption | ((try simp only [rng, mayQ, tI_lt, tI_eq, cvr_0, mvr_0, cvr_c, mvr_c, tl_0, tl_1, tl_2, tl_3, tl_4, tl_5, tl_6, tl_7, tl_8, tl_9, tl_10, tl_11, tl_12, tl_13, tl_99, tn_1] at h1 h2 ⊢) <;> omega)))) (by rw [cv_u4]) (by rw [mv_u4]) rfl) dX7_status_26
  · refine x_aload_n C 0 dX7_status_5 rfl rfl ?_
    refine x_callVi C (As := []) (rest := []) (c_findAll l E σ τ ) kv_X7_296 (x_recv C (Nat.le_of_ble_eq_true rfl) xd_0 rfl) ⟨Nat.le_of_ble_eq_true rfl, Nat.le_of_ble_eq_true rfl⟩ rfl rfl (Nat.le_of_ble_eq_true rfl) dX7_status_6 ?_
    exact x_oret C (cpost_of (V := cv σ) (if_pos (by assumption)) rfl rfl rfl) dX7_status_9
set_option maxHeartbeats 4000000 in
set_option maxRecDepth 100000 in
theorem m_status (l : Launch) (E : xE) (σ : Nat → Nat → Int32) (τ : Nat → Int64) (T : Nat) (hT : T < 1073741824) (which : Int32) (hI : Inv (mv σ) T) (hlv : ∀ j, j < 12 → σ 15 j = (xzl 1).getD j 0) : xOi l yX8_status cX8_status 4 .int 1 25 E [.ref (xad E (81)), .int (which)] σ τ (mpost (sp_status which (mv σ)) σ) := by
  refine xOi_of (own := RX8) (by decide +kernel) rfl (Nat.le_of_ble_eq_true rfl) ?_
  intro zp ze zs zm za zb zh zc C
  refine WM.to (lv1 := [(0, .ref (xad E (81))), (1, .int (which))]) (st1 := []) (σ1 := σ) (τ1 := τ) ?_ rfl rfl rfl rfl
  have hg : gI (σ 10) := hI.g
  have hgT : gT (σ 10) T := hI.t
  have h0 : 0 ≤ (σ 10 10).toInt := hI.h0
  refine x_iload_n C 1 dX8_status_0 rfl rfl ?_
  refine x_i2l C dX8_status_1 ?_
  refine x_ldc2 C dX8_status_2 kc_X8_159 ?_
  refine x_ldc2 C dX8_status_5 kc_X8_69 ?_
  refine x_callSi C (As := [.long (Int32.toInt64 which), .long ((-1)), .long (6)]) (rest := []) (c_in l E σ τ (Int32.toInt64 which) (-1) 6) ks_X8_49 ⟨Nat.le_of_ble_eq_true rfl, Nat.le_of_ble_eq_true rfl⟩ rfl rfl (Nat.le_of_ble_eq_true rfl) dX8_status_8 ?_
  refine WM.topi (y := if rng which (-1) 6 then 1 else 0) (in_eq which (-1) 6 (by decide) (by decide)) ?_
  refine x_ifneB C (tgt := 21) dX8_status_11 (by decide) (fun h1 => ?_) (fun h1 => ?_)
  · have hst := h1
    refine x_iconst C (v := 0) dX8_status_21 (by decide) ?_
    refine x_istore_n C (lv1 := [(2, .int (0)), (0, .ref (xad E (81))), (1, .int (which))]) dX8_status_22 rfl (by decide) rfl ?_
    refine x_iconst C (v := 0) dX8_status_23 (by decide) ?_
    refine x_istore_n C (lv1 := [(3, .int (0)), (2, .int (0)), (0, .ref (xad E (81))), (1, .int (which))]) dX8_status_24 rfl (by decide) rfl ?_
    have loop : ∀ (j k : Nat), j + k = 7 → WM zp l ze { frames := 1, cells := 0, slots := 0, locals := 25 } zs zm za zb zh zc 0 0 (MQ zb (va_Qi (fun r (u : xV × (Nat → Int64)) => (mpost (sp_status which (mv σ)) σ) r u.1) (fun u t => xP E u.1 u.2 t.heap) (xA E)) za zs 0 0 (xA E)) E (xA E) 4 (σ) (τ) 25 [(0, .ref (xad E (81))), (1, .int (which)), (2, .int (statK (σ 14) which k)), (3, .int (nI k))] [] := by
      intro j
      induction j with
      | zero =>
        intro k hk
        refine x_iload_n C 3 dX8_status_25 rfl rfl ?_
        refine x_bipush C (v := 7) dX8_status_26 (by decide) ?_
        refine x_icmp_ge C (tgt := 60) dX8_status_28 (by decide) (fun h2 => ?_) (fun h2 => absurd h2 (nI_nlt (a := k) (b := 7) (by omega) (by omega)))
        refine x_iload_n C 2 dX8_status_60 rfl rfl ?_
        exact x_oret C (mpost_of (V := mv σ) (by rw [show k = 7 by omega]; exact stat_eq hst) rfl rfl rfl) dX8_status_61
      | succ j ih =>
        intro k hk
        refine x_iload_n C 3 dX8_status_25 rfl rfl ?_
        refine x_bipush C (v := 7) dX8_status_26 (by decide) ?_
        refine x_icmp_ge C (tgt := 60) dX8_status_28 (by decide) (fun h3 => absurd (nI_lt (a := k) (b := 7) (by omega) (by omega)) h3) (fun h3 => ?_)
        refine x_iload_n C 2 dX8_status_31 rfl rfl ?_
        refine x_iload_n C 1 dX8_status_32 rfl rfl ?_
        refine x_iconst C (v := -1) dX8_status_33 (by decide) ?_
        refine x_icmp_eq C (tgt := 42) dX8_status_34 (by decide) (fun h4 => ?_) (fun h4 => ?_)
        · refine x_aload_n C 0 dX8_status_42 rfl rfl ?_
          refine x_get C (Nat.le_of_ble_eq_true rfl) xd_81 fl_X8_22 (q := (0, 86, 0)) (v := .ref (xad E (86))) rfl rfl dX8_status_43 ?_
          refine x_iload_n C 3 dX8_status_46 rfl rfl ?_
          refine x_ald C (Nat.le_of_ble_eq_true rfl) xd_86 (v := σ 14 k) (vp_in_nI (show k < 7 by omega) (by decide)) (by rw [(nI_clamp (show k < 2 ^ 31 by omega)), Nat.zero_add, Nat.one_mul]) dX8_status_47 ?_
          refine x_goto2 C (tgt := 52) dX8_status_48 (by decide) ?_
          refine x_iadd C dX8_status_52 ?_
          refine x_istore_n C (lv1 := [(2, .int ((statK (σ 14) which k) + (σ 14 k))), (0, .ref (xad E (81))), (1, .int (which)), (3, .int (nI k))]) dX8_status_53 rfl (by decide) rfl ?_
          refine x_iinc C (v := nI (k + 1)) (lv1 := [(3, .int (nI (k + 1))), (2, .int ((statK (σ 14) which k) + (σ 14 k))), (0, .ref (xad E (81))), (1, .int (which))]) 3 dX8_status_54 rfl (nI_add k 1) (by decide) rfl ?_
          refine x_goto2 C (tgt := 25) dX8_status_57 (by decide) ?_
          refine WM.keep [2, 3, 1, 0] (lv' := [(0, .ref (xad E (81))), (1, .int (which)), (2, .int ((statK (σ 14) which k) + (σ 14 k))), (3, .int (nI (k + 1)))]) rfl ?_
          exact WM.to (ih (k + 1) (by omega)) rfl rfl (by rw [show statK (σ 14) which (k + 1) = statK (σ 14) which k + σ 14 k from if_pos (Or.inl h4)]) rfl
        · refine x_iload_n C 1 dX8_status_37 rfl rfl ?_
          refine x_iload_n C 3 dX8_status_38 rfl rfl ?_
          refine x_icmp_ne C (tgt := 51) dX8_status_39 (by decide) (fun h5 => ?_) (fun h5 => ?_)
          · refine x_iconst C (v := 0) dX8_status_51 (by decide) ?_
            refine x_iadd C dX8_status_52 ?_
            refine x_istore_n C (lv1 := [(2, .int ((statK (σ 14) which k) + 0)), (0, .ref (xad E (81))), (1, .int (which)), (3, .int (nI k))]) dX8_status_53 rfl (by decide) rfl ?_
            refine x_iinc C (v := nI (k + 1)) (lv1 := [(3, .int (nI (k + 1))), (2, .int ((statK (σ 14) which k) + 0)), (0, .ref (xad E (81))), (1, .int (which))]) 3 dX8_status_54 rfl (nI_add k 1) (by decide) rfl ?_
            refine x_goto2 C (tgt := 25) dX8_status_57 (by decide) ?_
            refine WM.keep [2, 3, 1, 0] (lv' := [(0, .ref (xad E (81))), (1, .int (which)), (2, .int ((statK (σ 14) which k) + 0)), (3, .int (nI (k + 1)))]) rfl ?_
            exact WM.to (ih (k + 1) (by omega)) rfl rfl (by rw [show statK (σ 14) which (k + 1) = statK (σ 14) which k from if_neg (fun z => z.elim h4 h5), Int32.add_zero]) rfl
          · refine x_aload_n C 0 dX8_status_42 rfl rfl ?_
            refine x_get C (Nat.le_of_ble_eq_true rfl) xd_81 fl_X8_22 (q := (0, 86, 0)) (v := .ref (xad E (86))) rfl rfl dX8_status_43 ?_
            refine x_iload_n C 3 dX8_status_46 rfl rfl ?_
            refine x_ald C (Nat.le_of_ble_eq_true rfl) xd_86 (v := σ 14 k) (vp_in_nI (show k < 7 by omega) (by decide)) (by rw [(nI_clamp (show k < 2 ^ 31 by omega)), Nat.zero_add, Nat.one_mul]) dX8_status_47 ?_
            refine x_goto2 C (tgt := 52) dX8_status_48 (by decide) ?_
            refine x_iadd C dX8_status_52 ?_
            refine x_istore_n C (lv1 := [(2, .int ((statK (σ 14) which k) + (σ 14 k))), (0, .ref (xad E (81))), (1, .int (which)), (3, .int (nI k))]) dX8_status_53 rfl (by decide) rfl ?_
            refine x_iinc C (v := nI (k + 1)) (lv1 := [(3, .int (nI (k + 1))), (2, .int ((statK (σ 14) which k) + (σ 14 k))), (0, .ref (xad E (81))), (1, .int (which))]) 3 dX8_status_54 rfl (nI_add k 1) (by decide) rfl ?_
            refine x_goto2 C (tgt := 25) dX8_status_57 (by decide) ?_
            refine WM.keep [2, 3, 1, 0] (lv' := [(0, .ref (xad E (81))), (1, .int (which)), (2, .int ((statK (σ 14) which k) + (σ 14 k))), (3, .int (nI (k + 1)))]) rfl ?_
            exact WM.to (ih (k + 1) (by omega)) rfl rfl (by rw [show statK (σ 14) which (k + 1) = statK (σ 14) which k + σ 14 k from if_pos (Or.inr h5)]) rfl
    refine WM.keep [2, 3, 1, 0] rfl ?_
    exact WM.to (loop (7) 0 (by omega)) rfl rfl rfl rfl
  · refine x_aload_n C 0 dX8_status_14 rfl rfl ?_
    refine x_ldc C dX8_status_15 kc_X8_46 ?_
    refine x_callVi C (As := [.int ((-1000001))]) (rest := []) (c_finds l E σ τ 0 (by decide) (-1000001) (by decide)) kv_X8_61 (x_recv C (Nat.le_of_ble_eq_true rfl) xd_81 rfl) ⟨Nat.le_of_ble_eq_true rfl, Nat.le_of_ble_eq_true rfl⟩ rfl rfl (Nat.le_of_ble_eq_true rfl) dX8_status_17 ?_
    exact x_oret C (mpost_of (V := u2 (mv σ) 2 0 (σ 14 0 + 1)) (Eq.trans (if_neg (by simp only [rng, tI_lt, tI_eq, tn_1, tl_6] at h1 ⊢ <;> omega)) (if_neg (by simp only [rng, tI_lt, tI_eq, tn_1, tl_0, tl_6] at h1 ⊢ <;> omega))) (by rw [mv_u14]) (by rw [cv_u14]) rfl) dX8_status_20
