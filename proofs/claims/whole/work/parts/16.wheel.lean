/-! LeakCups$Wheel, method by method -/
set_option maxHeartbeats 4000000 in
set_option maxRecDepth 100000 in
theorem cW_placeOf (l : Launch) (E : xE) (σ : Nat → Nat → Int32) (τ : Nat → Int64) (w : Nat) (hw : w < 4) (g : Nat → Int32) (c : Nat) (hc : c < 12) : xMi l yX6_placeOf cX6_placeOf 2 .int 0 0 E [.ref (xad E (wc w)), .int (nI c)] (va_up σ w (g)) (τ) (placeG g c) (va_up σ w (g)) (τ) := by
  refine xMi_of (own := RX6) (by decide +kernel) rfl (Nat.le_of_ble_eq_true rfl) ?_
  intro zp ze zs zm za zb zh zc C
  refine WM.to (lv1 := [(0, .ref (xad E (wc w))), (1, .int (nI c))]) (st1 := []) (σ1 := va_up σ w (g)) (τ1 := τ) ?_ rfl rfl rfl rfl
  refine x_iload_n C 1 dX6_placeOf_0 rfl rfl ?_
  refine x_aload_n C 0 dX6_placeOf_1 rfl rfl ?_
  refine x_get C (by have := wc_lt hw; omega) (wd_0 hw) fl_X6_37 (q := (1, w, 5)) (v := .int (g 5)) rfl (congrArg Value.int (congrFun (va_up_self _ _ _) _)) dX6_placeOf_2 ?_
  refine x_bipush C (v := 100) dX6_placeOf_5 (by decide) ?_
  refine x_idiv C dX6_placeOf_7 (by decide) ?_
  refine x_iadd C dX6_placeOf_8 ?_
  refine x_bipush C (v := 12) dX6_placeOf_9 (by decide) ?_
  refine x_irem C dX6_placeOf_11 (by decide) ?_
  exact x_iret C rfl rfl rfl dX6_placeOf_12
set_option maxHeartbeats 4000000 in
set_option maxRecDepth 100000 in
theorem cW_topCup (l : Launch) (E : xE) (σ : Nat → Nat → Int32) (τ : Nat → Int64) (w : Nat) (hw : w < 4) (g : Nat → Int32)  : xMi l yX6_topCup cX6_topCup 1 .int 0 0 E [.ref (xad E (wc w))] (va_up σ w (g)) (τ) (topG g) (va_up σ w (g)) (τ) := by
  refine xMi_of (own := RX6) (by decide +kernel) rfl (Nat.le_of_ble_eq_true rfl) ?_
  intro zp ze zs zm za zb zh zc C
  refine WM.to (lv1 := [(0, .ref (xad E (wc w)))]) (st1 := []) (σ1 := va_up σ w (g)) (τ1 := τ) ?_ rfl rfl rfl rfl
  refine x_bipush C (v := 12) dX6_topCup_0 (by decide) ?_
  refine x_aload_n C 0 dX6_topCup_2 rfl rfl ?_
  refine x_get C (by have := wc_lt hw; omega) (wd_0 hw) fl_X6_37 (q := (1, w, 5)) (v := .int (g 5)) rfl (congrArg Value.int (congrFun (va_up_self _ _ _) _)) dX6_topCup_3 ?_
  refine x_bipush C (v := 100) dX6_topCup_6 (by decide) ?_
  refine x_idiv C dX6_topCup_8 (by decide) ?_
  refine x_isub C dX6_topCup_9 ?_
  refine x_bipush C (v := 12) dX6_topCup_10 (by decide) ?_
  refine x_irem C dX6_topCup_12 (by decide) ?_
  exact x_iret C rfl rfl rfl dX6_topCup_13
set_option maxHeartbeats 4000000 in
set_option maxRecDepth 100000 in
theorem cW_roomOf (l : Launch) (E : xE) (σ : Nat → Nat → Int32) (τ : Nat → Int64) (w : Nat) (hw : w < 4) (g : Nat → Int32) (c : Nat) (hc : c < 12) (hk : 0 ≤ (g (32 + c)).toInt ∧ (g (32 + c)).toInt ≤ 6) : xMi l yX6_roomOf cX6_roomOf 2 .int 0 0 E [.ref (xad E (wc w)), .int (nI c)] (va_up σ w (g)) (τ) (roomG g c) (va_up σ w (g)) (τ) := by
  refine xMi_of (own := RX6) (by decide +kernel) rfl (Nat.le_of_ble_eq_true rfl) ?_
  intro zp ze zs zm za zb zh zc C
  refine WM.to (lv1 := [(0, .ref (xad E (wc w))), (1, .int (nI c))]) (st1 := []) (σ1 := va_up σ w (g)) (τ1 := τ) ?_ rfl rfl rfl rfl
  refine x_gets C 0 (by decide) fs_X6_64 dX6_roomOf_0 ?_
  refine x_aload_n C 0 dX6_roomOf_3 rfl rfl ?_
  refine x_get C (by have := wc_lt hw; omega) (wd_0 hw) fl_X6_15 (q := (0, wc w + 2, 0)) (v := .ref (xad E (wc w + 2))) rfl rfl dX6_roomOf_4 ?_
  refine x_iload_n C 1 dX6_roomOf_7 rfl rfl ?_
  refine x_ald C (by have := wc_lt hw; omega) (wd_2 hw) (v := g (32 + c)) (vp_in_nI (show c < 12 by omega) (by decide)) (by rw [(nI_clamp (show c < 2 ^ 31 by omega)), Nat.one_mul]; exact (congrFun (va_up_self _ _ _) _)) dX6_roomOf_8 ?_
  refine x_ti C 0 (by decide) (v := roomG g c) (room_in hk) (room_eq hk) dX6_roomOf_9 ?_
  exact x_iret C rfl rfl rfl dX6_roomOf_10
set_option maxHeartbeats 4000000 in
set_option maxRecDepth 100000 in
theorem cW_leakOf (l : Launch) (E : xE) (σ : Nat → Nat → Int32) (τ : Nat → Int64) (w : Nat) (hw : w < 4) (g : Nat → Int32) (c : Nat) (hc : c < 12) (hg : gI g) : xMi l yX6_leakOf cX6_leakOf 5 .int 1 23 E [.ref (xad E (wc w)), .int (nI c)] (va_up σ w (g)) (τ) (leakG g c) (va_up σ w (g)) (τ) := by
  refine xMi_of (own := RX6) (by decide +kernel) rfl (Nat.le_of_ble_eq_true rfl) ?_
  intro zp ze zs zm za zb zh zc C
  refine WM.to (lv1 := [(0, .ref (xad E (wc w))), (1, .int (nI c))]) (st1 := []) (σ1 := va_up σ w (g)) (τ1 := τ) ?_ rfl rfl rfl rfl
  refine x_aload_n C 0 dX6_leakOf_0 rfl rfl ?_
  refine x_get C (by have := wc_lt hw; omega) (wd_0 hw) fl_X6_18 (q := (0, wc w + 3, 0)) (v := .ref (xad E (wc w + 3))) rfl rfl dX6_leakOf_1 ?_
  refine x_iload_n C 1 dX6_leakOf_4 rfl rfl ?_
  refine x_ald C (by have := wc_lt hw; omega) (wd_3 hw) (v := g (20 + c)) (vp_in_nI (show c < 12 by omega) (by decide)) (by rw [(nI_clamp (show c < 2 ^ 31 by omega)), Nat.one_mul]; exact (congrFun (va_up_self _ _ _) _)) dX6_leakOf_5 ?_
  refine x_istore_n C (lv1 := [(2, .int (g (20 + c))), (0, .ref (xad E (wc w))), (1, .int (nI c))]) dX6_leakOf_6 rfl (by decide) rfl ?_
  refine x_iload_n C 0 dX6_leakOf_7 rfl rfl ?_
  refine x_aload_n C 1 dX6_leakOf_8 rfl rfl ?_
  refine x_get C (by have := wc_lt hw; omega) (wd_0 hw) fl_X6_9 (q := (0, wc w + 1, 0)) (v := .ref (xad E (wc w + 1))) rfl rfl dX6_leakOf_9 ?_
  refine x_iconst C (v := 1) dX6_leakOf_12 (by decide) ?_
  refine x_ald C (by have := wc_lt hw; omega) (wd_1 hw) (v := g 1) (vp_in_nI (show 1 < 4 by omega) (by decide)) (by rw [(show (1 : Int32).toNatClampNeg = 1 from by decide), Nat.zero_add, Nat.one_mul]; exact (congrFun (va_up_self _ _ _) _)) dX6_leakOf_13 ?_
  refine x_imul C dX6_leakOf_14 ?_
  refine x_bipush C (v := 100) dX6_leakOf_15 (by decide) ?_
  refine x_idiv C dX6_leakOf_17 (by decide) ?_
  refine WM.topi (y := plainG g c) rfl ?_
  refine x_istore_n C (lv1 := [(3, .int (plainG g c)), (2, .int (g (20 + c))), (0, .ref (xad E (wc w))), (1, .int (nI c))]) dX6_leakOf_18 rfl (by decide) rfl ?_
  refine x_iload_n C 1 dX6_leakOf_19 rfl rfl ?_
  refine x_bipush C (v := 100) dX6_leakOf_20 (by decide) ?_
  refine x_isub C dX6_leakOf_22 ?_
  refine x_iconst C (v := 0) dX6_leakOf_23 (by decide) ?_
  refine x_mmax C km_X6_74 kM_max ⟨Nat.le_of_ble_eq_true rfl, Nat.le_of_ble_eq_true rfl⟩ dX6_leakOf_24 ?_
  refine x_aload_n C 2 dX6_leakOf_27 rfl rfl ?_
  refine x_get C (by have := wc_lt hw; omega) (wd_0 hw) fl_X6_9 (q := (0, wc w + 1, 0)) (v := .ref (xad E (wc w + 1))) rfl rfl dX6_leakOf_28 ?_
  refine x_iconst C (v := 1) dX6_leakOf_31 (by decide) ?_
  refine x_ald C (by have := wc_lt hw; omega) (wd_1 hw) (v := g 1) (vp_in_nI (show 1 < 4 by omega) (by decide)) (by rw [(show (1 : Int32).toNatClampNeg = 1 from by decide), Nat.zero_add, Nat.one_mul]; exact (congrFun (va_up_self _ _ _) _)) dX6_leakOf_32 ?_
  refine x_imul C dX6_leakOf_33 ?_
  refine x_bipush C (v := 100) dX6_leakOf_34 (by decide) ?_
  refine x_idiv C dX6_leakOf_36 (by decide) ?_
  refine WM.topi (y := deepG g c) (deep_eq hg hc) ?_
  refine x_istore C (lv1 := [(4, .int (deepG g c)), (3, .int (plainG g c)), (2, .int (g (20 + c))), (0, .ref (xad E (wc w))), (1, .int (nI c))]) dX6_leakOf_37 (by decide) rfl ?_
  refine x_aload_n C 3 dX6_leakOf_39 rfl rfl ?_
  refine x_get C (by have := wc_lt hw; omega) (wd_0 hw) fl_X6_15 (q := (0, wc w + 2, 0)) (v := .ref (xad E (wc w + 2))) rfl rfl dX6_leakOf_40 ?_
  refine x_iload_n C 4 dX6_leakOf_43 rfl rfl ?_
  refine x_ald C (by have := wc_lt hw; omega) (wd_2 hw) (v := g (32 + c)) (vp_in_nI (show c < 12 by omega) (by decide)) (by rw [(nI_clamp (show c < 2 ^ 31 by omega)), Nat.one_mul]; exact (congrFun (va_up_self _ _ _) _)) dX6_leakOf_44 ?_
  by_cases t1 : g (32 + c) = 1
  · refine WM.topi (y := 1) t1 ?_
    refine x_tableIn C (tgt := 84) dX6_leakOf_45 (by decide) (by decide) rfl (by decide) ?_
    refine x_iconst C (v := 0) dX6_leakOf_84 (by decide) ?_
    exact x_iret C (by simp [leakG, t1]) rfl rfl dX6_leakOf_85
  · by_cases t2 : g (32 + c) = 2
    · refine WM.topi (y := 2) t2 ?_
      refine x_tableIn C (tgt := 86) dX6_leakOf_45 (by decide) (by decide) rfl (by decide) ?_
      refine x_iconst C (v := 2) dX6_leakOf_86 (by decide) ?_
      refine x_iload_n C 1 dX6_leakOf_87 rfl rfl ?_
      refine x_imul C dX6_leakOf_88 ?_
      refine x_iload_n C 2 dX6_leakOf_89 rfl rfl ?_
      refine x_mmin C km_X6_58 kM_min ⟨Nat.le_of_ble_eq_true rfl, Nat.le_of_ble_eq_true rfl⟩ dX6_leakOf_90 ?_
      refine WM.topi (y := twiceG g c) (twice_eq _ _) ?_
      exact x_iret C (by simp [leakG, t1, t2]) rfl rfl dX6_leakOf_93
    · by_cases t3 : g (32 + c) = 3
      · refine WM.topi (y := 3) t3 ?_
        refine x_tableIn C (tgt := 94) dX6_leakOf_45 (by decide) (by decide) rfl (by decide) ?_
        refine x_iload C 0 dX6_leakOf_94 rfl ?_
        exact x_iret C (by simp [leakG, t1, t2, t3]) rfl rfl dX6_leakOf_96
      · by_cases t4 : g (32 + c) = 4
        · refine WM.topi (y := 4) t4 ?_
          refine x_tableIn C (tgt := 86) dX6_leakOf_45 (by decide) (by decide) rfl (by decide) ?_
          refine x_iconst C (v := 2) dX6_leakOf_86 (by decide) ?_
          refine x_iload_n C 1 dX6_leakOf_87 rfl rfl ?_
          refine x_imul C dX6_leakOf_88 ?_
          refine x_iload_n C 2 dX6_leakOf_89 rfl rfl ?_
          refine x_mmin C km_X6_58 kM_min ⟨Nat.le_of_ble_eq_true rfl, Nat.le_of_ble_eq_true rfl⟩ dX6_leakOf_90 ?_
          refine WM.topi (y := twiceG g c) (twice_eq _ _) ?_
          exact x_iret C (by simp [leakG, t1, t2, t3, t4]) rfl rfl dX6_leakOf_93
        · by_cases t5 : g (32 + c) = 5
          · refine WM.topi (y := 5) t5 ?_
            refine x_tableIn C (tgt := 97) dX6_leakOf_45 (by decide) (by decide) rfl (by decide) ?_
            refine x_aload_n C 3 dX6_leakOf_97 rfl rfl ?_
            refine x_iload_n C 4 dX6_leakOf_98 rfl rfl ?_
            refine x_callVi C (As := [.int (nI c)]) (rest := []) (cW_placeOf l E σ τ w hw g c (by omega)) kv_X6_77 (x_recv C (by have := wc_lt hw; omega) (wd_0 hw) rfl) ⟨Nat.le_of_ble_eq_true rfl, Nat.le_of_ble_eq_true rfl⟩ rfl rfl (Nat.le_of_ble_eq_true rfl) dX6_leakOf_99 ?_
            refine x_bipush C (v := 6) dX6_leakOf_102 (by decide) ?_
            refine x_icmp_ne C (tgt := 111) dX6_leakOf_104 (by decide) (fun h6 => ?_) (fun h6 => ?_)
            · refine x_iload C 0 dX6_leakOf_111 rfl ?_
              exact x_iret C (by simp [leakG, t1, t2, t3, t4, t5, h6]) rfl rfl dX6_leakOf_113
            · refine x_iload_n C 2 dX6_leakOf_107 rfl rfl ?_
              refine x_goto2 C (tgt := 113) dX6_leakOf_108 (by decide) ?_
              exact x_iret C (by simp [leakG, t1, t2, t3, t4, t5, h6]) rfl rfl dX6_leakOf_113
          · by_cases t7 : g (32 + c) = 6
            · refine WM.topi (y := 6) t7 ?_
              refine x_tableIn C (tgt := 86) dX6_leakOf_45 (by decide) (by decide) rfl (by decide) ?_
              refine x_iconst C (v := 2) dX6_leakOf_86 (by decide) ?_
              refine x_iload_n C 1 dX6_leakOf_87 rfl rfl ?_
              refine x_imul C dX6_leakOf_88 ?_
              refine x_iload_n C 2 dX6_leakOf_89 rfl rfl ?_
              refine x_mmin C km_X6_58 kM_min ⟨Nat.le_of_ble_eq_true rfl, Nat.le_of_ble_eq_true rfl⟩ dX6_leakOf_90 ?_
              refine WM.topi (y := twiceG g c) (twice_eq _ _) ?_
              exact x_iret C (by simp [leakG, t1, t2, t3, t4, t5, t7]) rfl rfl dX6_leakOf_93
            · refine x_tableOut C (tgt := 114) dX6_leakOf_45 (by rw [tI_eq, show (1 : Int32).toInt = 1 from by decide] at t1; rw [tI_eq, show (2 : Int32).toInt = 2 from by decide] at t2; rw [tI_eq, show (3 : Int32).toInt = 3 from by decide] at t3; rw [tI_eq, show (4 : Int32).toInt = 4 from by decide] at t4; rw [tI_eq, show (5 : Int32).toInt = 5 from by decide] at t5; rw [tI_eq, show (6 : Int32).toInt = 6 from by decide] at t7; first | omega) (by decide) ?_
              refine x_iload_n C 1 dX6_leakOf_114 rfl rfl ?_
              exact x_iret C (by simp [leakG, t1, t2, t3, t4, t5, t7]) rfl rfl dX6_leakOf_115
set_option maxHeartbeats 4000000 in
set_option maxRecDepth 100000 in
theorem cW_waterOfAll (l : Launch) (E : xE) (σ : Nat → Nat → Int32) (τ : Nat → Int64) (w : Nat) (hw : w < 4) (g : Nat → Int32)  : xMi l yX6_waterOfAll cX6_waterOfAll 3 .int 0 0 E [.ref (xad E (wc w))] (va_up σ w (g)) (τ) (waterN g 12) (va_up σ w (g)) (τ) := by
  refine xMi_of (own := RX6) (by decide +kernel) rfl (Nat.le_of_ble_eq_true rfl) ?_
  intro zp ze zs zm za zb zh zc C
  refine WM.to (lv1 := [(0, .ref (xad E (wc w)))]) (st1 := []) (σ1 := va_up σ w (g)) (τ1 := τ) ?_ rfl rfl rfl rfl
  refine x_iconst C (v := 0) dX6_waterOfAll_0 (by decide) ?_
  refine x_istore_n C (lv1 := [(1, .int (0)), (0, .ref (xad E (wc w)))]) dX6_waterOfAll_1 rfl (by decide) rfl ?_
  refine x_iconst C (v := 0) dX6_waterOfAll_2 (by decide) ?_
  refine x_istore_n C (lv1 := [(2, .int (0)), (1, .int (0)), (0, .ref (xad E (wc w)))]) dX6_waterOfAll_3 rfl (by decide) rfl ?_
  have loop : ∀ (j k : Nat), j + k = 12 → WM zp l ze { frames := 0, cells := 0, slots := 0, locals := 0 } zs zm za zb zh zc 0 0 (MQ zb (va_Qi (fun r (_ : Unit) => r = (waterN g 12)) (fun _ t => xP E (va_up σ w (g)) (τ) t.heap) (xA E)) za zs 0 0 (xA E)) E (xA E) 3 (va_up σ w (g)) (τ) 4 [(0, .ref (xad E (wc w))), (1, .int (waterN g k)), (2, .int (nI k))] [] := by
    intro j
    induction j with
    | zero =>
      intro k hk
      refine x_iload_n C 2 dX6_waterOfAll_4 rfl rfl ?_
      refine x_bipush C (v := 12) dX6_waterOfAll_5 (by decide) ?_
      refine x_icmp_ge C (tgt := 25) dX6_waterOfAll_7 (by decide) (fun h1 => ?_) (fun h1 => absurd h1 (nI_nlt (a := k) (b := 12) (by omega) (by omega)))
      refine x_iload_n C 1 dX6_waterOfAll_25 rfl rfl ?_
      exact x_iret C (by rw [show k = 12 by omega]) rfl rfl dX6_waterOfAll_26
    | succ j ih =>
      intro k hk
      refine x_iload_n C 2 dX6_waterOfAll_4 rfl rfl ?_
      refine x_bipush C (v := 12) dX6_waterOfAll_5 (by decide) ?_
      refine x_icmp_ge C (tgt := 25) dX6_waterOfAll_7 (by decide) (fun h2 => absurd (nI_lt (a := k) (b := 12) (by omega) (by omega)) h2) (fun h2 => ?_)
      refine x_iload_n C 1 dX6_waterOfAll_10 rfl rfl ?_
      refine x_aload_n C 0 dX6_waterOfAll_11 rfl rfl ?_
      refine x_get C (by have := wc_lt hw; omega) (wd_0 hw) fl_X6_18 (q := (0, wc w + 3, 0)) (v := .ref (xad E (wc w + 3))) rfl rfl dX6_waterOfAll_12 ?_
      refine x_iload_n C 2 dX6_waterOfAll_15 rfl rfl ?_
      refine x_ald C (by have := wc_lt hw; omega) (wd_3 hw) (v := g (20 + k)) (vp_in_nI (show k < 12 by omega) (by decide)) (by rw [(nI_clamp (show k < 2 ^ 31 by omega)), Nat.one_mul]; exact (congrFun (va_up_self _ _ _) _)) dX6_waterOfAll_16 ?_
      refine x_iadd C dX6_waterOfAll_17 ?_
      refine x_istore_n C (lv1 := [(1, .int ((waterN g k) + (g (20 + k)))), (0, .ref (xad E (wc w))), (2, .int (nI k))]) dX6_waterOfAll_18 rfl (by decide) rfl ?_
      refine x_iinc C (v := nI (k + 1)) (lv1 := [(2, .int (nI (k + 1))), (1, .int ((waterN g k) + (g (20 + k)))), (0, .ref (xad E (wc w)))]) 2 dX6_waterOfAll_19 rfl (nI_add k 1) (by decide) rfl ?_
      refine x_goto2 C (tgt := 4) dX6_waterOfAll_22 (by decide) ?_
      refine WM.keep [2, 1, 0] (lv' := [(0, .ref (xad E (wc w))), (1, .int ((waterN g k) + (g (20 + k)))), (2, .int (nI (k + 1)))]) rfl ?_
      exact WM.to (ih (k + 1) (by omega)) rfl rfl rfl rfl
  refine WM.keep [2, 1, 0] rfl ?_
  exact WM.to (loop (12) 0 (by omega)) rfl rfl rfl rfl
set_option maxHeartbeats 4000000 in
set_option maxRecDepth 100000 in
theorem cW_pull (l : Launch) (E : xE) (σ : Nat → Nat → Int32) (τ : Nat → Int64) (w : Nat) (hw : w < 4) (g : Nat → Int32) (hg : gI g) : xMi l yX6_pull cX6_pull 3 .int 1 21 E [.ref (xad E (wc w))] (va_up σ w (g)) (τ) (pullN g 12) (va_up σ w (g)) (τ) := by
  refine xMi_of (own := RX6) (by decide +kernel) rfl (Nat.le_of_ble_eq_true rfl) ?_
  intro zp ze zs zm za zb zh zc C
  refine WM.to (lv1 := [(0, .ref (xad E (wc w)))]) (st1 := []) (σ1 := va_up σ w (g)) (τ1 := τ) ?_ rfl rfl rfl rfl
  refine x_iconst C (v := 0) dX6_pull_0 (by decide) ?_
  refine x_istore_n C (lv1 := [(1, .int (0)), (0, .ref (xad E (wc w)))]) dX6_pull_1 rfl (by decide) rfl ?_
  refine x_iconst C (v := 0) dX6_pull_2 (by decide) ?_
  refine x_istore_n C (lv1 := [(2, .int (0)), (1, .int (0)), (0, .ref (xad E (wc w)))]) dX6_pull_3 rfl (by decide) rfl ?_
  have loop : ∀ (j k : Nat), j + k = 12 → WM zp l ze { frames := 1, cells := 0, slots := 0, locals := 21 } zs zm za zb zh zc 0 0 (MQ zb (va_Qi (fun r (_ : Unit) => r = (pullN g 12)) (fun _ t => xP E (va_up σ w (g)) (τ) t.heap) (xA E)) za zs 0 0 (xA E)) E (xA E) 3 (va_up σ w (g)) (τ) 4 [(0, .ref (xad E (wc w))), (1, .int (pullN g k)), (2, .int (nI k))] [] := by
    intro j
    induction j with
    | zero =>
      intro k hk
      refine x_iload_n C 2 dX6_pull_4 rfl rfl ?_
      refine x_bipush C (v := 12) dX6_pull_5 (by decide) ?_
      refine x_icmp_ge C (tgt := 35) dX6_pull_7 (by decide) (fun h1 => ?_) (fun h1 => absurd h1 (nI_nlt (a := k) (b := 12) (by omega) (by omega)))
      refine x_iload_n C 1 dX6_pull_35 rfl rfl ?_
      exact x_iret C (by rw [show k = 12 by omega]) rfl rfl dX6_pull_36
    | succ j ih =>
      intro k hk
      refine x_iload_n C 2 dX6_pull_4 rfl rfl ?_
      refine x_bipush C (v := 12) dX6_pull_5 (by decide) ?_
      refine x_icmp_ge C (tgt := 35) dX6_pull_7 (by decide) (fun h2 => absurd (nI_lt (a := k) (b := 12) (by omega) (by omega)) h2) (fun h2 => ?_)
      refine x_iload_n C 1 dX6_pull_10 rfl rfl ?_
      refine x_aload_n C 0 dX6_pull_11 rfl rfl ?_
      refine x_get C (by have := wc_lt hw; omega) (wd_0 hw) fl_X6_18 (q := (0, wc w + 3, 0)) (v := .ref (xad E (wc w + 3))) rfl rfl dX6_pull_12 ?_
      refine x_iload_n C 2 dX6_pull_15 rfl rfl ?_
      refine x_ald C (by have := wc_lt hw; omega) (wd_3 hw) (v := g (20 + k)) (vp_in_nI (show k < 12 by omega) (by decide)) (by rw [(nI_clamp (show k < 2 ^ 31 by omega)), Nat.one_mul]; exact (congrFun (va_up_self _ _ _) _)) dX6_pull_16 ?_
      refine x_gets C 1 (by decide) fs_X6_81 dX6_pull_17 ?_
      refine x_aload_n C 0 dX6_pull_20 rfl rfl ?_
      refine x_iload_n C 2 dX6_pull_21 rfl rfl ?_
      refine x_callVi C (As := [.int (nI k)]) (rest := [.ref (xst E 1), .int (g (20 + k)), .int (pullN g k)]) (cW_placeOf l E σ τ w hw g k (by omega)) kv_X6_77 (x_recv C (by have := wc_lt hw; omega) (wd_0 hw) rfl) ⟨Nat.le_of_ble_eq_true rfl, Nat.le_of_ble_eq_true rfl⟩ rfl rfl (Nat.le_of_ble_eq_true rfl) dX6_pull_22 ?_
      refine x_ti C 1 (by decide) (v := levG (placeG g k)) (place_in hg (by omega)) rfl dX6_pull_25 ?_
      refine x_imul C dX6_pull_26 ?_
      refine x_iadd C dX6_pull_27 ?_
      refine x_istore_n C (lv1 := [(1, .int ((pullN g k) + ((g (20 + k)) * (levG (placeG g k))))), (0, .ref (xad E (wc w))), (2, .int (nI k))]) dX6_pull_28 rfl (by decide) rfl ?_
      refine x_iinc C (v := nI (k + 1)) (lv1 := [(2, .int (nI (k + 1))), (1, .int ((pullN g k) + ((g (20 + k)) * (levG (placeG g k))))), (0, .ref (xad E (wc w)))]) 2 dX6_pull_29 rfl (nI_add k 1) (by decide) rfl ?_
      refine x_goto2 C (tgt := 4) dX6_pull_32 (by decide) ?_
      refine WM.keep [2, 1, 0] (lv' := [(0, .ref (xad E (wc w))), (1, .int ((pullN g k) + ((g (20 + k)) * (levG (placeG g k))))), (2, .int (nI (k + 1)))]) rfl ?_
      exact WM.to (ih (k + 1) (by omega)) rfl rfl rfl rfl
  refine WM.keep [2, 1, 0] rfl ?_
  exact WM.to (loop (12) 0 (by omega)) rfl rfl rfl rfl
set_option maxHeartbeats 4000000 in
set_option maxRecDepth 100000 in
theorem cW_nudge (l : Launch) (E : xE) (σ : Nat → Nat → Int32) (τ : Nat → Int64) (w : Nat) (hw : w < 4) (g : Nat → Int32) (b : Int32) : xMv l yX6_nudge cX6_nudge 2 2 43 E [.ref (xad E (wc w)), .int (b)] (va_up σ w (g)) (τ) (va_up σ w (touchG g b)) (τ) := by
  refine xMv_of (own := RX6) (by decide +kernel) rfl (Nat.le_of_ble_eq_true rfl) ?_
  intro zp ze zs zm za zb zh zc C
  refine WM.to (lv1 := [(0, .ref (xad E (wc w))), (1, .int (b))]) (st1 := []) (σ1 := va_up σ w (g)) (τ1 := τ) ?_ rfl rfl rfl rfl
  refine x_aload_n C 0 dX6_nudge_0 rfl rfl ?_
  refine x_aload_n C 0 dX6_nudge_1 rfl rfl ?_
  refine x_get C (by have := wc_lt hw; omega) (wd_0 hw) fl_X6_33 (q := (1, w, 4)) (v := .int (g 4)) rfl (congrArg Value.int (congrFun (va_up_self _ _ _) _)) dX6_nudge_2 ?_
  refine x_iload_n C 1 dX6_nudge_5 rfl rfl ?_
  refine x_iadd C dX6_nudge_6 ?_
  refine x_callSi C (As := [.int ((g 4) + b)]) (rest := [.ref (xad E (wc w))]) (c_held l E (va_up σ w (g)) τ ((g 4) + b)) ks_X6_84 ⟨Nat.le_of_ble_eq_true rfl, Nat.le_of_ble_eq_true rfl⟩ rfl rfl (Nat.le_of_ble_eq_true rfl) dX6_nudge_7 ?_
  refine x_put C (σ' := va_up σ w (upd g 4 (heldG ((g 4) + b)))) (by have := wc_lt hw; omega) (wd_0 hw) fp_X6_33 rfl rfl rfl (u2_bank _ _ _ _ _) dX6_nudge_10 ?_
  refine x_aload_n C 0 dX6_nudge_13 rfl rfl ?_
  refine x_get C (by have := wc_lt hw; omega) (wd_0 hw) fl_X6_33 (q := (1, w, 4)) (v := .int (heldG ((g 4) + b))) rfl (congrArg Value.int (Eq.trans (congrFun (va_up_self _ _ _) _) (upd_at _ _ _))) dX6_nudge_14 ?_
  refine x_if_eq C (tgt := 32) dX6_nudge_17 (by decide) (fun h1 => ?_) (fun h1 => ?_)
  · exact x_vret C (congrArg (va_up _ _) (touch_A h1)) rfl dX6_nudge_32
  · refine x_aload_n C 0 dX6_nudge_20 rfl rfl ?_
    refine x_aload_n C 0 dX6_nudge_21 rfl rfl ?_
    refine x_get C (by have := wc_lt hw; omega) (wd_0 hw) fl_X6_33 (q := (1, w, 4)) (v := .int (heldG ((g 4) + b))) rfl (congrArg Value.int (Eq.trans (congrFun (va_up_self _ _ _) _) (upd_at _ _ _))) dX6_nudge_22 ?_
    refine x_iconst C (v := 0) dX6_nudge_25 (by decide) ?_
    refine x_callSi C (As := [.int (heldG ((g 4) + b)), .int (0)]) (rest := [.ref (xad E (wc w))]) (c_Icmp l E (va_up σ w (upd g 4 (heldG ((g 4) + b)))) τ (heldG ((g 4) + b)) 0) ks_X6_87 ⟨Nat.le_of_ble_eq_true rfl, Nat.le_of_ble_eq_true rfl⟩ rfl rfl (Nat.le_of_ble_eq_true rfl) dX6_nudge_26 ?_
    refine x_put C (σ' := va_up σ w (upd (upd g 4 (heldG ((g 4) + b))) 6 (cmpI (heldG ((g 4) + b)) 0))) (by have := wc_lt hw; omega) (wd_0 hw) fp_X6_40 rfl rfl rfl (u2_bank _ _ _ _ _) dX6_nudge_29 ?_
    exact x_vret C (congrArg (va_up _ _) (touch_B h1)) rfl dX6_nudge_32
set_option maxHeartbeats 4000000 in
set_option maxRecDepth 100000 in
theorem cW_pour (l : Launch) (E : xE) (σ : Nat → Nat → Int32) (τ : Nat → Int64) (w : Nat) (hw : w < 4) (g : Nat → Int32) (hg : gI g) : xMv l yX6_pour cX6_pour 4 1 23 E [.ref (xad E (wc w))] (va_up σ w (g)) (τ) (va_up σ w (pourG g)) (τ) := by
  refine xMv_of (own := RX6) (by decide +kernel) rfl (Nat.le_of_ble_eq_true rfl) ?_
  intro zp ze zs zm za zb zh zc C
  refine WM.to (lv1 := [(0, .ref (xad E (wc w)))]) (st1 := []) (σ1 := va_up σ w (g)) (τ1 := τ) ?_ rfl rfl rfl rfl
  have ht := topN_lt g
  refine x_aload_n C 0 dX6_pour_0 rfl rfl ?_
  refine x_callVi C (As := []) (rest := []) (cW_topCup l E σ τ w hw g) kv_X6_111 (x_recv C (by have := wc_lt hw; omega) (wd_0 hw) rfl) ⟨Nat.le_of_ble_eq_true rfl, Nat.le_of_ble_eq_true rfl⟩ rfl rfl (Nat.le_of_ble_eq_true rfl) dX6_pour_1 ?_
  refine WM.topi (y := nI (topN g)) (top_eq hg) ?_
  refine x_istore_n C (lv1 := [(1, .int (nI (topN g))), (0, .ref (xad E (wc w)))]) dX6_pour_4 rfl (by decide) rfl ?_
  refine x_aload_n C 1 dX6_pour_5 rfl rfl ?_
  refine x_iload_n C 0 dX6_pour_6 rfl rfl ?_
  refine x_callVi C (As := [.int (nI (topN g))]) (rest := []) (cW_roomOf l E σ τ w hw g (topN g) (by omega) (hg.k ht)) kv_X6_115 (x_recv C (by have := wc_lt hw; omega) (wd_0 hw) rfl) ⟨Nat.le_of_ble_eq_true rfl, Nat.le_of_ble_eq_true rfl⟩ rfl rfl (Nat.le_of_ble_eq_true rfl) dX6_pour_7 ?_
  refine x_aload_n C 1 dX6_pour_10 rfl rfl ?_
  refine x_get C (by have := wc_lt hw; omega) (wd_0 hw) fl_X6_18 (q := (0, wc w + 3, 0)) (v := .ref (xad E (wc w + 3))) rfl rfl dX6_pour_11 ?_
  refine x_iload_n C 0 dX6_pour_14 rfl rfl ?_
  refine x_ald C (by have := wc_lt hw; omega) (wd_3 hw) (v := g (20 + topN g)) (vp_in_nI (show topN g < 12 by omega) (by decide)) (by rw [(nI_clamp (show topN g < 2 ^ 31 by omega)), Nat.one_mul]; exact (congrFun (va_up_self _ _ _) _)) dX6_pour_15 ?_
  refine x_isub C dX6_pour_16 ?_
  refine x_iconst C (v := 0) dX6_pour_17 (by decide) ?_
  refine x_mmax C km_X6_74 kM_max ⟨Nat.le_of_ble_eq_true rfl, Nat.le_of_ble_eq_true rfl⟩ dX6_pour_18 ?_
  refine WM.topi (y := spareG g (topN g)) rfl ?_
  refine x_istore_n C (lv1 := [(2, .int (spareG g (topN g))), (1, .int (nI (topN g))), (0, .ref (xad E (wc w)))]) dX6_pour_21 rfl (by decide) rfl ?_
  refine x_aload_n C 2 dX6_pour_22 rfl rfl ?_
  refine x_get C (by have := wc_lt hw; omega) (wd_0 hw) fl_X6_9 (q := (0, wc w + 1, 0)) (v := .ref (xad E (wc w + 1))) rfl rfl dX6_pour_23 ?_
  refine x_iconst C (v := 0) dX6_pour_26 (by decide) ?_
  refine x_ald C (by have := wc_lt hw; omega) (wd_1 hw) (v := g 0) (vp_in_nI (show 0 < 4 by omega) (by decide)) (by rw [(show (0 : Int32).toNatClampNeg = 0 from by decide), Nat.zero_add, Nat.one_mul]; exact (congrFun (va_up_self _ _ _) _)) dX6_pour_27 ?_
  refine x_iload_n C 0 dX6_pour_28 rfl rfl ?_
  refine x_mmin C km_X6_58 kM_min ⟨Nat.le_of_ble_eq_true rfl, Nat.le_of_ble_eq_true rfl⟩ dX6_pour_29 ?_
  refine WM.topi (y := comesG g (topN g)) rfl ?_
  refine x_istore_n C (lv1 := [(3, .int (comesG g (topN g))), (2, .int (spareG g (topN g))), (1, .int (nI (topN g))), (0, .ref (xad E (wc w)))]) dX6_pour_32 rfl (by decide) rfl ?_
  refine x_aload_n C 3 dX6_pour_33 rfl rfl ?_
  refine x_get C (by have := wc_lt hw; omega) (wd_0 hw) fl_X6_18 (q := (0, wc w + 3, 0)) (v := .ref (xad E (wc w + 3))) rfl rfl dX6_pour_34 ?_
  refine x_iload_n C 2 dX6_pour_37 rfl rfl ?_
  refine x_dup2 C dX6_pour_38 rfl rfl ?_
  refine x_ald C (by have := wc_lt hw; omega) (wd_3 hw) (v := g (20 + topN g)) (vp_in_nI (show topN g < 12 by omega) (by decide)) (by rw [(nI_clamp (show topN g < 2 ^ 31 by omega)), Nat.one_mul]; exact (congrFun (va_up_self _ _ _) _)) dX6_pour_39 ?_
  refine x_iload_n C 0 dX6_pour_40 rfl rfl ?_
  refine x_iadd C dX6_pour_41 ?_
  refine x_ast C (σ' := va_up σ w (upd g (20 + topN g) ((g (20 + topN g)) + (comesG g (topN g))))) (by have := wc_lt hw; omega) (wd_3 hw) (by decide) (vp_in_nI (show topN g < 12 by omega) (by decide)) (by rw [(nI_clamp (show topN g < 2 ^ 31 by omega)), Nat.one_mul]; exact (u2_bank _ _ _ _ _)) dX6_pour_42 ?_
  refine x_aload_n C 3 dX6_pour_43 rfl rfl ?_
  refine x_dup C dX6_pour_44 rfl ?_
  refine x_get C (by have := wc_lt hw; omega) (wd_0 hw) fl_X6_43 (q := (1, w, 7)) (v := .int (g 7)) rfl (congrArg Value.int (Eq.trans (congrFun (va_up_self _ _ _) _) (upd_ne (j := 7) (k := 20 + topN g) (by omega)))) dX6_pour_45 ?_
  refine x_aload_n C 3 dX6_pour_48 rfl rfl ?_
  refine x_get C (by have := wc_lt hw; omega) (wd_0 hw) fl_X6_9 (q := (0, wc w + 1, 0)) (v := .ref (xad E (wc w + 1))) rfl rfl dX6_pour_49 ?_
  refine x_iconst C (v := 0) dX6_pour_52 (by decide) ?_
  refine x_ald C (by have := wc_lt hw; omega) (wd_1 hw) (v := g 0) (vp_in_nI (show 0 < 4 by omega) (by decide)) (by rw [(show (0 : Int32).toNatClampNeg = 0 from by decide), Nat.zero_add, Nat.one_mul]; exact (Eq.trans (congrFun (va_up_self _ _ _) _) (upd_ne (j := 0) (k := 20 + topN g) (by omega)))) dX6_pour_53 ?_
  refine x_iload_n C 0 dX6_pour_54 rfl rfl ?_
  refine x_isub C dX6_pour_55 ?_
  refine x_iadd C dX6_pour_56 ?_
  refine x_put C (σ' := va_up σ w (upd (upd g (20 + topN g) ((g (20 + topN g)) + (comesG g (topN g)))) 7 ((g 7) + ((g 0) - (comesG g (topN g)))))) (by have := wc_lt hw; omega) (wd_0 hw) fp_X6_43 rfl rfl rfl (u2_bank _ _ _ _ _) dX6_pour_57 ?_
  exact x_vret C rfl rfl dX6_pour_60
set_option maxHeartbeats 4000000 in
set_option maxRecDepth 100000 in
theorem cW_passOn (l : Launch) (E : xE) (σ : Nat → Nat → Int32) (τ : Nat → Int64) (w : Nat) (hw : w < 4) (g : Nat → Int32) (c : Nat) (hc : c < 12) (hg : gI g) : xMv l yX6_passOn cX6_passOn 3 1 21 E [.ref (xad E (wc w)), .int (nI c)] (va_up σ w (g)) (τ) (va_up σ w (passG g c)) (τ) := by
  refine xMv_of (own := RX6) (by decide +kernel) rfl (Nat.le_of_ble_eq_true rfl) ?_
  intro zp ze zs zm za zb zh zc C
  refine WM.to (lv1 := [(0, .ref (xad E (wc w))), (1, .int (nI c))]) (st1 := []) (σ1 := va_up σ w (g)) (τ1 := τ) ?_ rfl rfl rfl rfl
  have hn : (c + 1) % 12 < 12 := Nat.mod_lt _ (by decide)
  refine x_iload_n C 1 dX6_passOn_0 rfl rfl ?_
  refine x_iconst C (v := 1) dX6_passOn_1 (by decide) ?_
  refine x_iadd C dX6_passOn_2 ?_
  refine WM.topi (y := nI (c + 1)) (nI_add c 1) ?_
  refine x_bipush C (v := 12) dX6_passOn_3 (by decide) ?_
  refine x_irem C dX6_passOn_5 (by decide) ?_
  refine WM.topi (y := nI ((c + 1) % 12)) (pk_rem (by omega) (by decide) (by decide)) ?_
  refine x_istore_n C (lv1 := [(2, .int (nI ((c + 1) % 12))), (0, .ref (xad E (wc w))), (1, .int (nI c))]) dX6_passOn_6 rfl (by decide) rfl ?_
  refine x_aload_n C 1 dX6_passOn_7 rfl rfl ?_
  refine x_get C (by have := wc_lt hw; omega) (wd_0 hw) fl_X6_18 (q := (0, wc w + 3, 0)) (v := .ref (xad E (wc w + 3))) rfl rfl dX6_passOn_8 ?_
  refine x_iload_n C 2 dX6_passOn_11 rfl rfl ?_
  refine x_ald C (by have := wc_lt hw; omega) (wd_3 hw) (v := g (20 + c)) (vp_in_nI (show c < 12 by omega) (by decide)) (by rw [(nI_clamp (show c < 2 ^ 31 by omega)), Nat.one_mul]; exact (congrFun (va_up_self _ _ _) _)) dX6_passOn_12 ?_
  refine x_aload_n C 1 dX6_passOn_13 rfl rfl ?_
  refine x_get C (by have := wc_lt hw; omega) (wd_0 hw) fl_X6_18 (q := (0, wc w + 3, 0)) (v := .ref (xad E (wc w + 3))) rfl rfl dX6_passOn_14 ?_
  refine x_iload_n C 0 dX6_passOn_17 rfl rfl ?_
  refine x_ald C (by have := wc_lt hw; omega) (wd_3 hw) (v := g (20 + (c + 1) % 12)) (vp_in_nI (show (c + 1) % 12 < 12 by omega) (by decide)) (by rw [(nI_clamp (show (c + 1) % 12 < 2 ^ 31 by omega)), Nat.one_mul]; exact (congrFun (va_up_self _ _ _) _)) dX6_passOn_18 ?_
  refine x_icmp_le C (tgt := 56) dX6_passOn_19 (by decide) (fun h1 => ?_) (fun h1 => ?_)
  · exact x_vret C (congrArg (va_up _ _) (by simp [passG, h1])) rfl dX6_passOn_56
  · refine x_aload_n C 1 dX6_passOn_22 rfl rfl ?_
    refine x_get C (by have := wc_lt hw; omega) (wd_0 hw) fl_X6_18 (q := (0, wc w + 3, 0)) (v := .ref (xad E (wc w + 3))) rfl rfl dX6_passOn_23 ?_
    refine x_iload_n C 0 dX6_passOn_26 rfl rfl ?_
    refine x_ald C (by have := wc_lt hw; omega) (wd_3 hw) (v := g (20 + (c + 1) % 12)) (vp_in_nI (show (c + 1) % 12 < 12 by omega) (by decide)) (by rw [(nI_clamp (show (c + 1) % 12 < 2 ^ 31 by omega)), Nat.one_mul]; exact (congrFun (va_up_self _ _ _) _)) dX6_passOn_27 ?_
    refine x_aload_n C 1 dX6_passOn_28 rfl rfl ?_
    refine x_iload_n C 0 dX6_passOn_29 rfl rfl ?_
    refine x_callVi C (As := [.int (nI ((c + 1) % 12))]) (rest := [.int (g (20 + (c + 1) % 12))]) (cW_roomOf l E σ τ w hw g ((c + 1) % 12) (by omega) (hg.k hn)) kv_X6_115 (x_recv C (by have := wc_lt hw; omega) (wd_0 hw) rfl) ⟨Nat.le_of_ble_eq_true rfl, Nat.le_of_ble_eq_true rfl⟩ rfl rfl (Nat.le_of_ble_eq_true rfl) dX6_passOn_30 ?_
    refine x_icmp_ge C (tgt := 56) dX6_passOn_33 (by decide) (fun h2 => ?_) (fun h2 => ?_)
    · exact x_vret C (congrArg (va_up _ _) (by simp [passG, h1, h2])) rfl dX6_passOn_56
    · refine x_aload_n C 1 dX6_passOn_36 rfl rfl ?_
      refine x_get C (by have := wc_lt hw; omega) (wd_0 hw) fl_X6_18 (q := (0, wc w + 3, 0)) (v := .ref (xad E (wc w + 3))) rfl rfl dX6_passOn_37 ?_
      refine x_iload_n C 2 dX6_passOn_40 rfl rfl ?_
      refine x_dup2 C dX6_passOn_41 rfl rfl ?_
      refine x_ald C (by have := wc_lt hw; omega) (wd_3 hw) (v := g (20 + c)) (vp_in_nI (show c < 12 by omega) (by decide)) (by rw [(nI_clamp (show c < 2 ^ 31 by omega)), Nat.one_mul]; exact (congrFun (va_up_self _ _ _) _)) dX6_passOn_42 ?_
      refine x_iconst C (v := 1) dX6_passOn_43 (by decide) ?_
      refine x_isub C dX6_passOn_44 ?_
      refine x_ast C (σ' := va_up σ w (upd g (20 + c) ((g (20 + c)) - 1))) (by have := wc_lt hw; omega) (wd_3 hw) (by decide) (vp_in_nI (show c < 12 by omega) (by decide)) (by rw [(nI_clamp (show c < 2 ^ 31 by omega)), Nat.one_mul]; exact (u2_bank _ _ _ _ _)) dX6_passOn_45 ?_
      refine x_aload_n C 1 dX6_passOn_46 rfl rfl ?_
      refine x_get C (by have := wc_lt hw; omega) (wd_0 hw) fl_X6_18 (q := (0, wc w + 3, 0)) (v := .ref (xad E (wc w + 3))) rfl rfl dX6_passOn_47 ?_
      refine x_iload_n C 0 dX6_passOn_50 rfl rfl ?_
      refine x_dup2 C dX6_passOn_51 rfl rfl ?_
      refine x_ald C (by have := wc_lt hw; omega) (wd_3 hw) (v := g (20 + (c + 1) % 12)) (vp_in_nI (show (c + 1) % 12 < 12 by omega) (by decide)) (by rw [(nI_clamp (show (c + 1) % 12 < 2 ^ 31 by omega)), Nat.one_mul]; exact (Eq.trans (congrFun (va_up_self _ _ _) _) (upd_ne (j := 20 + (c + 1) % 12) (k := 20 + c) (by omega)))) dX6_passOn_52 ?_
      refine x_iconst C (v := 1) dX6_passOn_53 (by decide) ?_
      refine x_iadd C dX6_passOn_54 ?_
      refine x_ast C (σ' := va_up σ w (upd (upd g (20 + c) ((g (20 + c)) - 1)) (20 + (c + 1) % 12) ((g (20 + (c + 1) % 12)) + 1))) (by have := wc_lt hw; omega) (wd_3 hw) (by decide) (vp_in_nI (show (c + 1) % 12 < 12 by omega) (by decide)) (by rw [(nI_clamp (show (c + 1) % 12 < 2 ^ 31 by omega)), Nat.one_mul]; exact (u2_bank _ _ _ _ _)) dX6_passOn_55 ?_
      exact x_vret C (congrArg (va_up _ _) (by simp [passG, h1, h2])) rfl dX6_passOn_56
set_option maxHeartbeats 4000000 in
set_option maxRecDepth 100000 in
theorem cW_drain (l : Launch) (E : xE) (σ : Nat → Nat → Int32) (τ : Nat → Int64) (w : Nat) (hw : w < 4) (g : Nat → Int32) (c : Nat) (hc : c < 12) (hg : gI g) : xMv l yX6_drain cX6_drain 3 2 47 E [.ref (xad E (wc w)), .int (nI c)] (va_up σ w (g)) (τ) (va_up σ w (drainG g c)) (τ) := by
  refine xMv_of (own := RX6) (by decide +kernel) rfl (Nat.le_of_ble_eq_true rfl) ?_
  intro zp ze zs zm za zb zh zc C
  refine WM.to (lv1 := [(0, .ref (xad E (wc w))), (1, .int (nI c))]) (st1 := []) (σ1 := va_up σ w (g)) (τ1 := τ) ?_ rfl rfl rfl rfl
  refine x_aload_n C 0 dX6_drain_0 rfl rfl ?_
  refine x_iload_n C 1 dX6_drain_1 rfl rfl ?_
  refine x_callVi C (As := [.int (nI c)]) (rest := []) (cW_leakOf l E σ τ w hw g c (by omega) hg) kv_X6_118 (x_recv C (by have := wc_lt hw; omega) (wd_0 hw) rfl) ⟨Nat.le_of_ble_eq_true rfl, Nat.le_of_ble_eq_true rfl⟩ rfl rfl (Nat.le_of_ble_eq_true rfl) dX6_drain_2 ?_
  refine x_istore_n C (lv1 := [(2, .int (leakG g c)), (0, .ref (xad E (wc w))), (1, .int (nI c))]) dX6_drain_5 rfl (by decide) rfl ?_
  refine x_aload_n C 1 dX6_drain_6 rfl rfl ?_
  refine x_get C (by have := wc_lt hw; omega) (wd_0 hw) fl_X6_18 (q := (0, wc w + 3, 0)) (v := .ref (xad E (wc w + 3))) rfl rfl dX6_drain_7 ?_
  refine x_iload_n C 2 dX6_drain_10 rfl rfl ?_
  refine x_dup2 C dX6_drain_11 rfl rfl ?_
  refine x_ald C (by have := wc_lt hw; omega) (wd_3 hw) (v := g (20 + c)) (vp_in_nI (show c < 12 by omega) (by decide)) (by rw [(nI_clamp (show c < 2 ^ 31 by omega)), Nat.one_mul]; exact (congrFun (va_up_self _ _ _) _)) dX6_drain_12 ?_
  refine x_iload_n C 0 dX6_drain_13 rfl rfl ?_
  refine x_isub C dX6_drain_14 ?_
  refine x_ast C (σ' := va_up σ w (upd g (20 + c) ((g (20 + c)) - (leakG g c)))) (by have := wc_lt hw; omega) (wd_3 hw) (by decide) (vp_in_nI (show c < 12 by omega) (by decide)) (by rw [(nI_clamp (show c < 2 ^ 31 by omega)), Nat.one_mul]; exact (u2_bank _ _ _ _ _)) dX6_drain_15 ?_
  refine x_aload_n C 1 dX6_drain_16 rfl rfl ?_
  refine x_dup C dX6_drain_17 rfl ?_
  refine x_get C (by have := wc_lt hw; omega) (wd_0 hw) fl_X6_46 (q := (1, w, 8)) (v := .int (g 8)) rfl (congrArg Value.int (Eq.trans (congrFun (va_up_self _ _ _) _) (upd_ne (j := 8) (k := 20 + c) (by omega)))) dX6_drain_18 ?_
  refine x_iload_n C 0 dX6_drain_21 rfl rfl ?_
  refine x_iadd C dX6_drain_22 ?_
  refine x_put C (σ' := va_up σ w (upd (upd g (20 + c) ((g (20 + c)) - (leakG g c))) 8 ((g 8) + (leakG g c)))) (by have := wc_lt hw; omega) (wd_0 hw) fp_X6_46 rfl rfl rfl (u2_bank _ _ _ _ _) dX6_drain_23 ?_
  refine x_aload_n C 1 dX6_drain_26 rfl rfl ?_
  refine x_get C (by have := wc_lt hw; omega) (wd_0 hw) fl_X6_15 (q := (0, wc w + 2, 0)) (v := .ref (xad E (wc w + 2))) rfl rfl dX6_drain_27 ?_
  refine x_iload_n C 2 dX6_drain_30 rfl rfl ?_
  refine x_ald C (by have := wc_lt hw; omega) (wd_2 hw) (v := g (32 + c)) (vp_in_nI (show c < 12 by omega) (by decide)) (by rw [(nI_clamp (show c < 2 ^ 31 by omega)), Nat.one_mul]; exact (Eq.trans (congrFun (va_up_self _ _ _) _) (Eq.trans (upd_ne (j := 32 + c) (k := 8) (by omega)) (upd_ne (j := 32 + c) (k := 20 + c) (by omega))))) dX6_drain_31 ?_
  refine x_bipush C (v := 6) dX6_drain_32 (by decide) ?_
  refine x_icmp_ne C (tgt := 42) dX6_drain_34 (by decide) (fun h1 => ?_) (fun h1 => ?_)
  · exact x_vret C (congrArg (va_up _ _) (by unfold drainG; rw [if_neg h1]; rfl)) rfl dX6_drain_42
  · refine x_aload_n C 1 dX6_drain_37 rfl rfl ?_
    refine x_iload_n C 2 dX6_drain_38 rfl rfl ?_
    refine x_callVv C (As := [.int (nI c)]) (rest := []) (cW_passOn l E σ τ w hw (upd (upd g (20 + c) ((g (20 + c)) - (leakG g c))) 8 ((g 8) + (leakG g c))) c (by omega) (gI_loss hg hc)) kv_X6_121 (x_recv C (by have := wc_lt hw; omega) (wd_0 hw) rfl) ⟨Nat.le_of_ble_eq_true rfl, Nat.le_of_ble_eq_true rfl⟩ rfl rfl (Nat.le_of_ble_eq_true rfl) dX6_drain_39 ?_
    exact x_vret C (congrArg (va_up _ _) (by unfold drainG; rw [if_pos h1]; rfl)) rfl dX6_drain_42
