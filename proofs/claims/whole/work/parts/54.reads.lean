/-! the reference's deeds and texts -/
def aftR (g : Nat → Int32) (n c e : Nat) : Nat := if c < 12 then aft g n e else e
theorem aftR_in {g : Nat → Int32} {n c e : Nat} (h : c < 12) : aftR g n c e = aft g n e := if_pos h
theorem aftR_12 {g : Nat → Int32} {n c e : Nat} (h : ¬ c < 12) : aftR g n c e = e := if_neg h
theorem dr_bad {g : Nat → Int32} {n e : Nat} (hen : e ≤ n) (h : ¬ okW g n e) : wvN (drQ (lkK g n (nB g n e)) (ltW g n e)) 13 = -1 := by
  by_cases h0 : tT g n e = 0
  · obtain ⟨h1, h2⟩ := dr_w hen h0
    rw [h1, h2]
    exact Decidable.not_not.mp (fun q => h ⟨h0, q⟩)
  · exact wvN_no 13 (fun j _ q => h0 (lk_k.1.mp q.1))
theorem dr_ok {g : Nat → Int32} {n e : Nat} (hen : e ≤ n) (h : okW g n e) : wvN (drQ (lkK g n (nB g n e)) (ltW g n e)) 13 = tV g n e := by
  obtain ⟨h1, h2⟩ := dr_w hen h.1
  rw [h1, h2]
theorem lkT_lkT (σ : Nat → Nat → Int32) (g : Nat → Int32) (n e e' : Nat) (w : Int32) (h : Nat → Int32) : va_up (va_up σ 17 (lkT g n e w h)) 17 (lkT g n e' ((va_up σ 17 (lkT g n e w h)) 17 6) ((va_up σ 17 (lkT g n e w h)) 17)) = va_up σ 17 (lkT g n e' w h) := by
  rw [up_up, va_up_self]
  refine congrArg (va_up σ 17) (funext fun j => ?_)
  show lk7 _ _ _ _ _ _ j = lk7 _ _ _ _ _ _ j
  unfold lk7
  split
  · rfl
  split
  · rfl
  split
  · rfl
  split
  · rfl
  split
  · rfl
  rename_i a b c d f
  simp [lkT, lk7, a, b, c, d, f]
theorem lkT_w (σ : Nat → Nat → Int32) (g : Nat → Int32) (n e : Nat) (w x : Int32) (h : Nat → Int32) : u2 (va_up σ 17 (lkT g n e w h)) 17 6 x = va_up σ 17 (lkT g n e x h) := by
  rw [u2_bank]
  refine congrArg (va_up σ 17) (funext fun j => ?_)
  by_cases e6 : j = 6
  · subst e6; rw [upd_at]; rfl
  rw [upd_ne e6]
  show lk7 _ _ _ _ _ _ j = lk7 _ _ _ _ _ _ j
  unfold lk7
  rw [if_neg e6, if_neg e6]
theorem lk0_n (σ : Nat → Nat → Int32) (g : Nat → Int32) (n i : Nat) : va_up (u2 (u2 (u2 σ 10 i 0) 17 2 0) 17 6 0) 17 (lkT g n 0 ((u2 (u2 (u2 σ 10 i 0) 17 2 0) 17 6 0) 17 6) ((u2 (u2 (u2 σ 10 i 0) 17 2 0) 17 6 0) 17)) = va_up (va_up σ 10 (upd (σ 10) i 0)) 17 (lkT g n 0 0 (σ 17)) := by
  have e1 : (u2 (u2 (u2 σ 10 i 0) 17 2 0) 17 6 0) 17 = upd (upd (σ 17) 2 0) 6 0 := by
    rw [u2_bk, u2_bk, show u2 σ 10 i 0 17 = σ 17 from u2_bk_ne σ (c := 17) (b := 10) i 0 (by decide)]
  have e2 : (u2 (u2 (u2 σ 10 i 0) 17 2 0) 17 6 0) 17 6 = 0 := u2_at _ _ _ _
  rw [e2, e1]
  funext c
  by_cases h : c = 17
  · subst h
    rw [va_up_self, va_up_self]
    funext j
    show lk7 _ _ _ _ _ _ j = lk7 _ _ _ _ _ _ j
    unfold lk7
    split
    · rfl
    split
    · rfl
    split
    · rfl
    split
    · rfl
    split
    · rfl
    rename_i a b c d f
    rw [upd_ne f, upd_ne a]
  · rw [va_up_ne _ _ h, va_up_ne _ _ h]
    unfold u2
    rw [va_up_ne _ _ h, va_up_ne _ _ h]
theorem neg1 (v : Int32) : (-1) * v = -v := by
  rw [Int32.neg_mul, Int32.one_mul]
theorem prg_0' {s : xV} {q n b e : Nat} {G : Nat → Int32} (hq : s 0 13 = nI q) (hq2 : q ≤ 5) (hn : s 4 1 = nI n) (hn2 : n ≤ 100) (hb : b ≤ n) (h : rdR s n q = (nI b, e, G)) : prgS (s 0 13).toNatClampNeg (s 4 1).toNatClampNeg s = (-1 - nI b, u2 (va_up s 0 G) 4 1 0) := by
  have h1 : (rdR s n q).1 = nI b := by rw [h]
  have h2 : (rdR s n q).2.2 = G := by rw [h]
  rw [prg_0 hq hq2 hn hn2 (by rw [h1]; intro z; rw [tI_eq, nI_toInt (by omega), show (-1 : Int32).toInt = -1 from by decide] at z; omega), h1, h2]
theorem prg_1' {s : xV} {q n e : Nat} {G : Nat → Int32} (hq : s 0 13 = nI q) (hq2 : q ≤ 5) (hn : s 4 1 = nI n) (hn2 : n ≤ 100) (h : rdR s n q = (-1, e, G)) : prgS (s 0 13).toNatClampNeg (s 4 1).toNatClampNeg s = (G 13 + 1 - 1, u2 (u2 (va_up s 0 G) 4 1 0) 0 13 (G 13 + 1)) := by
  have h1 : (rdR s n q).1 = -1 := by rw [h]
  have h2 : (rdR s n q).2.2 = G := by rw [h]
  rw [prg_1 hq hq2 hn hn2 h1, h2]
theorem mv_rd (σ : xV) (G g : Nat → Int32) (n e : Nat) (w : Int32) : mv (va_up (va_up σ 10 G) 17 (upd (lkT g n e w (σ 17)) 1 0)) = u2 (va_up (mv σ) 0 G) 4 1 0 := by
  have h : va_up (va_up σ 10 G) 17 (upd (lkT g n e w (σ 17)) 1 0) = u2 (u2 (u2 (u2 (u2 (u2 (va_up σ 10 G) 17 2 (nI (lkA g n (nB g n e)))) 17 3 (nI (nB g n e))) 17 4 (lkK g n (nB g n e))) 17 5 (lkV g n (nB g n e))) 17 6 w) 17 1 0 := by
    rw [u17 (va_up σ 10 G), u2_bank, u2_bank, u2_bank, u2_bank, u2_bank]
    refine congrArg (va_up (va_up σ 10 G) 17) (funext fun j => ?_)
    rw [va_up_ne (j := 17) (k := 10) _ _ (by decide)]
    by_cases h1 : j = 1
    · subst h1; rw [upd_at, upd_at]
    rw [upd_ne h1, upd_ne h1]
    unfold lkT lk7
    by_cases e6 : j = 6
    · subst e6; rw [upd_at]; rfl
    rw [upd_ne e6]
    by_cases e5 : j = 5
    · subst e5; rw [upd_at]; rfl
    rw [upd_ne e5]
    by_cases e4 : j = 4
    · subst e4; rw [upd_at]; rfl
    rw [upd_ne e4]
    by_cases e3 : j = 3
    · subst e3; rw [upd_at]; rfl
    rw [upd_ne e3]
    by_cases e2 : j = 2
    · subst e2; rw [upd_at]; rfl
    rw [upd_ne e2, if_neg e2, if_neg e3, if_neg e4, if_neg e5, if_neg e6]
  rw [h, mv_u17_1, mv_u17_6, mv_u17_5, mv_u17_4, mv_u17_3, mv_u17_2, mv_v10]
set_option maxHeartbeats 4000000 in
set_option maxRecDepth 100000 in
theorem c_reads (l : Launch) (E : xE) (σ : Nat → Nat → Int32) (τ : Nat → Int64) (q c e : Nat) (hq6 : q < 6) (G : Nat → Int32) (g : Nat → Int32) (n : Nat) (hn : n ≤ 100) (hg : σ 16 = g) (ht : σ 17 1 = nI n) (hen : e ≤ n) (hc : G (134 + 25 * q) = nI c) (hcb : c ≤ 12) : xMv l yX8_reads cX8_reads 4 6 129 E [.ref (xad E (81)), .int (nI (134 + 25 * q))] (va_up (va_up σ 10 G) 17 (lkT g n e 0 (σ 17))) (va_up τ 3 (ltW g n e)) (va_up (va_up σ 10 (if c < 12 ∧ okD g n e then rdG q c (tV g n e) (nmD g n e) G else G)) 17 (lkT g n (aftR g n c e) (if c < 12 ∧ okD g n e then 0 else 1) (σ 17))) (va_up τ 3 (ltW g n (aftR g n c e))) := by
  refine xMv_of (own := RX8) (by decide +kernel) rfl (Nat.le_of_ble_eq_true rfl) ?_
  intro zp ze zs zm za zb zh zc C
  refine WM.to (lv1 := [(0, .ref (xad E (81))), (1, .int (nI (134 + 25 * q)))]) (st1 := []) (σ1 := va_up (va_up σ 10 G) 17 (lkT g n e 0 (σ 17))) (τ1 := va_up τ 3 (ltW g n e)) ?_ rfl rfl rfl rfl
  refine x_aload_n C 0 dX8_reads_0 rfl rfl ?_
  refine x_callVi C (As := []) (rest := []) (c_deed l E (va_up (va_up σ 10 G) 17 (lkT g n e 0 (σ 17))) (va_up τ 3 (ltW g n e))) kv_X8_204 (x_recv C (Nat.le_of_ble_eq_true rfl) xd_81 rfl) ⟨Nat.le_of_ble_eq_true rfl, Nat.le_of_ble_eq_true rfl⟩ rfl rfl (Nat.le_of_ble_eq_true rfl) dX8_reads_1 ?_
  refine WM.topi (y := wvN (drQ (lkK g n (nB g n e)) (ltW g n e)) 13) (by rw [show (va_up (va_up σ 10 G) 17 (lkT g n e 0 (σ 17))) 17 4 = lkK g n (nB g n e) from (congrFun (va_up_self _ _ _) _), show (va_up τ 3 (ltW g n e)) 3 = ltW g n e from (va_up_self _ _ _)]) ?_
  refine x_istore_n C (lv1 := [(2, .int (wvN (drQ (lkK g n (nB g n e)) (ltW g n e)) 13)), (0, .ref (xad E (81))), (1, .int (nI (134 + 25 * q)))]) dX8_reads_4 rfl (by decide) rfl ?_
  by_cases hw : okW g n e
  · obtain ⟨k, hk, ek⟩ := okW_k hw
    have hn1 : nx g n e ≤ n := nx_le hen
    have hn2 : e2N g n e ≤ n := e2N_le hen
    refine WM.to (lv1 := [(2, .int (nI k)), (0, .ref (xad E (81))), (1, .int (nI (134 + 25 * q)))]) ?_ rfl rfl (by rw [dr_ok hen hw, ek]) rfl
    refine x_aload_n C 1 dX8_reads_5 rfl rfl ?_
    refine x_iload_n C 0 dX8_reads_6 rfl rfl ?_
    refine x_if_lt C (tgt := 25) dX8_reads_7 (by decide) (fun h1 => absurd h1 (nI_nlt (a := k) (b := 0) (by omega) (by omega))) (fun h1 => ?_)
    refine x_aload_n C 1 dX8_reads_10 rfl rfl ?_
    refine x_get C (Nat.le_of_ble_eq_true rfl) xd_81 fl_X8_9 (q := (0, 82, 0)) (v := .ref (xad E (82))) rfl rfl dX8_reads_11 ?_
    refine x_iload_n C 2 dX8_reads_14 rfl rfl ?_
    refine x_ald C (Nat.le_of_ble_eq_true rfl) xd_82 (v := nI c) (vp_in_nI (show 134 + 25 * q < 284 by omega) (by decide)) (by rw [nI_clamp (by omega), Nat.zero_add, Nat.one_mul]; exact (Eq.trans (Eq.trans (congrFun (va_up_ne _ (j := 10) (k := 17) _ (by decide)) _) (congrFun (va_up_self _ _ _) _)) hc)) dX8_reads_15 ?_
    refine x_bipush C (v := 12) dX8_reads_16 (by decide) ?_
    refine x_icmp_ge C (tgt := 25) dX8_reads_18 (by decide) (fun h2 => ?_) (fun h2 => ?_)
    · refine x_iconst C (v := 0) dX8_reads_25 (by decide) ?_
      refine x_callVv C (As := [.int (0)]) (rest := []) (c_must0 l E (va_up (va_up σ 10 G) 17 (lkT g n e 0 (σ 17))) (va_up τ 3 (ltW g n e))) kv_X8_207 (x_recv C (Nat.le_of_ble_eq_true rfl) xd_81 rfl) ⟨Nat.le_of_ble_eq_true rfl, Nat.le_of_ble_eq_true rfl⟩ rfl rfl (Nat.le_of_ble_eq_true rfl) dX8_reads_26 ?_
      refine WM.to (σ1 := va_up (va_up σ 10 G) 17 (lkT g n e 1 (σ 17))) ?_ (lkT_w _ _ _ _ _ _ _) rfl rfl rfl
      refine x_aload_n C 1 dX8_reads_29 rfl rfl ?_
      refine x_get C (Nat.le_of_ble_eq_true rfl) xd_81 fl_X8_200 (q := (1, 17, 6)) (v := .int (1)) rfl (congrArg Value.int (congrFun (va_up_self _ _ _) _)) dX8_reads_30 ?_
      refine x_if_eq C (tgt := 37) dX8_reads_33 (by decide) (fun h3 => absurd h3 (by decide)) (fun h3 => ?_)
      exact x_vret C (by rw [if_neg (fun z : c < 12 ∧ okD g n e => h2 (nI_lt z.1 (by decide))), if_neg (fun z : c < 12 ∧ okD g n e => h2 (nI_lt z.1 (by decide))), aftR_12 (fun z => h2 (nI_lt z (by decide)))]) (by rw [aftR_12 (fun z => h2 (nI_lt z (by decide)))]) dX8_reads_36
    · refine x_iconst C (v := 1) dX8_reads_21 (by decide) ?_
      refine x_goto2 C (tgt := 26) dX8_reads_22 (by decide) ?_
      refine x_callVv C (As := [.int (1)]) (rest := []) (c_must1 l E (va_up (va_up σ 10 G) 17 (lkT g n e 0 (σ 17))) (va_up τ 3 (ltW g n e)) (congrFun (va_up_self _ _ _) _)) kv_X8_207 (x_recv C (Nat.le_of_ble_eq_true rfl) xd_81 rfl) ⟨Nat.le_of_ble_eq_true rfl, Nat.le_of_ble_eq_true rfl⟩ rfl rfl (Nat.le_of_ble_eq_true rfl) dX8_reads_26 ?_
      refine x_aload_n C 1 dX8_reads_29 rfl rfl ?_
      refine x_get C (Nat.le_of_ble_eq_true rfl) xd_81 fl_X8_200 (q := (1, 17, 6)) (v := .int (0)) rfl (congrArg Value.int (congrFun (va_up_self _ _ _) _)) dX8_reads_30 ?_
      refine x_if_eq C (tgt := 37) dX8_reads_33 (by decide) (fun h4 => ?_) (fun h4 => absurd h4 (by decide))
      refine x_aload_n C 1 dX8_reads_37 rfl rfl ?_
      refine x_callVv C (As := []) (rest := []) (c_look l E (va_up (va_up σ 10 G) 17 (lkT g n e 0 (σ 17))) (va_up τ 3 (ltW g n e)) (nx g n e) g n hn (Eq.trans (Eq.trans (va_up_ne _ (j := 16) (k := 17) _ (by decide)) (va_up_ne _ (j := 16) (k := 10) _ (by decide))) hg) (Eq.trans (congrFun (va_up_self _ _ _) _) ht) hn1 (Eq.trans (congrFun (va_up_self _ _ _) _) (congrArg nI (lk_a (by rw [show tkT g n (nB g n e) = 0 from hw.1]; decide))))) kv_X8_211 (x_recv C (Nat.le_of_ble_eq_true rfl) xd_81 rfl) ⟨Nat.le_of_ble_eq_true rfl, Nat.le_of_ble_eq_true rfl⟩ rfl rfl (Nat.le_of_ble_eq_true rfl) dX8_reads_38 ?_
      refine WM.to (σ1 := va_up (va_up σ 10 G) 17 (lkT g n (nx g n e) 0 (σ 17))) (τ1 := va_up τ 3 (ltW g n (nx g n e))) ?_ (lkT_lkT _ _ _ _ _ _ _) (lkU _ _ _ _) rfl rfl
      refine x_iconst C (v := 1) dX8_reads_41 (by decide) ?_
      refine x_istore_n C (lv1 := [(3, .int (1)), (2, .int (nI k)), (0, .ref (xad E (81))), (1, .int (nI (134 + 25 * q)))]) dX8_reads_42 rfl (by decide) rfl ?_
      refine x_iload_n C 1 dX8_reads_43 rfl rfl ?_
      refine x_bipush C (v := 11) dX8_reads_44 (by decide) ?_
      refine x_icmp_ne C (tgt := 72) dX8_reads_46 (by decide) (fun h5 => ?_) (fun h5 => ?_)
      · have e2e : e2N g n e = nx g n e := if_neg (fun z => h5 (by rw [← ek]; exact z.1))
        refine WM.to (σ1 := va_up (va_up σ 10 G) 17 (lkT g n (e2N g n e) 0 (σ 17))) (τ1 := va_up τ 3 (ltW g n (e2N g n e))) ?_ (by rw [e2e]) (by rw [e2e]) rfl rfl
        refine x_aload_n C 2 dX8_reads_72 rfl rfl ?_
        refine x_aload_n C 2 dX8_reads_73 rfl rfl ?_
        refine x_get C (Nat.le_of_ble_eq_true rfl) xd_81 fl_X8_146 (q := (1, 17, 4)) (v := .int (lkK g n (nB g n (e2N g n e)))) rfl (congrArg Value.int (congrFun (va_up_self _ _ _) _)) dX8_reads_74 ?_
        refine x_iconst C (v := 2) dX8_reads_77 (by decide) ?_
        refine x_icmp_ne C (tgt := 106) dX8_reads_78 (by decide) (fun h6 => ?_) (fun h6 => ?_)
        · refine x_iconst C (v := 0) dX8_reads_106 (by decide) ?_
          refine x_callVv C (As := [.int (0)]) (rest := []) (c_must0 l E (va_up (va_up σ 10 G) 17 (lkT g n (e2N g n e) 0 (σ 17))) (va_up τ 3 (ltW g n (e2N g n e)))) kv_X8_207 (x_recv C (Nat.le_of_ble_eq_true rfl) xd_81 rfl) ⟨Nat.le_of_ble_eq_true rfl, Nat.le_of_ble_eq_true rfl⟩ rfl rfl (Nat.le_of_ble_eq_true rfl) dX8_reads_107 ?_
          refine WM.to (σ1 := va_up (va_up σ 10 G) 17 (lkT g n (e2N g n e) 1 (σ 17))) ?_ (lkT_w _ _ _ _ _ _ _) rfl rfl rfl
          refine x_aload_n C 2 dX8_reads_110 rfl rfl ?_
          refine x_get C (Nat.le_of_ble_eq_true rfl) xd_81 fl_X8_200 (q := (1, 17, 6)) (v := .int (1)) rfl (congrArg Value.int (congrFun (va_up_self _ _ _) _)) dX8_reads_111 ?_
          refine x_if_eq C (tgt := 118) dX8_reads_114 (by decide) (fun h7 => absurd h7 (by decide)) (fun h7 => ?_)
          exact x_vret C (by rw [if_neg (fun z : c < 12 ∧ okD g n e => ((fun z => h6 (lk_k.2.1.mpr z.1)) : ¬ okN g n e) z.2.2), if_neg (fun z : c < 12 ∧ okD g n e => ((fun z => h6 (lk_k.2.1.mpr z.1)) : ¬ okN g n e) z.2.2), aftR_in ((nI_ltI (a := c) (b := 12) (by omega) (by decide)).mp h2), aft_n hw (fun z => h6 (lk_k.2.1.mpr z.1))]) (by rw [aftR_in ((nI_ltI (a := c) (b := 12) (by omega) (by decide)).mp h2), aft_n hw (fun z => h6 (lk_k.2.1.mpr z.1))]) dX8_reads_117
        · refine x_aload_n C 2 dX8_reads_81 rfl rfl ?_
          refine x_get C (Nat.le_of_ble_eq_true rfl) xd_81 fl_X8_143 (q := (1, 17, 5)) (v := .int (lkV g n (nB g n (e2N g n e)))) rfl (congrArg Value.int (congrFun (va_up_self _ _ _) _)) dX8_reads_82 ?_
          refine x_i2l C dX8_reads_85 ?_
          refine x_iload_n C 1 dX8_reads_86 rfl rfl ?_
          refine x_callSi C (As := [.int (nI k)]) (rest := [.long (Int32.toInt64 (lkV g n (nB g n (e2N g n e)))), .ref (xad E (81))]) (c_leastOf l E (va_up (va_up σ 10 G) 17 (lkT g n (e2N g n e) 0 (σ 17))) (va_up τ 3 (ltW g n (e2N g n e))) k hk) ks_X8_214 ⟨Nat.le_of_ble_eq_true rfl, Nat.le_of_ble_eq_true rfl⟩ rfl rfl (Nat.le_of_ble_eq_true rfl) dX8_reads_87 ?_
          refine x_i2l C dX8_reads_90 ?_
          refine x_iload_n C 1 dX8_reads_91 rfl rfl ?_
          refine x_callSi C (As := [.int (nI k)]) (rest := [.long (Int32.toInt64 ((xzl 2).getD k 0)), .long (Int32.toInt64 (lkV g n (nB g n (e2N g n e)))), .ref (xad E (81))]) (c_mostOf l E (va_up (va_up σ 10 G) 17 (lkT g n (e2N g n e) 0 (σ 17))) (va_up τ 3 (ltW g n (e2N g n e))) k hk) ks_X8_217 ⟨Nat.le_of_ble_eq_true rfl, Nat.le_of_ble_eq_true rfl⟩ rfl rfl (Nat.le_of_ble_eq_true rfl) dX8_reads_92 ?_
          refine x_i2l C dX8_reads_95 ?_
          refine x_callSi C (As := [.long (Int32.toInt64 (lkV g n (nB g n (e2N g n e)))), .long (Int32.toInt64 ((xzl 2).getD k 0)), .long (Int32.toInt64 ((xzl 3).getD k 0))]) (rest := [.ref (xad E (81))]) (c_in l E (va_up (va_up σ 10 G) 17 (lkT g n (e2N g n e) 0 (σ 17))) (va_up τ 3 (ltW g n (e2N g n e))) (Int32.toInt64 (lkV g n (nB g n (e2N g n e)))) (Int32.toInt64 ((xzl 2).getD k 0)) (Int32.toInt64 ((xzl 3).getD k 0))) ks_X8_49 ⟨Nat.le_of_ble_eq_true rfl, Nat.le_of_ble_eq_true rfl⟩ rfl rfl (Nat.le_of_ble_eq_true rfl) dX8_reads_96 ?_
          refine WM.topi (y := if rng (lkV g n (nB g n (e2N g n e))) ((xzl 2).getD k 0) ((xzl 3).getD k 0) then 1 else 0) (in_eq (lkV g n (nB g n (e2N g n e))) ((xzl 2).getD k 0) ((xzl 3).getD k 0) rfl rfl) ?_
          refine x_ifeqB C (tgt := 106) dX8_reads_99 (by decide) (fun h8 => ?_) (fun h8 => ?_)
          · refine x_iconst C (v := 0) dX8_reads_106 (by decide) ?_
            refine x_callVv C (As := [.int (0)]) (rest := []) (c_must0 l E (va_up (va_up σ 10 G) 17 (lkT g n (e2N g n e) 0 (σ 17))) (va_up τ 3 (ltW g n (e2N g n e)))) kv_X8_207 (x_recv C (Nat.le_of_ble_eq_true rfl) xd_81 rfl) ⟨Nat.le_of_ble_eq_true rfl, Nat.le_of_ble_eq_true rfl⟩ rfl rfl (Nat.le_of_ble_eq_true rfl) dX8_reads_107 ?_
            refine WM.to (σ1 := va_up (va_up σ 10 G) 17 (lkT g n (e2N g n e) 1 (σ 17))) ?_ (lkT_w _ _ _ _ _ _ _) rfl rfl rfl
            refine x_aload_n C 2 dX8_reads_110 rfl rfl ?_
            refine x_get C (Nat.le_of_ble_eq_true rfl) xd_81 fl_X8_200 (q := (1, 17, 6)) (v := .int (1)) rfl (congrArg Value.int (congrFun (va_up_self _ _ _) _)) dX8_reads_111 ?_
            refine x_if_eq C (tgt := 118) dX8_reads_114 (by decide) (fun h9 => absurd h9 (by decide)) (fun h9 => ?_)
            exact x_vret C (by rw [if_neg (fun z : c < 12 ∧ okD g n e => ((fun z => h8 ((lk_r (g := g) (nB_le hn2).2 z.1 (most_le k hk)).1.mpr (by have z2 := z.2; rw [ek, nI_clamp (by omega)] at z2; exact z2))) : ¬ okN g n e) z.2.2), if_neg (fun z : c < 12 ∧ okD g n e => ((fun z => h8 ((lk_r (g := g) (nB_le hn2).2 z.1 (most_le k hk)).1.mpr (by have z2 := z.2; rw [ek, nI_clamp (by omega)] at z2; exact z2))) : ¬ okN g n e) z.2.2), aftR_in ((nI_ltI (a := c) (b := 12) (by omega) (by decide)).mp h2), aft_n hw (fun z => h8 ((lk_r (g := g) (nB_le hn2).2 z.1 (most_le k hk)).1.mpr (by have z2 := z.2; rw [ek, nI_clamp (by omega)] at z2; exact z2)))]) (by rw [aftR_in ((nI_ltI (a := c) (b := 12) (by omega) (by decide)).mp h2), aft_n hw (fun z => h8 ((lk_r (g := g) (nB_le hn2).2 z.1 (most_le k hk)).1.mpr (by have z2 := z.2; rw [ek, nI_clamp (by omega)] at z2; exact z2)))]) dX8_reads_117
          · refine x_iconst C (v := 1) dX8_reads_102 (by decide) ?_
            refine x_goto2 C (tgt := 107) dX8_reads_103 (by decide) ?_
            refine x_callVv C (As := [.int (1)]) (rest := []) (c_must1 l E (va_up (va_up σ 10 G) 17 (lkT g n (e2N g n e) 0 (σ 17))) (va_up τ 3 (ltW g n (e2N g n e))) (congrFun (va_up_self _ _ _) _)) kv_X8_207 (x_recv C (Nat.le_of_ble_eq_true rfl) xd_81 rfl) ⟨Nat.le_of_ble_eq_true rfl, Nat.le_of_ble_eq_true rfl⟩ rfl rfl (Nat.le_of_ble_eq_true rfl) dX8_reads_107 ?_
            refine x_aload_n C 2 dX8_reads_110 rfl rfl ?_
            refine x_get C (Nat.le_of_ble_eq_true rfl) xd_81 fl_X8_200 (q := (1, 17, 6)) (v := .int (0)) rfl (congrArg Value.int (congrFun (va_up_self _ _ _) _)) dX8_reads_111 ?_
            refine x_if_eq C (tgt := 118) dX8_reads_114 (by decide) (fun h10 => ?_) (fun h10 => absurd h10 (by decide))
            have h1t : tT g n (e2N g n e) = 1 := lk_k.2.1.mp h6
            have hrr := lk_r (g := g) (n := n) (b := nB g n (e2N g n e)) (lo := (xzl 2).getD k 0) (hi := (xzl 3).getD k 0) (nB_le hn2).2 h1t (most_le k hk)
            have hrg := hrr.1.mp h8
            have hd : okD g n e := ⟨hw, h1t, by rw [ek, nI_clamp (by omega)]; exact hrg⟩
            have hc12 : c < 12 := (nI_ltI (a := c) (b := 12) (by omega) (by decide)).mp h2
            refine WM.to (σ1 := va_up (va_up σ 17 (lkT g n (e2N g n e) 0 (σ 17))) 10 G) ?_ (xswap (by decide)) rfl rfl rfl
            refine x_aload_n C 2 dX8_reads_118 rfl rfl ?_
            refine x_get C (Nat.le_of_ble_eq_true rfl) xd_81 fl_X8_9 (q := (0, 82, 0)) (v := .ref (xad E (82))) rfl rfl dX8_reads_119 ?_
            refine x_iload_n C 3 dX8_reads_122 rfl rfl ?_
            refine x_iconst C (v := 1) dX8_reads_123 (by decide) ?_
            refine x_iadd C dX8_reads_124 ?_
            refine WM.topi (y := nI (134 + 25 * q + 1)) (nI_add (134 + 25 * q) 1) ?_
            refine x_iconst C (v := 2) dX8_reads_125 (by decide) ?_
            refine x_aload_n C 2 dX8_reads_126 rfl rfl ?_
            refine x_get C (Nat.le_of_ble_eq_true rfl) xd_81 fl_X8_9 (q := (0, 82, 0)) (v := .ref (xad E (82))) rfl rfl dX8_reads_127 ?_
            refine x_iload_n C 3 dX8_reads_130 rfl rfl ?_
            refine x_ald C (Nat.le_of_ble_eq_true rfl) xd_82 (v := nI c) (vp_in_nI (show 134 + 25 * q < 284 by omega) (by decide)) (by rw [nI_clamp (by omega), Nat.zero_add, Nat.one_mul]; exact (Eq.trans (congrFun (va_up_self _ _ _) _) hc)) dX8_reads_131 ?_
            refine x_imul C dX8_reads_132 ?_
            refine WM.topi (y := nI (2 * c)) (pk_mul 2 c) ?_
            refine x_iadd C dX8_reads_133 ?_
            refine WM.topi (y := nI (134 + 25 * q + 1 + (2 * c))) (nI_add (134 + 25 * q + 1) (2 * c)) ?_
            refine WM.topi (y := nI (135 + 25 * q + 2 * c)) (congrArg nI (by omega)) ?_
            refine x_iload_n C 1 dX8_reads_134 rfl rfl ?_
            refine x_ast C (σ' := va_up (va_up σ 17 (lkT g n (e2N g n e) 0 (σ 17))) 10 (upd G (135 + 25 * q + 2 * c) (nI k))) (Nat.le_of_ble_eq_true rfl) xd_82 (by decide) (vp_in_nI (show 135 + 25 * q + 2 * c < 284 by omega) (by decide)) (by rw [(nI_clamp (show 135 + 25 * q + 2 * c < 2 ^ 31 by omega)), Nat.zero_add, Nat.one_mul]; exact (u2_bank _ _ _ _ _)) dX8_reads_135 ?_
            refine x_aload_n C 2 dX8_reads_136 rfl rfl ?_
            refine x_get C (Nat.le_of_ble_eq_true rfl) xd_81 fl_X8_9 (q := (0, 82, 0)) (v := .ref (xad E (82))) rfl rfl dX8_reads_137 ?_
            refine x_iload_n C 3 dX8_reads_140 rfl rfl ?_
            refine x_iconst C (v := 2) dX8_reads_141 (by decide) ?_
            refine x_iadd C dX8_reads_142 ?_
            refine WM.topi (y := nI (134 + 25 * q + 2)) (nI_add (134 + 25 * q) 2) ?_
            refine x_iconst C (v := 2) dX8_reads_143 (by decide) ?_
            refine x_aload_n C 2 dX8_reads_144 rfl rfl ?_
            refine x_get C (Nat.le_of_ble_eq_true rfl) xd_81 fl_X8_9 (q := (0, 82, 0)) (v := .ref (xad E (82))) rfl rfl dX8_reads_145 ?_
            refine x_iload_n C 3 dX8_reads_148 rfl rfl ?_
            refine x_ald C (Nat.le_of_ble_eq_true rfl) xd_82 (v := nI c) (vp_in_nI (show 134 + 25 * q < 284 by omega) (by decide)) (by rw [nI_clamp (by omega), Nat.zero_add, Nat.one_mul]; exact (Eq.trans (Eq.trans (congrFun (va_up_self _ _ _) _) (upd_ne (j := 134 + 25 * q) (k := 135 + 25 * q + 2 * c) (by omega))) hc)) dX8_reads_149 ?_
            refine x_imul C dX8_reads_150 ?_
            refine WM.topi (y := nI (2 * c)) (pk_mul 2 c) ?_
            refine x_iadd C dX8_reads_151 ?_
            refine WM.topi (y := nI (134 + 25 * q + 2 + (2 * c))) (nI_add (134 + 25 * q + 2) (2 * c)) ?_
            refine WM.topi (y := nI (136 + 25 * q + 2 * c)) (congrArg nI (by omega)) ?_
            refine x_iload_n C 0 dX8_reads_152 rfl rfl ?_
            refine x_aload_n C 2 dX8_reads_153 rfl rfl ?_
            refine x_get C (Nat.le_of_ble_eq_true rfl) xd_81 fl_X8_143 (q := (1, 17, 5)) (v := .int (lkV g n (nB g n (e2N g n e)))) rfl (congrArg Value.int (Eq.trans (congrFun (va_up_ne _ (j := 17) (k := 10) _ (by decide)) _) (congrFun (va_up_self _ _ _) _))) dX8_reads_154 ?_
            refine x_imul C dX8_reads_157 ?_
            refine WM.topi (y := nmD g n e) (by rw [hrr.2 hrg, show nmD g n e = _ from if_neg (fun z => h5 (by rw [← ek]; exact z.1))]; exact Int32.one_mul _) ?_
            refine x_ast C (σ' := va_up (va_up σ 17 (lkT g n (e2N g n e) 0 (σ 17))) 10 (upd (upd G (135 + 25 * q + 2 * c) (nI k)) (136 + 25 * q + 2 * c) (nmD g n e))) (Nat.le_of_ble_eq_true rfl) xd_82 (by decide) (vp_in_nI (show 136 + 25 * q + 2 * c < 284 by omega) (by decide)) (by rw [(nI_clamp (show 136 + 25 * q + 2 * c < 2 ^ 31 by omega)), Nat.zero_add, Nat.one_mul]; exact (u2_bank _ _ _ _ _)) dX8_reads_158 ?_
            refine x_aload_n C 2 dX8_reads_159 rfl rfl ?_
            refine x_get C (Nat.le_of_ble_eq_true rfl) xd_81 fl_X8_9 (q := (0, 82, 0)) (v := .ref (xad E (82))) rfl rfl dX8_reads_160 ?_
            refine x_iload_n C 3 dX8_reads_163 rfl rfl ?_
            refine x_dup2 C dX8_reads_164 rfl rfl ?_
            refine x_ald C (Nat.le_of_ble_eq_true rfl) xd_82 (v := nI c) (vp_in_nI (show 134 + 25 * q < 284 by omega) (by decide)) (by rw [nI_clamp (by omega), Nat.zero_add, Nat.one_mul]; exact (Eq.trans (Eq.trans (congrFun (va_up_self _ _ _) _) (Eq.trans (upd_ne (j := 134 + 25 * q) (k := 136 + 25 * q + 2 * c) (by omega)) (upd_ne (j := 134 + 25 * q) (k := 135 + 25 * q + 2 * c) (by omega)))) hc)) dX8_reads_165 ?_
            refine x_iconst C (v := 1) dX8_reads_166 (by decide) ?_
            refine x_iadd C dX8_reads_167 ?_
            refine WM.topi (y := nI (c + 1)) (nI_add c 1) ?_
            refine x_ast C (σ' := va_up (va_up σ 17 (lkT g n (e2N g n e) 0 (σ 17))) 10 (upd (upd (upd G (135 + 25 * q + 2 * c) (nI k)) (136 + 25 * q + 2 * c) (nmD g n e)) (134 + 25 * q) (nI (c + 1)))) (Nat.le_of_ble_eq_true rfl) xd_82 (by decide) (vp_in_nI (show 134 + 25 * q < 284 by omega) (by decide)) (by rw [(nI_clamp (show 134 + 25 * q < 2 ^ 31 by omega)), Nat.zero_add, Nat.one_mul]; exact (u2_bank _ _ _ _ _)) dX8_reads_168 ?_
            refine x_aload_n C 2 dX8_reads_169 rfl rfl ?_
            refine WM.to (σ1 := va_up (va_up σ 10 (upd (upd (upd G (135 + 25 * q + 2 * c) (nI k)) (136 + 25 * q + 2 * c) (nmD g n e)) (134 + 25 * q) (nI (c + 1)))) 17 (lkT g n (e2N g n e) 0 (σ 17))) ?_ (xswap (by decide)) rfl rfl rfl
            refine x_callVv C (As := []) (rest := []) (c_look l E (va_up (va_up σ 10 (upd (upd (upd G (135 + 25 * q + 2 * c) (nI k)) (136 + 25 * q + 2 * c) (nmD g n e)) (134 + 25 * q) (nI (c + 1)))) 17 (lkT g n (e2N g n e) 0 (σ 17))) (va_up τ 3 (ltW g n (e2N g n e))) (nx g n (e2N g n e)) g n hn (Eq.trans (Eq.trans (va_up_ne _ (j := 16) (k := 17) _ (by decide)) (va_up_ne _ (j := 16) (k := 10) _ (by decide))) hg) (Eq.trans (congrFun (va_up_self _ _ _) _) ht) (nx_le hn2) (Eq.trans (congrFun (va_up_self _ _ _) _) (congrArg nI (lk_a (by rw [show tkT g n (nB g n (e2N g n e)) = 1 from h1t]; decide))))) kv_X8_211 (x_recv C (Nat.le_of_ble_eq_true rfl) xd_81 rfl) ⟨Nat.le_of_ble_eq_true rfl, Nat.le_of_ble_eq_true rfl⟩ rfl rfl (Nat.le_of_ble_eq_true rfl) dX8_reads_170 ?_
            refine WM.to (σ1 := va_up (va_up σ 10 (upd (upd (upd G (135 + 25 * q + 2 * c) (nI k)) (136 + 25 * q + 2 * c) (nmD g n e)) (134 + 25 * q) (nI (c + 1)))) 17 (lkT g n (nx g n (e2N g n e)) 0 (σ 17))) (τ1 := va_up τ 3 (ltW g n (nx g n (e2N g n e)))) ?_ (lkT_lkT _ _ _ _ _ _ _) (lkU _ _ _ _) rfl rfl
            exact x_vret C (by rw [if_pos ⟨hc12, hd⟩, if_pos ⟨hc12, hd⟩, aftR_in hc12, aft_ok hd, ek]; rfl) (by rw [aftR_in hc12, aft_ok hd]) dX8_reads_173
      · refine x_aload_n C 2 dX8_reads_49 rfl rfl ?_
        refine x_get C (Nat.le_of_ble_eq_true rfl) xd_81 fl_X8_146 (q := (1, 17, 4)) (v := .int (lkK g n (nB g n (nx g n e)))) rfl (congrArg Value.int (congrFun (va_up_self _ _ _) _)) dX8_reads_50 ?_
        refine x_iconst C (v := 3) dX8_reads_53 (by decide) ?_
        refine x_icmp_ne C (tgt := 72) dX8_reads_54 (by decide) (fun h11 => ?_) (fun h11 => ?_)
        · have e2e : e2N g n e = nx g n e := if_neg (fun z => h11 (lk_k.2.2.mpr z.2.1))
          refine WM.to (σ1 := va_up (va_up σ 10 G) 17 (lkT g n (e2N g n e) 0 (σ 17))) (τ1 := va_up τ 3 (ltW g n (e2N g n e))) ?_ (by rw [e2e]) (by rw [e2e]) rfl rfl
          refine x_aload_n C 2 dX8_reads_72 rfl rfl ?_
          refine x_aload_n C 2 dX8_reads_73 rfl rfl ?_
          refine x_get C (Nat.le_of_ble_eq_true rfl) xd_81 fl_X8_146 (q := (1, 17, 4)) (v := .int (lkK g n (nB g n (e2N g n e)))) rfl (congrArg Value.int (congrFun (va_up_self _ _ _) _)) dX8_reads_74 ?_
          refine x_iconst C (v := 2) dX8_reads_77 (by decide) ?_
          refine x_icmp_ne C (tgt := 106) dX8_reads_78 (by decide) (fun h12 => ?_) (fun h12 => ?_)
          · refine x_iconst C (v := 0) dX8_reads_106 (by decide) ?_
            refine x_callVv C (As := [.int (0)]) (rest := []) (c_must0 l E (va_up (va_up σ 10 G) 17 (lkT g n (e2N g n e) 0 (σ 17))) (va_up τ 3 (ltW g n (e2N g n e)))) kv_X8_207 (x_recv C (Nat.le_of_ble_eq_true rfl) xd_81 rfl) ⟨Nat.le_of_ble_eq_true rfl, Nat.le_of_ble_eq_true rfl⟩ rfl rfl (Nat.le_of_ble_eq_true rfl) dX8_reads_107 ?_
            refine WM.to (σ1 := va_up (va_up σ 10 G) 17 (lkT g n (e2N g n e) 1 (σ 17))) ?_ (lkT_w _ _ _ _ _ _ _) rfl rfl rfl
            refine x_aload_n C 2 dX8_reads_110 rfl rfl ?_
            refine x_get C (Nat.le_of_ble_eq_true rfl) xd_81 fl_X8_200 (q := (1, 17, 6)) (v := .int (1)) rfl (congrArg Value.int (congrFun (va_up_self _ _ _) _)) dX8_reads_111 ?_
            refine x_if_eq C (tgt := 118) dX8_reads_114 (by decide) (fun h13 => absurd h13 (by decide)) (fun h13 => ?_)
            exact x_vret C (by rw [if_neg (fun z : c < 12 ∧ okD g n e => ((fun z => h12 (lk_k.2.1.mpr z.1)) : ¬ okN g n e) z.2.2), if_neg (fun z : c < 12 ∧ okD g n e => ((fun z => h12 (lk_k.2.1.mpr z.1)) : ¬ okN g n e) z.2.2), aftR_in ((nI_ltI (a := c) (b := 12) (by omega) (by decide)).mp h2), aft_n hw (fun z => h12 (lk_k.2.1.mpr z.1))]) (by rw [aftR_in ((nI_ltI (a := c) (b := 12) (by omega) (by decide)).mp h2), aft_n hw (fun z => h12 (lk_k.2.1.mpr z.1))]) dX8_reads_117
          · refine x_aload_n C 2 dX8_reads_81 rfl rfl ?_
            refine x_get C (Nat.le_of_ble_eq_true rfl) xd_81 fl_X8_143 (q := (1, 17, 5)) (v := .int (lkV g n (nB g n (e2N g n e)))) rfl (congrArg Value.int (congrFun (va_up_self _ _ _) _)) dX8_reads_82 ?_
            refine x_i2l C dX8_reads_85 ?_
            refine x_iload_n C 1 dX8_reads_86 rfl rfl ?_
            refine x_callSi C (As := [.int (nI k)]) (rest := [.long (Int32.toInt64 (lkV g n (nB g n (e2N g n e)))), .ref (xad E (81))]) (c_leastOf l E (va_up (va_up σ 10 G) 17 (lkT g n (e2N g n e) 0 (σ 17))) (va_up τ 3 (ltW g n (e2N g n e))) k hk) ks_X8_214 ⟨Nat.le_of_ble_eq_true rfl, Nat.le_of_ble_eq_true rfl⟩ rfl rfl (Nat.le_of_ble_eq_true rfl) dX8_reads_87 ?_
            refine x_i2l C dX8_reads_90 ?_
            refine x_iload_n C 1 dX8_reads_91 rfl rfl ?_
            refine x_callSi C (As := [.int (nI k)]) (rest := [.long (Int32.toInt64 ((xzl 2).getD k 0)), .long (Int32.toInt64 (lkV g n (nB g n (e2N g n e)))), .ref (xad E (81))]) (c_mostOf l E (va_up (va_up σ 10 G) 17 (lkT g n (e2N g n e) 0 (σ 17))) (va_up τ 3 (ltW g n (e2N g n e))) k hk) ks_X8_217 ⟨Nat.le_of_ble_eq_true rfl, Nat.le_of_ble_eq_true rfl⟩ rfl rfl (Nat.le_of_ble_eq_true rfl) dX8_reads_92 ?_
            refine x_i2l C dX8_reads_95 ?_
            refine x_callSi C (As := [.long (Int32.toInt64 (lkV g n (nB g n (e2N g n e)))), .long (Int32.toInt64 ((xzl 2).getD k 0)), .long (Int32.toInt64 ((xzl 3).getD k 0))]) (rest := [.ref (xad E (81))]) (c_in l E (va_up (va_up σ 10 G) 17 (lkT g n (e2N g n e) 0 (σ 17))) (va_up τ 3 (ltW g n (e2N g n e))) (Int32.toInt64 (lkV g n (nB g n (e2N g n e)))) (Int32.toInt64 ((xzl 2).getD k 0)) (Int32.toInt64 ((xzl 3).getD k 0))) ks_X8_49 ⟨Nat.le_of_ble_eq_true rfl, Nat.le_of_ble_eq_true rfl⟩ rfl rfl (Nat.le_of_ble_eq_true rfl) dX8_reads_96 ?_
            refine WM.topi (y := if rng (lkV g n (nB g n (e2N g n e))) ((xzl 2).getD k 0) ((xzl 3).getD k 0) then 1 else 0) (in_eq (lkV g n (nB g n (e2N g n e))) ((xzl 2).getD k 0) ((xzl 3).getD k 0) rfl rfl) ?_
            refine x_ifeqB C (tgt := 106) dX8_reads_99 (by decide) (fun h14 => ?_) (fun h14 => ?_)
            · refine x_iconst C (v := 0) dX8_reads_106 (by decide) ?_
              refine x_callVv C (As := [.int (0)]) (rest := []) (c_must0 l E (va_up (va_up σ 10 G) 17 (lkT g n (e2N g n e) 0 (σ 17))) (va_up τ 3 (ltW g n (e2N g n e)))) kv_X8_207 (x_recv C (Nat.le_of_ble_eq_true rfl) xd_81 rfl) ⟨Nat.le_of_ble_eq_true rfl, Nat.le_of_ble_eq_true rfl⟩ rfl rfl (Nat.le_of_ble_eq_true rfl) dX8_reads_107 ?_
              refine WM.to (σ1 := va_up (va_up σ 10 G) 17 (lkT g n (e2N g n e) 1 (σ 17))) ?_ (lkT_w _ _ _ _ _ _ _) rfl rfl rfl
              refine x_aload_n C 2 dX8_reads_110 rfl rfl ?_
              refine x_get C (Nat.le_of_ble_eq_true rfl) xd_81 fl_X8_200 (q := (1, 17, 6)) (v := .int (1)) rfl (congrArg Value.int (congrFun (va_up_self _ _ _) _)) dX8_reads_111 ?_
              refine x_if_eq C (tgt := 118) dX8_reads_114 (by decide) (fun h15 => absurd h15 (by decide)) (fun h15 => ?_)
              exact x_vret C (by rw [if_neg (fun z : c < 12 ∧ okD g n e => ((fun z => h14 ((lk_r (g := g) (nB_le hn2).2 z.1 (most_le k hk)).1.mpr (by have z2 := z.2; rw [ek, nI_clamp (by omega)] at z2; exact z2))) : ¬ okN g n e) z.2.2), if_neg (fun z : c < 12 ∧ okD g n e => ((fun z => h14 ((lk_r (g := g) (nB_le hn2).2 z.1 (most_le k hk)).1.mpr (by have z2 := z.2; rw [ek, nI_clamp (by omega)] at z2; exact z2))) : ¬ okN g n e) z.2.2), aftR_in ((nI_ltI (a := c) (b := 12) (by omega) (by decide)).mp h2), aft_n hw (fun z => h14 ((lk_r (g := g) (nB_le hn2).2 z.1 (most_le k hk)).1.mpr (by have z2 := z.2; rw [ek, nI_clamp (by omega)] at z2; exact z2)))]) (by rw [aftR_in ((nI_ltI (a := c) (b := 12) (by omega) (by decide)).mp h2), aft_n hw (fun z => h14 ((lk_r (g := g) (nB_le hn2).2 z.1 (most_le k hk)).1.mpr (by have z2 := z.2; rw [ek, nI_clamp (by omega)] at z2; exact z2)))]) dX8_reads_117
            · refine x_iconst C (v := 1) dX8_reads_102 (by decide) ?_
              refine x_goto2 C (tgt := 107) dX8_reads_103 (by decide) ?_
              refine x_callVv C (As := [.int (1)]) (rest := []) (c_must1 l E (va_up (va_up σ 10 G) 17 (lkT g n (e2N g n e) 0 (σ 17))) (va_up τ 3 (ltW g n (e2N g n e))) (congrFun (va_up_self _ _ _) _)) kv_X8_207 (x_recv C (Nat.le_of_ble_eq_true rfl) xd_81 rfl) ⟨Nat.le_of_ble_eq_true rfl, Nat.le_of_ble_eq_true rfl⟩ rfl rfl (Nat.le_of_ble_eq_true rfl) dX8_reads_107 ?_
              refine x_aload_n C 2 dX8_reads_110 rfl rfl ?_
              refine x_get C (Nat.le_of_ble_eq_true rfl) xd_81 fl_X8_200 (q := (1, 17, 6)) (v := .int (0)) rfl (congrArg Value.int (congrFun (va_up_self _ _ _) _)) dX8_reads_111 ?_
              refine x_if_eq C (tgt := 118) dX8_reads_114 (by decide) (fun h16 => ?_) (fun h16 => absurd h16 (by decide))
              have h1t : tT g n (e2N g n e) = 1 := lk_k.2.1.mp h12
              have hrr := lk_r (g := g) (n := n) (b := nB g n (e2N g n e)) (lo := (xzl 2).getD k 0) (hi := (xzl 3).getD k 0) (nB_le hn2).2 h1t (most_le k hk)
              have hrg := hrr.1.mp h14
              have hd : okD g n e := ⟨hw, h1t, by rw [ek, nI_clamp (by omega)]; exact hrg⟩
              have hc12 : c < 12 := (nI_ltI (a := c) (b := 12) (by omega) (by decide)).mp h2
              refine WM.to (σ1 := va_up (va_up σ 17 (lkT g n (e2N g n e) 0 (σ 17))) 10 G) ?_ (xswap (by decide)) rfl rfl rfl
              refine x_aload_n C 2 dX8_reads_118 rfl rfl ?_
              refine x_get C (Nat.le_of_ble_eq_true rfl) xd_81 fl_X8_9 (q := (0, 82, 0)) (v := .ref (xad E (82))) rfl rfl dX8_reads_119 ?_
              refine x_iload_n C 3 dX8_reads_122 rfl rfl ?_
              refine x_iconst C (v := 1) dX8_reads_123 (by decide) ?_
              refine x_iadd C dX8_reads_124 ?_
              refine WM.topi (y := nI (134 + 25 * q + 1)) (nI_add (134 + 25 * q) 1) ?_
              refine x_iconst C (v := 2) dX8_reads_125 (by decide) ?_
              refine x_aload_n C 2 dX8_reads_126 rfl rfl ?_
              refine x_get C (Nat.le_of_ble_eq_true rfl) xd_81 fl_X8_9 (q := (0, 82, 0)) (v := .ref (xad E (82))) rfl rfl dX8_reads_127 ?_
              refine x_iload_n C 3 dX8_reads_130 rfl rfl ?_
              refine x_ald C (Nat.le_of_ble_eq_true rfl) xd_82 (v := nI c) (vp_in_nI (show 134 + 25 * q < 284 by omega) (by decide)) (by rw [nI_clamp (by omega), Nat.zero_add, Nat.one_mul]; exact (Eq.trans (congrFun (va_up_self _ _ _) _) hc)) dX8_reads_131 ?_
              refine x_imul C dX8_reads_132 ?_
              refine WM.topi (y := nI (2 * c)) (pk_mul 2 c) ?_
              refine x_iadd C dX8_reads_133 ?_
              refine WM.topi (y := nI (134 + 25 * q + 1 + (2 * c))) (nI_add (134 + 25 * q + 1) (2 * c)) ?_
              refine WM.topi (y := nI (135 + 25 * q + 2 * c)) (congrArg nI (by omega)) ?_
              refine x_iload_n C 1 dX8_reads_134 rfl rfl ?_
              refine x_ast C (σ' := va_up (va_up σ 17 (lkT g n (e2N g n e) 0 (σ 17))) 10 (upd G (135 + 25 * q + 2 * c) (nI k))) (Nat.le_of_ble_eq_true rfl) xd_82 (by decide) (vp_in_nI (show 135 + 25 * q + 2 * c < 284 by omega) (by decide)) (by rw [(nI_clamp (show 135 + 25 * q + 2 * c < 2 ^ 31 by omega)), Nat.zero_add, Nat.one_mul]; exact (u2_bank _ _ _ _ _)) dX8_reads_135 ?_
              refine x_aload_n C 2 dX8_reads_136 rfl rfl ?_
              refine x_get C (Nat.le_of_ble_eq_true rfl) xd_81 fl_X8_9 (q := (0, 82, 0)) (v := .ref (xad E (82))) rfl rfl dX8_reads_137 ?_
              refine x_iload_n C 3 dX8_reads_140 rfl rfl ?_
              refine x_iconst C (v := 2) dX8_reads_141 (by decide) ?_
              refine x_iadd C dX8_reads_142 ?_
              refine WM.topi (y := nI (134 + 25 * q + 2)) (nI_add (134 + 25 * q) 2) ?_
              refine x_iconst C (v := 2) dX8_reads_143 (by decide) ?_
              refine x_aload_n C 2 dX8_reads_144 rfl rfl ?_
              refine x_get C (Nat.le_of_ble_eq_true rfl) xd_81 fl_X8_9 (q := (0, 82, 0)) (v := .ref (xad E (82))) rfl rfl dX8_reads_145 ?_
              refine x_iload_n C 3 dX8_reads_148 rfl rfl ?_
              refine x_ald C (Nat.le_of_ble_eq_true rfl) xd_82 (v := nI c) (vp_in_nI (show 134 + 25 * q < 284 by omega) (by decide)) (by rw [nI_clamp (by omega), Nat.zero_add, Nat.one_mul]; exact (Eq.trans (Eq.trans (congrFun (va_up_self _ _ _) _) (upd_ne (j := 134 + 25 * q) (k := 135 + 25 * q + 2 * c) (by omega))) hc)) dX8_reads_149 ?_
              refine x_imul C dX8_reads_150 ?_
              refine WM.topi (y := nI (2 * c)) (pk_mul 2 c) ?_
              refine x_iadd C dX8_reads_151 ?_
              refine WM.topi (y := nI (134 + 25 * q + 2 + (2 * c))) (nI_add (134 + 25 * q + 2) (2 * c)) ?_
              refine WM.topi (y := nI (136 + 25 * q + 2 * c)) (congrArg nI (by omega)) ?_
              refine x_iload_n C 0 dX8_reads_152 rfl rfl ?_
              refine x_aload_n C 2 dX8_reads_153 rfl rfl ?_
              refine x_get C (Nat.le_of_ble_eq_true rfl) xd_81 fl_X8_143 (q := (1, 17, 5)) (v := .int (lkV g n (nB g n (e2N g n e)))) rfl (congrArg Value.int (Eq.trans (congrFun (va_up_ne _ (j := 17) (k := 10) _ (by decide)) _) (congrFun (va_up_self _ _ _) _))) dX8_reads_154 ?_
              refine x_imul C dX8_reads_157 ?_
              refine WM.topi (y := nmD g n e) (by rw [hrr.2 hrg, show nmD g n e = _ from if_neg (fun z => h11 (lk_k.2.2.mpr z.2.1))]; exact Int32.one_mul _) ?_
              refine x_ast C (σ' := va_up (va_up σ 17 (lkT g n (e2N g n e) 0 (σ 17))) 10 (upd (upd G (135 + 25 * q + 2 * c) (nI k)) (136 + 25 * q + 2 * c) (nmD g n e))) (Nat.le_of_ble_eq_true rfl) xd_82 (by decide) (vp_in_nI (show 136 + 25 * q + 2 * c < 284 by omega) (by decide)) (by rw [(nI_clamp (show 136 + 25 * q + 2 * c < 2 ^ 31 by omega)), Nat.zero_add, Nat.one_mul]; exact (u2_bank _ _ _ _ _)) dX8_reads_158 ?_
              refine x_aload_n C 2 dX8_reads_159 rfl rfl ?_
              refine x_get C (Nat.le_of_ble_eq_true rfl) xd_81 fl_X8_9 (q := (0, 82, 0)) (v := .ref (xad E (82))) rfl rfl dX8_reads_160 ?_
              refine x_iload_n C 3 dX8_reads_163 rfl rfl ?_
              refine x_dup2 C dX8_reads_164 rfl rfl ?_
              refine x_ald C (Nat.le_of_ble_eq_true rfl) xd_82 (v := nI c) (vp_in_nI (show 134 + 25 * q < 284 by omega) (by decide)) (by rw [nI_clamp (by omega), Nat.zero_add, Nat.one_mul]; exact (Eq.trans (Eq.trans (congrFun (va_up_self _ _ _) _) (Eq.trans (upd_ne (j := 134 + 25 * q) (k := 136 + 25 * q + 2 * c) (by omega)) (upd_ne (j := 134 + 25 * q) (k := 135 + 25 * q + 2 * c) (by omega)))) hc)) dX8_reads_165 ?_
              refine x_iconst C (v := 1) dX8_reads_166 (by decide) ?_
              refine x_iadd C dX8_reads_167 ?_
              refine WM.topi (y := nI (c + 1)) (nI_add c 1) ?_
              refine x_ast C (σ' := va_up (va_up σ 17 (lkT g n (e2N g n e) 0 (σ 17))) 10 (upd (upd (upd G (135 + 25 * q + 2 * c) (nI k)) (136 + 25 * q + 2 * c) (nmD g n e)) (134 + 25 * q) (nI (c + 1)))) (Nat.le_of_ble_eq_true rfl) xd_82 (by decide) (vp_in_nI (show 134 + 25 * q < 284 by omega) (by decide)) (by rw [(nI_clamp (show 134 + 25 * q < 2 ^ 31 by omega)), Nat.zero_add, Nat.one_mul]; exact (u2_bank _ _ _ _ _)) dX8_reads_168 ?_
              refine x_aload_n C 2 dX8_reads_169 rfl rfl ?_
              refine WM.to (σ1 := va_up (va_up σ 10 (upd (upd (upd G (135 + 25 * q + 2 * c) (nI k)) (136 + 25 * q + 2 * c) (nmD g n e)) (134 + 25 * q) (nI (c + 1)))) 17 (lkT g n (e2N g n e) 0 (σ 17))) ?_ (xswap (by decide)) rfl rfl rfl
              refine x_callVv C (As := []) (rest := []) (c_look l E (va_up (va_up σ 10 (upd (upd (upd G (135 + 25 * q + 2 * c) (nI k)) (136 + 25 * q + 2 * c) (nmD g n e)) (134 + 25 * q) (nI (c + 1)))) 17 (lkT g n (e2N g n e) 0 (σ 17))) (va_up τ 3 (ltW g n (e2N g n e))) (nx g n (e2N g n e)) g n hn (Eq.trans (Eq.trans (va_up_ne _ (j := 16) (k := 17) _ (by decide)) (va_up_ne _ (j := 16) (k := 10) _ (by decide))) hg) (Eq.trans (congrFun (va_up_self _ _ _) _) ht) (nx_le hn2) (Eq.trans (congrFun (va_up_self _ _ _) _) (congrArg nI (lk_a (by rw [show tkT g n (nB g n (e2N g n e)) = 1 from h1t]; decide))))) kv_X8_211 (x_recv C (Nat.le_of_ble_eq_true rfl) xd_81 rfl) ⟨Nat.le_of_ble_eq_true rfl, Nat.le_of_ble_eq_true rfl⟩ rfl rfl (Nat.le_of_ble_eq_true rfl) dX8_reads_170 ?_
              refine WM.to (σ1 := va_up (va_up σ 10 (upd (upd (upd G (135 + 25 * q + 2 * c) (nI k)) (136 + 25 * q + 2 * c) (nmD g n e)) (134 + 25 * q) (nI (c + 1)))) 17 (lkT g n (nx g n (e2N g n e)) 0 (σ 17))) (τ1 := va_up τ 3 (ltW g n (nx g n (e2N g n e)))) ?_ (lkT_lkT _ _ _ _ _ _ _) (lkU _ _ _ _) rfl rfl
              exact x_vret C (by rw [if_pos ⟨hc12, hd⟩, if_pos ⟨hc12, hd⟩, aftR_in hc12, aft_ok hd, ek]; rfl) (by rw [aftR_in hc12, aft_ok hd]) dX8_reads_173
        · refine x_aload_n C 2 dX8_reads_57 rfl rfl ?_
          refine x_get C (Nat.le_of_ble_eq_true rfl) xd_81 fl_X8_143 (q := (1, 17, 5)) (v := .int (lkV g n (nB g n (nx g n e)))) rfl (congrArg Value.int (congrFun (va_up_self _ _ _) _)) dX8_reads_58 ?_
          refine x_bipush C (v := 45) dX8_reads_61 (by decide) ?_
          refine x_icmp_ne C (tgt := 72) dX8_reads_63 (by decide) (fun h17 => ?_) (fun h17 => ?_)
          · have e2e : e2N g n e = nx g n e := if_neg (fun z => h17 (Eq.trans (lk_s z.2.1) z.2.2))
            refine WM.to (σ1 := va_up (va_up σ 10 G) 17 (lkT g n (e2N g n e) 0 (σ 17))) (τ1 := va_up τ 3 (ltW g n (e2N g n e))) ?_ (by rw [e2e]) (by rw [e2e]) rfl rfl
            refine x_aload_n C 2 dX8_reads_72 rfl rfl ?_
            refine x_aload_n C 2 dX8_reads_73 rfl rfl ?_
            refine x_get C (Nat.le_of_ble_eq_true rfl) xd_81 fl_X8_146 (q := (1, 17, 4)) (v := .int (lkK g n (nB g n (e2N g n e)))) rfl (congrArg Value.int (congrFun (va_up_self _ _ _) _)) dX8_reads_74 ?_
            refine x_iconst C (v := 2) dX8_reads_77 (by decide) ?_
            refine x_icmp_ne C (tgt := 106) dX8_reads_78 (by decide) (fun h18 => ?_) (fun h18 => ?_)
            · refine x_iconst C (v := 0) dX8_reads_106 (by decide) ?_
              refine x_callVv C (As := [.int (0)]) (rest := []) (c_must0 l E (va_up (va_up σ 10 G) 17 (lkT g n (e2N g n e) 0 (σ 17))) (va_up τ 3 (ltW g n (e2N g n e)))) kv_X8_207 (x_recv C (Nat.le_of_ble_eq_true rfl) xd_81 rfl) ⟨Nat.le_of_ble_eq_true rfl, Nat.le_of_ble_eq_true rfl⟩ rfl rfl (Nat.le_of_ble_eq_true rfl) dX8_reads_107 ?_
              refine WM.to (σ1 := va_up (va_up σ 10 G) 17 (lkT g n (e2N g n e) 1 (σ 17))) ?_ (lkT_w _ _ _ _ _ _ _) rfl rfl rfl
              refine x_aload_n C 2 dX8_reads_110 rfl rfl ?_
              refine x_get C (Nat.le_of_ble_eq_true rfl) xd_81 fl_X8_200 (q := (1, 17, 6)) (v := .int (1)) rfl (congrArg Value.int (congrFun (va_up_self _ _ _) _)) dX8_reads_111 ?_
              refine x_if_eq C (tgt := 118) dX8_reads_114 (by decide) (fun h19 => absurd h19 (by decide)) (fun h19 => ?_)
              exact x_vret C (by rw [if_neg (fun z : c < 12 ∧ okD g n e => ((fun z => h18 (lk_k.2.1.mpr z.1)) : ¬ okN g n e) z.2.2), if_neg (fun z : c < 12 ∧ okD g n e => ((fun z => h18 (lk_k.2.1.mpr z.1)) : ¬ okN g n e) z.2.2), aftR_in ((nI_ltI (a := c) (b := 12) (by omega) (by decide)).mp h2), aft_n hw (fun z => h18 (lk_k.2.1.mpr z.1))]) (by rw [aftR_in ((nI_ltI (a := c) (b := 12) (by omega) (by decide)).mp h2), aft_n hw (fun z => h18 (lk_k.2.1.mpr z.1))]) dX8_reads_117
            · refine x_aload_n C 2 dX8_reads_81 rfl rfl ?_
              refine x_get C (Nat.le_of_ble_eq_true rfl) xd_81 fl_X8_143 (q := (1, 17, 5)) (v := .int (lkV g n (nB g n (e2N g n e)))) rfl (congrArg Value.int (congrFun (va_up_self _ _ _) _)) dX8_reads_82 ?_
              refine x_i2l C dX8_reads_85 ?_
              refine x_iload_n C 1 dX8_reads_86 rfl rfl ?_
              refine x_callSi C (As := [.int (nI k)]) (rest := [.long (Int32.toInt64 (lkV g n (nB g n (e2N g n e)))), .ref (xad E (81))]) (c_leastOf l E (va_up (va_up σ 10 G) 17 (lkT g n (e2N g n e) 0 (σ 17))) (va_up τ 3 (ltW g n (e2N g n e))) k hk) ks_X8_214 ⟨Nat.le_of_ble_eq_true rfl, Nat.le_of_ble_eq_true rfl⟩ rfl rfl (Nat.le_of_ble_eq_true rfl) dX8_reads_87 ?_
              refine x_i2l C dX8_reads_90 ?_
              refine x_iload_n C 1 dX8_reads_91 rfl rfl ?_
              refine x_callSi C (As := [.int (nI k)]) (rest := [.long (Int32.toInt64 ((xzl 2).getD k 0)), .long (Int32.toInt64 (lkV g n (nB g n (e2N g n e)))), .ref (xad E (81))]) (c_mostOf l E (va_up (va_up σ 10 G) 17 (lkT g n (e2N g n e) 0 (σ 17))) (va_up τ 3 (ltW g n (e2N g n e))) k hk) ks_X8_217 ⟨Nat.le_of_ble_eq_true rfl, Nat.le_of_ble_eq_true rfl⟩ rfl rfl (Nat.le_of_ble_eq_true rfl) dX8_reads_92 ?_
              refine x_i2l C dX8_reads_95 ?_
              refine x_callSi C (As := [.long (Int32.toInt64 (lkV g n (nB g n (e2N g n e)))), .long (Int32.toInt64 ((xzl 2).getD k 0)), .long (Int32.toInt64 ((xzl 3).getD k 0))]) (rest := [.ref (xad E (81))]) (c_in l E (va_up (va_up σ 10 G) 17 (lkT g n (e2N g n e) 0 (σ 17))) (va_up τ 3 (ltW g n (e2N g n e))) (Int32.toInt64 (lkV g n (nB g n (e2N g n e)))) (Int32.toInt64 ((xzl 2).getD k 0)) (Int32.toInt64 ((xzl 3).getD k 0))) ks_X8_49 ⟨Nat.le_of_ble_eq_true rfl, Nat.le_of_ble_eq_true rfl⟩ rfl rfl (Nat.le_of_ble_eq_true rfl) dX8_reads_96 ?_
              refine WM.topi (y := if rng (lkV g n (nB g n (e2N g n e))) ((xzl 2).getD k 0) ((xzl 3).getD k 0) then 1 else 0) (in_eq (lkV g n (nB g n (e2N g n e))) ((xzl 2).getD k 0) ((xzl 3).getD k 0) rfl rfl) ?_
              refine x_ifeqB C (tgt := 106) dX8_reads_99 (by decide) (fun h20 => ?_) (fun h20 => ?_)
              · refine x_iconst C (v := 0) dX8_reads_106 (by decide) ?_
                refine x_callVv C (As := [.int (0)]) (rest := []) (c_must0 l E (va_up (va_up σ 10 G) 17 (lkT g n (e2N g n e) 0 (σ 17))) (va_up τ 3 (ltW g n (e2N g n e)))) kv_X8_207 (x_recv C (Nat.le_of_ble_eq_true rfl) xd_81 rfl) ⟨Nat.le_of_ble_eq_true rfl, Nat.le_of_ble_eq_true rfl⟩ rfl rfl (Nat.le_of_ble_eq_true rfl) dX8_reads_107 ?_
                refine WM.to (σ1 := va_up (va_up σ 10 G) 17 (lkT g n (e2N g n e) 1 (σ 17))) ?_ (lkT_w _ _ _ _ _ _ _) rfl rfl rfl
                refine x_aload_n C 2 dX8_reads_110 rfl rfl ?_
                refine x_get C (Nat.le_of_ble_eq_true rfl) xd_81 fl_X8_200 (q := (1, 17, 6)) (v := .int (1)) rfl (congrArg Value.int (congrFun (va_up_self _ _ _) _)) dX8_reads_111 ?_
                refine x_if_eq C (tgt := 118) dX8_reads_114 (by decide) (fun h21 => absurd h21 (by decide)) (fun h21 => ?_)
                exact x_vret C (by rw [if_neg (fun z : c < 12 ∧ okD g n e => ((fun z => h20 ((lk_r (g := g) (nB_le hn2).2 z.1 (most_le k hk)).1.mpr (by have z2 := z.2; rw [ek, nI_clamp (by omega)] at z2; exact z2))) : ¬ okN g n e) z.2.2), if_neg (fun z : c < 12 ∧ okD g n e => ((fun z => h20 ((lk_r (g := g) (nB_le hn2).2 z.1 (most_le k hk)).1.mpr (by have z2 := z.2; rw [ek, nI_clamp (by omega)] at z2; exact z2))) : ¬ okN g n e) z.2.2), aftR_in ((nI_ltI (a := c) (b := 12) (by omega) (by decide)).mp h2), aft_n hw (fun z => h20 ((lk_r (g := g) (nB_le hn2).2 z.1 (most_le k hk)).1.mpr (by have z2 := z.2; rw [ek, nI_clamp (by omega)] at z2; exact z2)))]) (by rw [aftR_in ((nI_ltI (a := c) (b := 12) (by omega) (by decide)).mp h2), aft_n hw (fun z => h20 ((lk_r (g := g) (nB_le hn2).2 z.1 (most_le k hk)).1.mpr (by have z2 := z.2; rw [ek, nI_clamp (by omega)] at z2; exact z2)))]) dX8_reads_117
              · refine x_iconst C (v := 1) dX8_reads_102 (by decide) ?_
                refine x_goto2 C (tgt := 107) dX8_reads_103 (by decide) ?_
                refine x_callVv C (As := [.int (1)]) (rest := []) (c_must1 l E (va_up (va_up σ 10 G) 17 (lkT g n (e2N g n e) 0 (σ 17))) (va_up τ 3 (ltW g n (e2N g n e))) (congrFun (va_up_self _ _ _) _)) kv_X8_207 (x_recv C (Nat.le_of_ble_eq_true rfl) xd_81 rfl) ⟨Nat.le_of_ble_eq_true rfl, Nat.le_of_ble_eq_true rfl⟩ rfl rfl (Nat.le_of_ble_eq_true rfl) dX8_reads_107 ?_
                refine x_aload_n C 2 dX8_reads_110 rfl rfl ?_
                refine x_get C (Nat.le_of_ble_eq_true rfl) xd_81 fl_X8_200 (q := (1, 17, 6)) (v := .int (0)) rfl (congrArg Value.int (congrFun (va_up_self _ _ _) _)) dX8_reads_111 ?_
                refine x_if_eq C (tgt := 118) dX8_reads_114 (by decide) (fun h22 => ?_) (fun h22 => absurd h22 (by decide))
                have h1t : tT g n (e2N g n e) = 1 := lk_k.2.1.mp h18
                have hrr := lk_r (g := g) (n := n) (b := nB g n (e2N g n e)) (lo := (xzl 2).getD k 0) (hi := (xzl 3).getD k 0) (nB_le hn2).2 h1t (most_le k hk)
                have hrg := hrr.1.mp h20
                have hd : okD g n e := ⟨hw, h1t, by rw [ek, nI_clamp (by omega)]; exact hrg⟩
                have hc12 : c < 12 := (nI_ltI (a := c) (b := 12) (by omega) (by decide)).mp h2
                refine WM.to (σ1 := va_up (va_up σ 17 (lkT g n (e2N g n e) 0 (σ 17))) 10 G) ?_ (xswap (by decide)) rfl rfl rfl
                refine x_aload_n C 2 dX8_reads_118 rfl rfl ?_
                refine x_get C (Nat.le_of_ble_eq_true rfl) xd_81 fl_X8_9 (q := (0, 82, 0)) (v := .ref (xad E (82))) rfl rfl dX8_reads_119 ?_
                refine x_iload_n C 3 dX8_reads_122 rfl rfl ?_
                refine x_iconst C (v := 1) dX8_reads_123 (by decide) ?_
                refine x_iadd C dX8_reads_124 ?_
                refine WM.topi (y := nI (134 + 25 * q + 1)) (nI_add (134 + 25 * q) 1) ?_
                refine x_iconst C (v := 2) dX8_reads_125 (by decide) ?_
                refine x_aload_n C 2 dX8_reads_126 rfl rfl ?_
                refine x_get C (Nat.le_of_ble_eq_true rfl) xd_81 fl_X8_9 (q := (0, 82, 0)) (v := .ref (xad E (82))) rfl rfl dX8_reads_127 ?_
                refine x_iload_n C 3 dX8_reads_130 rfl rfl ?_
                refine x_ald C (Nat.le_of_ble_eq_true rfl) xd_82 (v := nI c) (vp_in_nI (show 134 + 25 * q < 284 by omega) (by decide)) (by rw [nI_clamp (by omega), Nat.zero_add, Nat.one_mul]; exact (Eq.trans (congrFun (va_up_self _ _ _) _) hc)) dX8_reads_131 ?_
                refine x_imul C dX8_reads_132 ?_
                refine WM.topi (y := nI (2 * c)) (pk_mul 2 c) ?_
                refine x_iadd C dX8_reads_133 ?_
                refine WM.topi (y := nI (134 + 25 * q + 1 + (2 * c))) (nI_add (134 + 25 * q + 1) (2 * c)) ?_
                refine WM.topi (y := nI (135 + 25 * q + 2 * c)) (congrArg nI (by omega)) ?_
                refine x_iload_n C 1 dX8_reads_134 rfl rfl ?_
                refine x_ast C (σ' := va_up (va_up σ 17 (lkT g n (e2N g n e) 0 (σ 17))) 10 (upd G (135 + 25 * q + 2 * c) (nI k))) (Nat.le_of_ble_eq_true rfl) xd_82 (by decide) (vp_in_nI (show 135 + 25 * q + 2 * c < 284 by omega) (by decide)) (by rw [(nI_clamp (show 135 + 25 * q + 2 * c < 2 ^ 31 by omega)), Nat.zero_add, Nat.one_mul]; exact (u2_bank _ _ _ _ _)) dX8_reads_135 ?_
                refine x_aload_n C 2 dX8_reads_136 rfl rfl ?_
                refine x_get C (Nat.le_of_ble_eq_true rfl) xd_81 fl_X8_9 (q := (0, 82, 0)) (v := .ref (xad E (82))) rfl rfl dX8_reads_137 ?_
                refine x_iload_n C 3 dX8_reads_140 rfl rfl ?_
                refine x_iconst C (v := 2) dX8_reads_141 (by decide) ?_
                refine x_iadd C dX8_reads_142 ?_
                refine WM.topi (y := nI (134 + 25 * q + 2)) (nI_add (134 + 25 * q) 2) ?_
                refine x_iconst C (v := 2) dX8_reads_143 (by decide) ?_
                refine x_aload_n C 2 dX8_reads_144 rfl rfl ?_
                refine x_get C (Nat.le_of_ble_eq_true rfl) xd_81 fl_X8_9 (q := (0, 82, 0)) (v := .ref (xad E (82))) rfl rfl dX8_reads_145 ?_
                refine x_iload_n C 3 dX8_reads_148 rfl rfl ?_
                refine x_ald C (Nat.le_of_ble_eq_true rfl) xd_82 (v := nI c) (vp_in_nI (show 134 + 25 * q < 284 by omega) (by decide)) (by rw [nI_clamp (by omega), Nat.zero_add, Nat.one_mul]; exact (Eq.trans (Eq.trans (congrFun (va_up_self _ _ _) _) (upd_ne (j := 134 + 25 * q) (k := 135 + 25 * q + 2 * c) (by omega))) hc)) dX8_reads_149 ?_
                refine x_imul C dX8_reads_150 ?_
                refine WM.topi (y := nI (2 * c)) (pk_mul 2 c) ?_
                refine x_iadd C dX8_reads_151 ?_
                refine WM.topi (y := nI (134 + 25 * q + 2 + (2 * c))) (nI_add (134 + 25 * q + 2) (2 * c)) ?_
                refine WM.topi (y := nI (136 + 25 * q + 2 * c)) (congrArg nI (by omega)) ?_
                refine x_iload_n C 0 dX8_reads_152 rfl rfl ?_
                refine x_aload_n C 2 dX8_reads_153 rfl rfl ?_
                refine x_get C (Nat.le_of_ble_eq_true rfl) xd_81 fl_X8_143 (q := (1, 17, 5)) (v := .int (lkV g n (nB g n (e2N g n e)))) rfl (congrArg Value.int (Eq.trans (congrFun (va_up_ne _ (j := 17) (k := 10) _ (by decide)) _) (congrFun (va_up_self _ _ _) _))) dX8_reads_154 ?_
                refine x_imul C dX8_reads_157 ?_
                refine WM.topi (y := nmD g n e) (by rw [hrr.2 hrg, show nmD g n e = _ from if_neg (fun z => h17 (Eq.trans (lk_s z.2.1) z.2.2))]; exact Int32.one_mul _) ?_
                refine x_ast C (σ' := va_up (va_up σ 17 (lkT g n (e2N g n e) 0 (σ 17))) 10 (upd (upd G (135 + 25 * q + 2 * c) (nI k)) (136 + 25 * q + 2 * c) (nmD g n e))) (Nat.le_of_ble_eq_true rfl) xd_82 (by decide) (vp_in_nI (show 136 + 25 * q + 2 * c < 284 by omega) (by decide)) (by rw [(nI_clamp (show 136 + 25 * q + 2 * c < 2 ^ 31 by omega)), Nat.zero_add, Nat.one_mul]; exact (u2_bank _ _ _ _ _)) dX8_reads_158 ?_
                refine x_aload_n C 2 dX8_reads_159 rfl rfl ?_
                refine x_get C (Nat.le_of_ble_eq_true rfl) xd_81 fl_X8_9 (q := (0, 82, 0)) (v := .ref (xad E (82))) rfl rfl dX8_reads_160 ?_
                refine x_iload_n C 3 dX8_reads_163 rfl rfl ?_
                refine x_dup2 C dX8_reads_164 rfl rfl ?_
                refine x_ald C (Nat.le_of_ble_eq_true rfl) xd_82 (v := nI c) (vp_in_nI (show 134 + 25 * q < 284 by omega) (by decide)) (by rw [nI_clamp (by omega), Nat.zero_add, Nat.one_mul]; exact (Eq.trans (Eq.trans (congrFun (va_up_self _ _ _) _) (Eq.trans (upd_ne (j := 134 + 25 * q) (k := 136 + 25 * q + 2 * c) (by omega)) (upd_ne (j := 134 + 25 * q) (k := 135 + 25 * q + 2 * c) (by omega)))) hc)) dX8_reads_165 ?_
                refine x_iconst C (v := 1) dX8_reads_166 (by decide) ?_
                refine x_iadd C dX8_reads_167 ?_
                refine WM.topi (y := nI (c + 1)) (nI_add c 1) ?_
                refine x_ast C (σ' := va_up (va_up σ 17 (lkT g n (e2N g n e) 0 (σ 17))) 10 (upd (upd (upd G (135 + 25 * q + 2 * c) (nI k)) (136 + 25 * q + 2 * c) (nmD g n e)) (134 + 25 * q) (nI (c + 1)))) (Nat.le_of_ble_eq_true rfl) xd_82 (by decide) (vp_in_nI (show 134 + 25 * q < 284 by omega) (by decide)) (by rw [(nI_clamp (show 134 + 25 * q < 2 ^ 31 by omega)), Nat.zero_add, Nat.one_mul]; exact (u2_bank _ _ _ _ _)) dX8_reads_168 ?_
                refine x_aload_n C 2 dX8_reads_169 rfl rfl ?_
                refine WM.to (σ1 := va_up (va_up σ 10 (upd (upd (upd G (135 + 25 * q + 2 * c) (nI k)) (136 + 25 * q + 2 * c) (nmD g n e)) (134 + 25 * q) (nI (c + 1)))) 17 (lkT g n (e2N g n e) 0 (σ 17))) ?_ (xswap (by decide)) rfl rfl rfl
                refine x_callVv C (As := []) (rest := []) (c_look l E (va_up (va_up σ 10 (upd (upd (upd G (135 + 25 * q + 2 * c) (nI k)) (136 + 25 * q + 2 * c) (nmD g n e)) (134 + 25 * q) (nI (c + 1)))) 17 (lkT g n (e2N g n e) 0 (σ 17))) (va_up τ 3 (ltW g n (e2N g n e))) (nx g n (e2N g n e)) g n hn (Eq.trans (Eq.trans (va_up_ne _ (j := 16) (k := 17) _ (by decide)) (va_up_ne _ (j := 16) (k := 10) _ (by decide))) hg) (Eq.trans (congrFun (va_up_self _ _ _) _) ht) (nx_le hn2) (Eq.trans (congrFun (va_up_self _ _ _) _) (congrArg nI (lk_a (by rw [show tkT g n (nB g n (e2N g n e)) = 1 from h1t]; decide))))) kv_X8_211 (x_recv C (Nat.le_of_ble_eq_true rfl) xd_81 rfl) ⟨Nat.le_of_ble_eq_true rfl, Nat.le_of_ble_eq_true rfl⟩ rfl rfl (Nat.le_of_ble_eq_true rfl) dX8_reads_170 ?_
                refine WM.to (σ1 := va_up (va_up σ 10 (upd (upd (upd G (135 + 25 * q + 2 * c) (nI k)) (136 + 25 * q + 2 * c) (nmD g n e)) (134 + 25 * q) (nI (c + 1)))) 17 (lkT g n (nx g n (e2N g n e)) 0 (σ 17))) (τ1 := va_up τ 3 (ltW g n (nx g n (e2N g n e)))) ?_ (lkT_lkT _ _ _ _ _ _ _) (lkU _ _ _ _) rfl rfl
                exact x_vret C (by rw [if_pos ⟨hc12, hd⟩, if_pos ⟨hc12, hd⟩, aftR_in hc12, aft_ok hd, ek]; rfl) (by rw [aftR_in hc12, aft_ok hd]) dX8_reads_173
          · refine x_iconst C (v := -1) dX8_reads_66 (by decide) ?_
            refine x_istore_n C (lv1 := [(3, .int ((-1))), (2, .int (nI k)), (0, .ref (xad E (81))), (1, .int (nI (134 + 25 * q)))]) dX8_reads_67 rfl (by decide) rfl ?_
            refine x_aload_n C 2 dX8_reads_68 rfl rfl ?_
            refine x_callVv C (As := []) (rest := []) (c_look l E (va_up (va_up σ 10 G) 17 (lkT g n (nx g n e) 0 (σ 17))) (va_up τ 3 (ltW g n (nx g n e))) (nx g n (nx g n e)) g n hn (Eq.trans (Eq.trans (va_up_ne _ (j := 16) (k := 17) _ (by decide)) (va_up_ne _ (j := 16) (k := 10) _ (by decide))) hg) (Eq.trans (congrFun (va_up_self _ _ _) _) ht) (nx_le hn1) (Eq.trans (congrFun (va_up_self _ _ _) _) (congrArg nI (lk_a (by rw [show tkT g n (nB g n (nx g n e)) = 2 from lk_k.2.2.mp h11]; decide))))) kv_X8_211 (x_recv C (Nat.le_of_ble_eq_true rfl) xd_81 rfl) ⟨Nat.le_of_ble_eq_true rfl, Nat.le_of_ble_eq_true rfl⟩ rfl rfl (Nat.le_of_ble_eq_true rfl) dX8_reads_69 ?_
            refine WM.to (σ1 := va_up (va_up σ 10 G) 17 (lkT g n (nx g n (nx g n e)) 0 (σ 17))) (τ1 := va_up τ 3 (ltW g n (nx g n (nx g n e)))) ?_ (lkT_lkT _ _ _ _ _ _ _) (lkU _ _ _ _) rfl rfl
            have e2e : e2N g n e = nx g n (nx g n e) := if_pos ⟨Eq.trans ek h5, (lk_k.2.2.mp h11), (Eq.trans (lk_s (lk_k.2.2.mp h11)).symm h17)⟩
            refine WM.to (σ1 := va_up (va_up σ 10 G) 17 (lkT g n (e2N g n e) 0 (σ 17))) (τ1 := va_up τ 3 (ltW g n (e2N g n e))) ?_ (by rw [e2e]) (by rw [e2e]) rfl rfl
            refine x_aload_n C 2 dX8_reads_72 rfl rfl ?_
            refine x_aload_n C 2 dX8_reads_73 rfl rfl ?_
            refine x_get C (Nat.le_of_ble_eq_true rfl) xd_81 fl_X8_146 (q := (1, 17, 4)) (v := .int (lkK g n (nB g n (e2N g n e)))) rfl (congrArg Value.int (congrFun (va_up_self _ _ _) _)) dX8_reads_74 ?_
            refine x_iconst C (v := 2) dX8_reads_77 (by decide) ?_
            refine x_icmp_ne C (tgt := 106) dX8_reads_78 (by decide) (fun h23 => ?_) (fun h23 => ?_)
            · refine x_iconst C (v := 0) dX8_reads_106 (by decide) ?_
              refine x_callVv C (As := [.int (0)]) (rest := []) (c_must0 l E (va_up (va_up σ 10 G) 17 (lkT g n (e2N g n e) 0 (σ 17))) (va_up τ 3 (ltW g n (e2N g n e)))) kv_X8_207 (x_recv C (Nat.le_of_ble_eq_true rfl) xd_81 rfl) ⟨Nat.le_of_ble_eq_true rfl, Nat.le_of_ble_eq_true rfl⟩ rfl rfl (Nat.le_of_ble_eq_true rfl) dX8_reads_107 ?_
              refine WM.to (σ1 := va_up (va_up σ 10 G) 17 (lkT g n (e2N g n e) 1 (σ 17))) ?_ (lkT_w _ _ _ _ _ _ _) rfl rfl rfl
              refine x_aload_n C 2 dX8_reads_110 rfl rfl ?_
              refine x_get C (Nat.le_of_ble_eq_true rfl) xd_81 fl_X8_200 (q := (1, 17, 6)) (v := .int (1)) rfl (congrArg Value.int (congrFun (va_up_self _ _ _) _)) dX8_reads_111 ?_
              refine x_if_eq C (tgt := 118) dX8_reads_114 (by decide) (fun h24 => absurd h24 (by decide)) (fun h24 => ?_)
              exact x_vret C (by rw [if_neg (fun z : c < 12 ∧ okD g n e => ((fun z => h23 (lk_k.2.1.mpr z.1)) : ¬ okN g n e) z.2.2), if_neg (fun z : c < 12 ∧ okD g n e => ((fun z => h23 (lk_k.2.1.mpr z.1)) : ¬ okN g n e) z.2.2), aftR_in ((nI_ltI (a := c) (b := 12) (by omega) (by decide)).mp h2), aft_n hw (fun z => h23 (lk_k.2.1.mpr z.1))]) (by rw [aftR_in ((nI_ltI (a := c) (b := 12) (by omega) (by decide)).mp h2), aft_n hw (fun z => h23 (lk_k.2.1.mpr z.1))]) dX8_reads_117
            · refine x_aload_n C 2 dX8_reads_81 rfl rfl ?_
              refine x_get C (Nat.le_of_ble_eq_true rfl) xd_81 fl_X8_143 (q := (1, 17, 5)) (v := .int (lkV g n (nB g n (e2N g n e)))) rfl (congrArg Value.int (congrFun (va_up_self _ _ _) _)) dX8_reads_82 ?_
              refine x_i2l C dX8_reads_85 ?_
              refine x_iload_n C 1 dX8_reads_86 rfl rfl ?_
              refine x_callSi C (As := [.int (nI k)]) (rest := [.long (Int32.toInt64 (lkV g n (nB g n (e2N g n e)))), .ref (xad E (81))]) (c_leastOf l E (va_up (va_up σ 10 G) 17 (lkT g n (e2N g n e) 0 (σ 17))) (va_up τ 3 (ltW g n (e2N g n e))) k hk) ks_X8_214 ⟨Nat.le_of_ble_eq_true rfl, Nat.le_of_ble_eq_true rfl⟩ rfl rfl (Nat.le_of_ble_eq_true rfl) dX8_reads_87 ?_
              refine x_i2l C dX8_reads_90 ?_
              refine x_iload_n C 1 dX8_reads_91 rfl rfl ?_
              refine x_callSi C (As := [.int (nI k)]) (rest := [.long (Int32.toInt64 ((xzl 2).getD k 0)), .long (Int32.toInt64 (lkV g n (nB g n (e2N g n e)))), .ref (xad E (81))]) (c_mostOf l E (va_up (va_up σ 10 G) 17 (lkT g n (e2N g n e) 0 (σ 17))) (va_up τ 3 (ltW g n (e2N g n e))) k hk) ks_X8_217 ⟨Nat.le_of_ble_eq_true rfl, Nat.le_of_ble_eq_true rfl⟩ rfl rfl (Nat.le_of_ble_eq_true rfl) dX8_reads_92 ?_
              refine x_i2l C dX8_reads_95 ?_
              refine x_callSi C (As := [.long (Int32.toInt64 (lkV g n (nB g n (e2N g n e)))), .long (Int32.toInt64 ((xzl 2).getD k 0)), .long (Int32.toInt64 ((xzl 3).getD k 0))]) (rest := [.ref (xad E (81))]) (c_in l E (va_up (va_up σ 10 G) 17 (lkT g n (e2N g n e) 0 (σ 17))) (va_up τ 3 (ltW g n (e2N g n e))) (Int32.toInt64 (lkV g n (nB g n (e2N g n e)))) (Int32.toInt64 ((xzl 2).getD k 0)) (Int32.toInt64 ((xzl 3).getD k 0))) ks_X8_49 ⟨Nat.le_of_ble_eq_true rfl, Nat.le_of_ble_eq_true rfl⟩ rfl rfl (Nat.le_of_ble_eq_true rfl) dX8_reads_96 ?_
              refine WM.topi (y := if rng (lkV g n (nB g n (e2N g n e))) ((xzl 2).getD k 0) ((xzl 3).getD k 0) then 1 else 0) (in_eq (lkV g n (nB g n (e2N g n e))) ((xzl 2).getD k 0) ((xzl 3).getD k 0) rfl rfl) ?_
              refine x_ifeqB C (tgt := 106) dX8_reads_99 (by decide) (fun h25 => ?_) (fun h25 => ?_)
              · refine x_iconst C (v := 0) dX8_reads_106 (by decide) ?_
                refine x_callVv C (As := [.int (0)]) (rest := []) (c_must0 l E (va_up (va_up σ 10 G) 17 (lkT g n (e2N g n e) 0 (σ 17))) (va_up τ 3 (ltW g n (e2N g n e)))) kv_X8_207 (x_recv C (Nat.le_of_ble_eq_true rfl) xd_81 rfl) ⟨Nat.le_of_ble_eq_true rfl, Nat.le_of_ble_eq_true rfl⟩ rfl rfl (Nat.le_of_ble_eq_true rfl) dX8_reads_107 ?_
                refine WM.to (σ1 := va_up (va_up σ 10 G) 17 (lkT g n (e2N g n e) 1 (σ 17))) ?_ (lkT_w _ _ _ _ _ _ _) rfl rfl rfl
                refine x_aload_n C 2 dX8_reads_110 rfl rfl ?_
                refine x_get C (Nat.le_of_ble_eq_true rfl) xd_81 fl_X8_200 (q := (1, 17, 6)) (v := .int (1)) rfl (congrArg Value.int (congrFun (va_up_self _ _ _) _)) dX8_reads_111 ?_
                refine x_if_eq C (tgt := 118) dX8_reads_114 (by decide) (fun h26 => absurd h26 (by decide)) (fun h26 => ?_)
                exact x_vret C (by rw [if_neg (fun z : c < 12 ∧ okD g n e => ((fun z => h25 ((lk_r (g := g) (nB_le hn2).2 z.1 (most_le k hk)).1.mpr (by have z2 := z.2; rw [ek, nI_clamp (by omega)] at z2; exact z2))) : ¬ okN g n e) z.2.2), if_neg (fun z : c < 12 ∧ okD g n e => ((fun z => h25 ((lk_r (g := g) (nB_le hn2).2 z.1 (most_le k hk)).1.mpr (by have z2 := z.2; rw [ek, nI_clamp (by omega)] at z2; exact z2))) : ¬ okN g n e) z.2.2), aftR_in ((nI_ltI (a := c) (b := 12) (by omega) (by decide)).mp h2), aft_n hw (fun z => h25 ((lk_r (g := g) (nB_le hn2).2 z.1 (most_le k hk)).1.mpr (by have z2 := z.2; rw [ek, nI_clamp (by omega)] at z2; exact z2)))]) (by rw [aftR_in ((nI_ltI (a := c) (b := 12) (by omega) (by decide)).mp h2), aft_n hw (fun z => h25 ((lk_r (g := g) (nB_le hn2).2 z.1 (most_le k hk)).1.mpr (by have z2 := z.2; rw [ek, nI_clamp (by omega)] at z2; exact z2)))]) dX8_reads_117
              · refine x_iconst C (v := 1) dX8_reads_102 (by decide) ?_
                refine x_goto2 C (tgt := 107) dX8_reads_103 (by decide) ?_
                refine x_callVv C (As := [.int (1)]) (rest := []) (c_must1 l E (va_up (va_up σ 10 G) 17 (lkT g n (e2N g n e) 0 (σ 17))) (va_up τ 3 (ltW g n (e2N g n e))) (congrFun (va_up_self _ _ _) _)) kv_X8_207 (x_recv C (Nat.le_of_ble_eq_true rfl) xd_81 rfl) ⟨Nat.le_of_ble_eq_true rfl, Nat.le_of_ble_eq_true rfl⟩ rfl rfl (Nat.le_of_ble_eq_true rfl) dX8_reads_107 ?_
                refine x_aload_n C 2 dX8_reads_110 rfl rfl ?_
                refine x_get C (Nat.le_of_ble_eq_true rfl) xd_81 fl_X8_200 (q := (1, 17, 6)) (v := .int (0)) rfl (congrArg Value.int (congrFun (va_up_self _ _ _) _)) dX8_reads_111 ?_
                refine x_if_eq C (tgt := 118) dX8_reads_114 (by decide) (fun h27 => ?_) (fun h27 => absurd h27 (by decide))
                have h1t : tT g n (e2N g n e) = 1 := lk_k.2.1.mp h23
                have hrr := lk_r (g := g) (n := n) (b := nB g n (e2N g n e)) (lo := (xzl 2).getD k 0) (hi := (xzl 3).getD k 0) (nB_le hn2).2 h1t (most_le k hk)
                have hrg := hrr.1.mp h25
                have hd : okD g n e := ⟨hw, h1t, by rw [ek, nI_clamp (by omega)]; exact hrg⟩
                have hc12 : c < 12 := (nI_ltI (a := c) (b := 12) (by omega) (by decide)).mp h2
                refine WM.to (σ1 := va_up (va_up σ 17 (lkT g n (e2N g n e) 0 (σ 17))) 10 G) ?_ (xswap (by decide)) rfl rfl rfl
                refine x_aload_n C 2 dX8_reads_118 rfl rfl ?_
                refine x_get C (Nat.le_of_ble_eq_true rfl) xd_81 fl_X8_9 (q := (0, 82, 0)) (v := .ref (xad E (82))) rfl rfl dX8_reads_119 ?_
                refine x_iload_n C 3 dX8_reads_122 rfl rfl ?_
                refine x_iconst C (v := 1) dX8_reads_123 (by decide) ?_
                refine x_iadd C dX8_reads_124 ?_
                refine WM.topi (y := nI (134 + 25 * q + 1)) (nI_add (134 + 25 * q) 1) ?_
                refine x_iconst C (v := 2) dX8_reads_125 (by decide) ?_
                refine x_aload_n C 2 dX8_reads_126 rfl rfl ?_
                refine x_get C (Nat.le_of_ble_eq_true rfl) xd_81 fl_X8_9 (q := (0, 82, 0)) (v := .ref (xad E (82))) rfl rfl dX8_reads_127 ?_
                refine x_iload_n C 3 dX8_reads_130 rfl rfl ?_
                refine x_ald C (Nat.le_of_ble_eq_true rfl) xd_82 (v := nI c) (vp_in_nI (show 134 + 25 * q < 284 by omega) (by decide)) (by rw [nI_clamp (by omega), Nat.zero_add, Nat.one_mul]; exact (Eq.trans (congrFun (va_up_self _ _ _) _) hc)) dX8_reads_131 ?_
                refine x_imul C dX8_reads_132 ?_
                refine WM.topi (y := nI (2 * c)) (pk_mul 2 c) ?_
                refine x_iadd C dX8_reads_133 ?_
                refine WM.topi (y := nI (134 + 25 * q + 1 + (2 * c))) (nI_add (134 + 25 * q + 1) (2 * c)) ?_
                refine WM.topi (y := nI (135 + 25 * q + 2 * c)) (congrArg nI (by omega)) ?_
                refine x_iload_n C 1 dX8_reads_134 rfl rfl ?_
                refine x_ast C (σ' := va_up (va_up σ 17 (lkT g n (e2N g n e) 0 (σ 17))) 10 (upd G (135 + 25 * q + 2 * c) (nI k))) (Nat.le_of_ble_eq_true rfl) xd_82 (by decide) (vp_in_nI (show 135 + 25 * q + 2 * c < 284 by omega) (by decide)) (by rw [(nI_clamp (show 135 + 25 * q + 2 * c < 2 ^ 31 by omega)), Nat.zero_add, Nat.one_mul]; exact (u2_bank _ _ _ _ _)) dX8_reads_135 ?_
                refine x_aload_n C 2 dX8_reads_136 rfl rfl ?_
                refine x_get C (Nat.le_of_ble_eq_true rfl) xd_81 fl_X8_9 (q := (0, 82, 0)) (v := .ref (xad E (82))) rfl rfl dX8_reads_137 ?_
                refine x_iload_n C 3 dX8_reads_140 rfl rfl ?_
                refine x_iconst C (v := 2) dX8_reads_141 (by decide) ?_
                refine x_iadd C dX8_reads_142 ?_
                refine WM.topi (y := nI (134 + 25 * q + 2)) (nI_add (134 + 25 * q) 2) ?_
                refine x_iconst C (v := 2) dX8_reads_143 (by decide) ?_
                refine x_aload_n C 2 dX8_reads_144 rfl rfl ?_
                refine x_get C (Nat.le_of_ble_eq_true rfl) xd_81 fl_X8_9 (q := (0, 82, 0)) (v := .ref (xad E (82))) rfl rfl dX8_reads_145 ?_
                refine x_iload_n C 3 dX8_reads_148 rfl rfl ?_
                refine x_ald C (Nat.le_of_ble_eq_true rfl) xd_82 (v := nI c) (vp_in_nI (show 134 + 25 * q < 284 by omega) (by decide)) (by rw [nI_clamp (by omega), Nat.zero_add, Nat.one_mul]; exact (Eq.trans (Eq.trans (congrFun (va_up_self _ _ _) _) (upd_ne (j := 134 + 25 * q) (k := 135 + 25 * q + 2 * c) (by omega))) hc)) dX8_reads_149 ?_
                refine x_imul C dX8_reads_150 ?_
                refine WM.topi (y := nI (2 * c)) (pk_mul 2 c) ?_
                refine x_iadd C dX8_reads_151 ?_
                refine WM.topi (y := nI (134 + 25 * q + 2 + (2 * c))) (nI_add (134 + 25 * q + 2) (2 * c)) ?_
                refine WM.topi (y := nI (136 + 25 * q + 2 * c)) (congrArg nI (by omega)) ?_
                refine x_iload_n C 0 dX8_reads_152 rfl rfl ?_
                refine x_aload_n C 2 dX8_reads_153 rfl rfl ?_
                refine x_get C (Nat.le_of_ble_eq_true rfl) xd_81 fl_X8_143 (q := (1, 17, 5)) (v := .int (lkV g n (nB g n (e2N g n e)))) rfl (congrArg Value.int (Eq.trans (congrFun (va_up_ne _ (j := 17) (k := 10) _ (by decide)) _) (congrFun (va_up_self _ _ _) _))) dX8_reads_154 ?_
                refine x_imul C dX8_reads_157 ?_
                refine WM.topi (y := nmD g n e) (by rw [hrr.2 hrg, show nmD g n e = _ from if_pos ⟨Eq.trans ek h5, (lk_k.2.2.mp h11), (Eq.trans (lk_s (lk_k.2.2.mp h11)).symm h17)⟩]; exact neg1 _) ?_
                refine x_ast C (σ' := va_up (va_up σ 17 (lkT g n (e2N g n e) 0 (σ 17))) 10 (upd (upd G (135 + 25 * q + 2 * c) (nI k)) (136 + 25 * q + 2 * c) (nmD g n e))) (Nat.le_of_ble_eq_true rfl) xd_82 (by decide) (vp_in_nI (show 136 + 25 * q + 2 * c < 284 by omega) (by decide)) (by rw [(nI_clamp (show 136 + 25 * q + 2 * c < 2 ^ 31 by omega)), Nat.zero_add, Nat.one_mul]; exact (u2_bank _ _ _ _ _)) dX8_reads_158 ?_
                refine x_aload_n C 2 dX8_reads_159 rfl rfl ?_
                refine x_get C (Nat.le_of_ble_eq_true rfl) xd_81 fl_X8_9 (q := (0, 82, 0)) (v := .ref (xad E (82))) rfl rfl dX8_reads_160 ?_
                refine x_iload_n C 3 dX8_reads_163 rfl rfl ?_
                refine x_dup2 C dX8_reads_164 rfl rfl ?_
                refine x_ald C (Nat.le_of_ble_eq_true rfl) xd_82 (v := nI c) (vp_in_nI (show 134 + 25 * q < 284 by omega) (by decide)) (by rw [nI_clamp (by omega), Nat.zero_add, Nat.one_mul]; exact (Eq.trans (Eq.trans (congrFun (va_up_self _ _ _) _) (Eq.trans (upd_ne (j := 134 + 25 * q) (k := 136 + 25 * q + 2 * c) (by omega)) (upd_ne (j := 134 + 25 * q) (k := 135 + 25 * q + 2 * c) (by omega)))) hc)) dX8_reads_165 ?_
                refine x_iconst C (v := 1) dX8_reads_166 (by decide) ?_
                refine x_iadd C dX8_reads_167 ?_
                refine WM.topi (y := nI (c + 1)) (nI_add c 1) ?_
                refine x_ast C (σ' := va_up (va_up σ 17 (lkT g n (e2N g n e) 0 (σ 17))) 10 (upd (upd (upd G (135 + 25 * q + 2 * c) (nI k)) (136 + 25 * q + 2 * c) (nmD g n e)) (134 + 25 * q) (nI (c + 1)))) (Nat.le_of_ble_eq_true rfl) xd_82 (by decide) (vp_in_nI (show 134 + 25 * q < 284 by omega) (by decide)) (by rw [(nI_clamp (show 134 + 25 * q < 2 ^ 31 by omega)), Nat.zero_add, Nat.one_mul]; exact (u2_bank _ _ _ _ _)) dX8_reads_168 ?_
                refine x_aload_n C 2 dX8_reads_169 rfl rfl ?_
                refine WM.to (σ1 := va_up (va_up σ 10 (upd (upd (upd G (135 + 25 * q + 2 * c) (nI k)) (136 + 25 * q + 2 * c) (nmD g n e)) (134 + 25 * q) (nI (c + 1)))) 17 (lkT g n (e2N g n e) 0 (σ 17))) ?_ (xswap (by decide)) rfl rfl rfl
                refine x_callVv C (As := []) (rest := []) (c_look l E (va_up (va_up σ 10 (upd (upd (upd G (135 + 25 * q + 2 * c) (nI k)) (136 + 25 * q + 2 * c) (nmD g n e)) (134 + 25 * q) (nI (c + 1)))) 17 (lkT g n (e2N g n e) 0 (σ 17))) (va_up τ 3 (ltW g n (e2N g n e))) (nx g n (e2N g n e)) g n hn (Eq.trans (Eq.trans (va_up_ne _ (j := 16) (k := 17) _ (by decide)) (va_up_ne _ (j := 16) (k := 10) _ (by decide))) hg) (Eq.trans (congrFun (va_up_self _ _ _) _) ht) (nx_le hn2) (Eq.trans (congrFun (va_up_self _ _ _) _) (congrArg nI (lk_a (by rw [show tkT g n (nB g n (e2N g n e)) = 1 from h1t]; decide))))) kv_X8_211 (x_recv C (Nat.le_of_ble_eq_true rfl) xd_81 rfl) ⟨Nat.le_of_ble_eq_true rfl, Nat.le_of_ble_eq_true rfl⟩ rfl rfl (Nat.le_of_ble_eq_true rfl) dX8_reads_170 ?_
                refine WM.to (σ1 := va_up (va_up σ 10 (upd (upd (upd G (135 + 25 * q + 2 * c) (nI k)) (136 + 25 * q + 2 * c) (nmD g n e)) (134 + 25 * q) (nI (c + 1)))) 17 (lkT g n (nx g n (e2N g n e)) 0 (σ 17))) (τ1 := va_up τ 3 (ltW g n (nx g n (e2N g n e)))) ?_ (lkT_lkT _ _ _ _ _ _ _) (lkU _ _ _ _) rfl rfl
                exact x_vret C (by rw [if_pos ⟨hc12, hd⟩, if_pos ⟨hc12, hd⟩, aftR_in hc12, aft_ok hd, ek]; rfl) (by rw [aftR_in hc12, aft_ok hd]) dX8_reads_173
  · refine WM.to (lv1 := [(2, .int ((-1))), (0, .ref (xad E (81))), (1, .int (nI (134 + 25 * q)))]) ?_ rfl rfl (by rw [dr_bad hen hw]) rfl
    refine x_aload_n C 1 dX8_reads_5 rfl rfl ?_
    refine x_iload_n C 0 dX8_reads_6 rfl rfl ?_
    refine x_if_lt C (tgt := 25) dX8_reads_7 (by decide) (fun h28 => ?_) (fun h28 => absurd h28 (by decide))
    refine x_iconst C (v := 0) dX8_reads_25 (by decide) ?_
    refine x_callVv C (As := [.int (0)]) (rest := []) (c_must0 l E (va_up (va_up σ 10 G) 17 (lkT g n e 0 (σ 17))) (va_up τ 3 (ltW g n e))) kv_X8_207 (x_recv C (Nat.le_of_ble_eq_true rfl) xd_81 rfl) ⟨Nat.le_of_ble_eq_true rfl, Nat.le_of_ble_eq_true rfl⟩ rfl rfl (Nat.le_of_ble_eq_true rfl) dX8_reads_26 ?_
    refine WM.to (σ1 := va_up (va_up σ 10 G) 17 (lkT g n e 1 (σ 17))) ?_ (lkT_w _ _ _ _ _ _ _) rfl rfl rfl
    refine x_aload_n C 1 dX8_reads_29 rfl rfl ?_
    refine x_get C (Nat.le_of_ble_eq_true rfl) xd_81 fl_X8_200 (q := (1, 17, 6)) (v := .int (1)) rfl (congrArg Value.int (congrFun (va_up_self _ _ _) _)) dX8_reads_30 ?_
    refine x_if_eq C (tgt := 37) dX8_reads_33 (by decide) (fun h29 => absurd h29 (by decide)) (fun h29 => ?_)
    exact x_vret C (by rw [if_neg (fun z => hw z.2.1), if_neg (fun z => hw z.2.1), show aftR g n c e = e by unfold aftR; rw [aft_w hw]; split <;> rfl]) (by rw [show aftR g n c e = e by unfold aftR; rw [aft_w hw]; split <;> rfl]) dX8_reads_36
