theorem u2_u2 (σ : Nat → Nat → Int32) (b i : Nat) (x y : Int32) : u2 (u2 σ b i x) b i y = u2 σ b i y := by
  unfold u2
  rw [va_up_self]
  funext c
  by_cases hc : c = b
  · subst hc
    rw [va_up_self, va_up_self, upd_upd]
  · rw [va_up_ne _ _ hc, va_up_ne _ _ hc, va_up_ne _ _ hc]
theorem u2_u2x (σ : Nat → Nat → Int32) (x y : Int32) : u2 (u2 σ 6 2 x) 6 5 y = va_up σ 6 (upd (upd (σ 6) 2 x) 5 y) := u2_bank _ _ _ _ _
theorem n0_s {σ : Nat → Nat → Int32} {b : Nat} (he : σ 6 4 = nI b) : u2 (u2 σ 6 2 1) 6 5 0 = va_up σ 6 (upd (upd (upd (σ 6) 2 1) 5 (nI 0)) 4 (nI b)) := by
  rw [u2_u2x]
  refine congrArg (va_up σ 6) (funext fun j => ?_)
  by_cases h : j = 4
  · subst h
    simp only [upd]
    exact he
  · simp only [upd, h, if_false]
    rfl
set_option maxHeartbeats 4000000 in
set_option maxRecDepth 100000 in
theorem c_readWord (l : Launch) (E : xE) (σ : Nat → Nat → Int32) (τ : Nat → Int64) (b d : Nat) (g : Nat → Int32) (n : Nat) (hn : n ≤ 100) (hg : σ 5 = g) (ht : σ 6 1 = nI n) (hd : b + d = n) (hb : σ 6 3 = nI b) (he : σ 6 4 = nI b) : xMv l yX5_readWord cX5_readWord 2 5 109 E [.ref (xad E (57))] (σ) (τ) (u2 (u2 (u2 σ 6 4 (nI (spN isLt g n b))) 6 2 0) 6 5 (wvN (mtQ g b (spN isLt g n b)) 13)) (τ) := by
  refine xMv_of (own := RX5) (by decide +kernel) rfl (Nat.le_of_ble_eq_true rfl) ?_
  intro zp ze zs zm za zb zh zc C
  refine WM.to (lv1 := [(0, .ref (xad E (57)))]) (st1 := []) (σ1 := σ) (τ1 := τ) ?_ rfl rfl rfl rfl
  have hle := spN_le (P := isLt) (g := g) (n := n) (e := b) (by omega)
  have hw : WM zp l ze { frames := 5, cells := 0, slots := 0, locals := 109 } zs zm za zb zh zc 0 0 (MQ zb (va_Qv (fun _ : Unit => True) (fun _ t => xP E (u2 (u2 (u2 σ 6 4 (nI (spN isLt g n b))) 6 2 0) 6 5 (wvN (mtQ g b (spN isLt g n b)) 13)) (τ) t.heap) (xA E)) za zs 0 0 (xA E)) E (xA E) 2 (u2 σ 6 4 (nI (spN isLt g n b))) (τ) 41 [(0, .ref (xad E (57)))] [] := by
    refine x_aload_n C 0 dX5_readWord_41 rfl rfl ?_
    refine x_iconst C (v := 0) dX5_readWord_42 (by decide) ?_
    refine x_put C (σ' := u2 (u2 σ 6 4 (nI (spN isLt g n b))) 6 2 (0)) (Nat.le_of_ble_eq_true rfl) xd_57 fp_X5_45 rfl rfl rfl rfl dX5_readWord_43 ?_
    refine x_aload_n C 0 dX5_readWord_46 rfl rfl ?_
    refine x_iconst C (v := -1) dX5_readWord_47 (by decide) ?_
    refine x_put C (σ' := u2 (u2 (u2 σ 6 4 (nI (spN isLt g n b))) 6 2 (0)) 6 5 ((-1))) (Nat.le_of_ble_eq_true rfl) xd_57 fp_X5_42 rfl rfl rfl rfl dX5_readWord_48 ?_
    refine x_iconst C (v := 0) dX5_readWord_51 (by decide) ?_
    refine x_istore_n C (lv1 := [(1, .int (0)), (0, .ref (xad E (57)))]) dX5_readWord_52 rfl (by decide) rfl ?_
    have loop2 : ∀ (j k : Nat), j + k = 13 → WM zp l ze { frames := 5, cells := 0, slots := 0, locals := 109 } zs zm za zb zh zc 0 0 (MQ zb (va_Qv (fun _ : Unit => True) (fun _ t => xP E (u2 (u2 (u2 σ 6 4 (nI (spN isLt g n b))) 6 2 0) 6 5 (wvN (mtQ g b (spN isLt g n b)) 13)) (τ) t.heap) (xA E)) za zs 0 0 (xA E)) E (xA E) 2 (u2 (u2 (u2 σ 6 4 (nI (spN isLt g n b))) 6 2 0) 6 5 (wvN (mtQ g b (spN isLt g n b)) k)) (τ) 53 [(0, .ref (xad E (57))), (1, .int (nI k))] [] := by
      intro j
      induction j with
      | zero =>
        intro k hk
        refine x_iload_n C 1 dX5_readWord_53 rfl rfl ?_
        refine x_bipush C (v := 13) dX5_readWord_54 (by decide) ?_
        refine x_icmp_ge C (tgt := 92) dX5_readWord_56 (by decide) (fun h1 => ?_) (fun h1 => absurd h1 (nI_nlt (a := k) (b := 13) (by omega) (by omega)))
        exact x_vret C (by rw [show k = 13 by omega]) rfl dX5_readWord_92
      | succ j ih =>
        intro k hk
        refine x_iload_n C 1 dX5_readWord_53 rfl rfl ?_
        refine x_bipush C (v := 13) dX5_readWord_54 (by decide) ?_
        refine x_icmp_ge C (tgt := 92) dX5_readWord_56 (by decide) (fun h2 => absurd (nI_lt (a := k) (b := 13) (by omega) (by omega)) h2) (fun h2 => ?_)
        refine x_aload_n C 0 dX5_readWord_59 rfl rfl ?_
        refine x_get C (Nat.le_of_ble_eq_true rfl) xd_57 fl_X5_12 (q := (0, 55, 0)) (v := .ref (xad E (55))) rfl rfl dX5_readWord_60 ?_
        refine x_aload_n C 0 dX5_readWord_63 rfl rfl ?_
        refine x_get C (Nat.le_of_ble_eq_true rfl) xd_57 fl_X5_34 (q := (1, 6, 3)) (v := .int (nI b)) rfl (congrArg Value.int (Eq.trans (Eq.trans (u2_ne (b := 6) (i := 5) (c := 6) (j := 3) (by decide)) (Eq.trans (u2_ne (b := 6) (i := 2) (c := 6) (j := 3) (by decide)) (u2_ne (b := 6) (i := 4) (c := 6) (j := 3) (by decide)))) hb)) dX5_readWord_64 ?_
        refine x_aload_n C 0 dX5_readWord_67 rfl rfl ?_
        refine x_get C (Nat.le_of_ble_eq_true rfl) xd_57 fl_X5_18 (q := (1, 6, 4)) (v := .int (nI (spN isLt g n b))) rfl (congrArg Value.int (Eq.trans (Eq.trans (u2_ne (b := 6) (i := 5) (c := 6) (j := 4) (by decide)) (Eq.trans (u2_ne (b := 6) (i := 2) (c := 6) (j := 4) (by decide)) (u2_at _ _ _ _))) rfl)) dX5_readWord_68 ?_
        refine x_iload_n C 1 dX5_readWord_71 rfl rfl ?_
        refine x_callSr C (As := [.int (nI k)]) (rest := [.int (nI (spN isLt g n b)), .int (nI b), .ref (xad E (55))]) (c_wordOf l E (u2 (u2 (u2 σ 6 4 (nI (spN isLt g n b))) 6 2 0) 6 5 (wvN (mtQ g b (spN isLt g n b)) k)) τ k (by omega)) ks_X5_76 ⟨Nat.le_of_ble_eq_true rfl, Nat.le_of_ble_eq_true rfl⟩ rfl rfl (Nat.le_of_ble_eq_true rfl) dX5_readWord_72 ?_
        refine x_callVi C (As := [.int (nI b), .int (nI (spN isLt g n b)), .ref (xsK E (k))]) (rest := []) (c_isWordAt l E (u2 (u2 (u2 σ 6 4 (nI (spN isLt g n b))) 6 2 0) 6 5 (wvN (mtQ g b (spN isLt g n b)) k)) τ b (spN isLt g n b) k (by omega) (by omega) (by omega) g n hn (Eq.trans (Eq.trans (u2_bk_ne _ (c := 5) (b := 6) _ _ (by decide)) (Eq.trans (u2_bk_ne _ (c := 5) (b := 6) _ _ (by decide)) (u2_bk_ne _ (c := 5) (b := 6) _ _ (by decide)))) hg) (Eq.trans (Eq.trans (u2_ne (b := 6) (i := 5) (c := 6) (j := 1) (by decide)) (Eq.trans (u2_ne (b := 6) (i := 2) (c := 6) (j := 1) (by decide)) (u2_ne (b := 6) (i := 4) (c := 6) (j := 1) (by decide)))) ht) (by omega)) kv_X5_80 (x_recv C (Nat.le_of_ble_eq_true rfl) xd_55 rfl) ⟨Nat.le_of_ble_eq_true rfl, Nat.le_of_ble_eq_true rfl⟩ rfl rfl (Nat.le_of_ble_eq_true rfl) dX5_readWord_75 ?_
        refine x_ifeqB C (tgt := 86) dX5_readWord_78 (by decide) (fun h3 => ?_) (fun h3 => ?_)
        · refine x_iinc C (v := nI (k + 1)) (lv1 := [(1, .int (nI (k + 1))), (0, .ref (xad E (57)))]) 1 dX5_readWord_86 rfl (nI_add k 1) (by decide) rfl ?_
          refine x_goto2 C (tgt := 53) dX5_readWord_89 (by decide) ?_
          refine WM.keep [1, 0] (lv' := [(0, .ref (xad E (57))), (1, .int (nI (k + 1)))]) rfl ?_
          exact WM.to (ih (k + 1) (by omega)) (congrArg (u2 (u2 (u2 σ 6 4 (nI (spN isLt g n b))) 6 2 0) 6 5) (Eq.symm (if_neg h3))) rfl rfl rfl
        · refine x_aload_n C 0 dX5_readWord_81 rfl rfl ?_
          refine x_iload_n C 1 dX5_readWord_82 rfl rfl ?_
          refine x_put C (σ' := u2 (u2 (u2 (u2 σ 6 4 (nI (spN isLt g n b))) 6 2 0) 6 5 (wvN (mtQ g b (spN isLt g n b)) k)) 6 5 (nI k)) (Nat.le_of_ble_eq_true rfl) xd_57 fp_X5_42 rfl rfl rfl rfl dX5_readWord_83 ?_
          refine x_iinc C (v := nI (k + 1)) (lv1 := [(1, .int (nI (k + 1))), (0, .ref (xad E (57)))]) 1 dX5_readWord_86 rfl (nI_add k 1) (by decide) rfl ?_
          refine x_goto2 C (tgt := 53) dX5_readWord_89 (by decide) ?_
          refine WM.keep [1, 0] (lv' := [(0, .ref (xad E (57))), (1, .int (nI (k + 1)))]) rfl ?_
          exact WM.to (ih (k + 1) (by omega)) (Eq.trans (u2_u2 _ _ _ _ _) (congrArg (u2 (u2 (u2 σ 6 4 (nI (spN isLt g n b))) 6 2 0) 6 5) (Eq.symm (if_pos h3)))) rfl rfl rfl
    refine WM.keep [1, 0] rfl ?_
    exact WM.to (loop2 (13) 0 (by omega)) rfl rfl rfl rfl
  have loop : ∀ (j k : Nat), j + k = d → (∀ i, i < k → ¬ ¬ isLt (g (b + i))) → WM zp l ze { frames := 5, cells := 0, slots := 0, locals := 109 } zs zm za zb zh zc 0 0 (MQ zb (va_Qv (fun _ : Unit => True) (fun _ t => xP E (u2 (u2 (u2 σ 6 4 (nI (spN isLt g n b))) 6 2 0) 6 5 (wvN (mtQ g b (spN isLt g n b)) 13)) (τ) t.heap) (xA E)) za zs 0 0 (xA E)) E (xA E) 2 (u2 σ 6 4 (nI (b + k))) (τ) 0 [(0, .ref (xad E (57)))] [] := by
    intro j
    induction j with
    | zero =>
      intro k hk hnf
      refine x_aload_n C 0 dX5_readWord_0 rfl rfl ?_
      refine x_get C (Nat.le_of_ble_eq_true rfl) xd_57 fl_X5_18 (q := (1, 6, 4)) (v := .int (nI (b + k))) rfl (congrArg Value.int (Eq.trans (u2_at _ _ _ _) rfl)) dX5_readWord_1 ?_
      refine x_aload_n C 0 dX5_readWord_4 rfl rfl ?_
      refine x_get C (Nat.le_of_ble_eq_true rfl) xd_57 fl_X5_12 (q := (0, 55, 0)) (v := .ref (xad E (55))) rfl rfl dX5_readWord_5 ?_
      refine x_get C (Nat.le_of_ble_eq_true rfl) xd_55 fl_X5_37 (q := (1, 6, 1)) (v := .int (nI n)) rfl (congrArg Value.int (Eq.trans (u2_ne (b := 6) (i := 4) (c := 6) (j := 1) (by decide)) ht)) dX5_readWord_8 ?_
      refine x_icmp_ge C (tgt := 41) dX5_readWord_11 (by decide) (fun h4 => ?_) (fun h4 => absurd h4 (nI_nlt (a := b + k) (b := n) (by omega) (by omega)))
      exact WM.to hw (by rw [← (spN_end (P := isLt) (g := g) (n := n) (e := b) hnf (by omega))]) rfl rfl rfl
    | succ j ih =>
      intro k hk hnf
      refine x_aload_n C 0 dX5_readWord_0 rfl rfl ?_
      refine x_get C (Nat.le_of_ble_eq_true rfl) xd_57 fl_X5_18 (q := (1, 6, 4)) (v := .int (nI (b + k))) rfl (congrArg Value.int (Eq.trans (u2_at _ _ _ _) rfl)) dX5_readWord_1 ?_
      refine x_aload_n C 0 dX5_readWord_4 rfl rfl ?_
      refine x_get C (Nat.le_of_ble_eq_true rfl) xd_57 fl_X5_12 (q := (0, 55, 0)) (v := .ref (xad E (55))) rfl rfl dX5_readWord_5 ?_
      refine x_get C (Nat.le_of_ble_eq_true rfl) xd_55 fl_X5_37 (q := (1, 6, 1)) (v := .int (nI n)) rfl (congrArg Value.int (Eq.trans (u2_ne (b := 6) (i := 4) (c := 6) (j := 1) (by decide)) ht)) dX5_readWord_8 ?_
      refine x_icmp_ge C (tgt := 41) dX5_readWord_11 (by decide) (fun h5 => absurd (nI_lt (a := b + k) (b := n) (by omega) (by omega)) h5) (fun h5 => ?_)
      refine x_aload_n C 0 dX5_readWord_14 rfl rfl ?_
      refine x_get C (Nat.le_of_ble_eq_true rfl) xd_57 fl_X5_12 (q := (0, 55, 0)) (v := .ref (xad E (55))) rfl rfl dX5_readWord_15 ?_
      refine x_aload_n C 0 dX5_readWord_18 rfl rfl ?_
      refine x_get C (Nat.le_of_ble_eq_true rfl) xd_57 fl_X5_18 (q := (1, 6, 4)) (v := .int (nI (b + k))) rfl (congrArg Value.int (Eq.trans (u2_at _ _ _ _) rfl)) dX5_readWord_19 ?_
      refine x_callVi C (As := [.int (nI (b + k))]) (rest := []) (c_isLetter l E (u2 σ 6 4 (nI (b + k))) τ (b + k) (by omega) g n hn (Eq.trans (u2_bk_ne _ (c := 5) (b := 6) _ _ (by decide)) hg) (Eq.trans (u2_ne (b := 6) (i := 4) (c := 6) (j := 1) (by decide)) ht)) kv_X5_60 (x_recv C (Nat.le_of_ble_eq_true rfl) xd_55 rfl) ⟨Nat.le_of_ble_eq_true rfl, Nat.le_of_ble_eq_true rfl⟩ rfl rfl (Nat.le_of_ble_eq_true rfl) dX5_readWord_22 ?_
      refine x_ifeqB C (tgt := 41) dX5_readWord_25 (by decide) (fun h6 => ?_) (fun h6 => ?_)
      · exact WM.to hw (by rw [← (spN_at (P := isLt) (g := g) (n := n) (e := b) hnf (by omega) (by rw [← byB_in (g := g) (show b + k < n by omega)]; exact h6))]) rfl rfl rfl
      · refine x_aload_n C 0 dX5_readWord_28 rfl rfl ?_
        refine x_dup C dX5_readWord_29 rfl ?_
        refine x_get C (Nat.le_of_ble_eq_true rfl) xd_57 fl_X5_18 (q := (1, 6, 4)) (v := .int (nI (b + k))) rfl (congrArg Value.int (Eq.trans (u2_at _ _ _ _) rfl)) dX5_readWord_30 ?_
        refine x_iconst C (v := 1) dX5_readWord_33 (by decide) ?_
        refine x_iadd C dX5_readWord_34 ?_
        refine WM.topi (y := nI (b + k + 1)) (nI_add (b + k) 1) ?_
        refine x_put C (σ' := u2 (u2 σ 6 4 (nI (b + k))) 6 4 (nI (b + k + 1))) (Nat.le_of_ble_eq_true rfl) xd_57 fp_X5_18 rfl rfl rfl rfl dX5_readWord_35 ?_
        refine x_goto2 C (tgt := 0) dX5_readWord_38 (by decide) ?_
        refine WM.keep [0] (lv' := [(0, .ref (xad E (57)))]) rfl ?_
        exact WM.to (ih (k + 1) (by omega) (hyp_s hnf (fun f => f (by rw [← byB_in (g := g) (show b + k < n by omega)]; exact h6)))) (u2_u2 _ _ _ _ _) rfl rfl rfl
  refine WM.keep [0] rfl ?_
  exact WM.to (loop (d) 0 (by omega) (fun i hi => absurd hi (Nat.not_lt_zero i))) (u2_self he) rfl rfl rfl
set_option maxHeartbeats 4000000 in
set_option maxRecDepth 100000 in
theorem c_readNumber (l : Launch) (E : xE) (σ : Nat → Nat → Int32) (τ : Nat → Int64) (b d : Nat) (g : Nat → Int32) (n : Nat) (hn : n ≤ 100) (hg : σ 5 = g) (ht : σ 6 1 = nI n) (hd : b + d = n) (hb : σ 6 3 = nI b) (he : σ 6 4 = nI b) : xMv l yX5_readNumber cX5_readNumber 1 2 43 E [.ref (xad E (57))] (σ) (τ) (va_up σ 6 (upd (upd (upd (σ 6) 2 1) 5 (nI (cnN g b (spN isDg g n b - b)))) 4 (nI (spN isDg g n b)))) (τ) := by
  refine xMv_of (own := RX5) (by decide +kernel) rfl (Nat.le_of_ble_eq_true rfl) ?_
  intro zp ze zs zm za zb zh zc C
  refine WM.to (lv1 := [(0, .ref (xad E (57)))]) (st1 := []) (σ1 := σ) (τ1 := τ) ?_ rfl rfl rfl rfl
  have hw : WM zp l ze { frames := 2, cells := 0, slots := 0, locals := 43 } zs zm za zb zh zc 0 0 (MQ zb (va_Qv (fun _ : Unit => True) (fun _ t => xP E (va_up σ 6 (upd (upd (upd (σ 6) 2 1) 5 (nI (cnN g b (spN isDg g n b - b)))) 4 (nI (spN isDg g n b)))) (τ) t.heap) (xA E)) za zs 0 0 (xA E)) E (xA E) 1 (va_up σ 6 (upd (upd (upd (σ 6) 2 1) 5 (nI (cnN g b (spN isDg g n b - b)))) 4 (nI (spN isDg g n b)))) (τ) 83 [(0, .ref (xad E (57)))] [] := by
    exact x_vret C rfl rfl dX5_readNumber_83
  refine x_aload_n C 0 dX5_readNumber_0 rfl rfl ?_
  refine x_iconst C (v := 1) dX5_readNumber_1 (by decide) ?_
  refine x_put C (σ' := u2 σ 6 2 (1)) (Nat.le_of_ble_eq_true rfl) xd_57 fp_X5_45 rfl rfl rfl rfl dX5_readNumber_2 ?_
  refine x_aload_n C 0 dX5_readNumber_5 rfl rfl ?_
  refine x_iconst C (v := 0) dX5_readNumber_6 (by decide) ?_
  refine x_put C (σ' := u2 (u2 σ 6 2 (1)) 6 5 (0)) (Nat.le_of_ble_eq_true rfl) xd_57 fp_X5_42 rfl rfl rfl rfl dX5_readNumber_7 ?_
  have loop : ∀ (j k : Nat), j + k = d → (∀ i, i < k → ¬ ¬ isDg (g (b + i))) → WM zp l ze { frames := 2, cells := 0, slots := 0, locals := 43 } zs zm za zb zh zc 0 0 (MQ zb (va_Qv (fun _ : Unit => True) (fun _ t => xP E (va_up σ 6 (upd (upd (upd (σ 6) 2 1) 5 (nI (cnN g b (spN isDg g n b - b)))) 4 (nI (spN isDg g n b)))) (τ) t.heap) (xA E)) za zs 0 0 (xA E)) E (xA E) 1 (va_up σ 6 (upd (upd (upd (σ 6) 2 1) 5 (nI (cnN g b k))) 4 (nI (b + k)))) (τ) 10 [(0, .ref (xad E (57)))] [] := by
    intro j
    induction j with
    | zero =>
      intro k hk hnf
      refine x_aload_n C 0 dX5_readNumber_10 rfl rfl ?_
      refine x_get C (Nat.le_of_ble_eq_true rfl) xd_57 fl_X5_18 (q := (1, 6, 4)) (v := .int (nI (b + k))) rfl (congrArg Value.int (Eq.trans (Eq.trans (congrFun (va_up_self _ _ _) _) (upd_at _ _ _)) rfl)) dX5_readNumber_11 ?_
      refine x_aload_n C 0 dX5_readNumber_14 rfl rfl ?_
      refine x_get C (Nat.le_of_ble_eq_true rfl) xd_57 fl_X5_12 (q := (0, 55, 0)) (v := .ref (xad E (55))) rfl rfl dX5_readNumber_15 ?_
      refine x_get C (Nat.le_of_ble_eq_true rfl) xd_55 fl_X5_37 (q := (1, 6, 1)) (v := .int (nI n)) rfl (congrArg Value.int (Eq.trans (Eq.trans (congrFun (va_up_self _ _ _) _) (Eq.trans (upd_ne (j := 1) (k := 4) (by decide)) (Eq.trans (upd_ne (j := 1) (k := 5) (by decide)) (upd_ne (j := 1) (k := 2) (by decide))))) ht)) dX5_readNumber_18 ?_
      refine x_icmp_ge C (tgt := 83) dX5_readNumber_21 (by decide) (fun h1 => ?_) (fun h1 => absurd h1 (nI_nlt (a := b + k) (b := n) (by omega) (by omega)))
      exact WM.to hw (by rw [← (spN_end (P := isDg) (g := g) (n := n) (e := b) hnf (by omega)), Nat.add_sub_cancel_left]) rfl rfl rfl
    | succ j ih =>
      intro k hk hnf
      refine x_aload_n C 0 dX5_readNumber_10 rfl rfl ?_
      refine x_get C (Nat.le_of_ble_eq_true rfl) xd_57 fl_X5_18 (q := (1, 6, 4)) (v := .int (nI (b + k))) rfl (congrArg Value.int (Eq.trans (Eq.trans (congrFun (va_up_self _ _ _) _) (upd_at _ _ _)) rfl)) dX5_readNumber_11 ?_
      refine x_aload_n C 0 dX5_readNumber_14 rfl rfl ?_
      refine x_get C (Nat.le_of_ble_eq_true rfl) xd_57 fl_X5_12 (q := (0, 55, 0)) (v := .ref (xad E (55))) rfl rfl dX5_readNumber_15 ?_
      refine x_get C (Nat.le_of_ble_eq_true rfl) xd_55 fl_X5_37 (q := (1, 6, 1)) (v := .int (nI n)) rfl (congrArg Value.int (Eq.trans (Eq.trans (congrFun (va_up_self _ _ _) _) (Eq.trans (upd_ne (j := 1) (k := 4) (by decide)) (Eq.trans (upd_ne (j := 1) (k := 5) (by decide)) (upd_ne (j := 1) (k := 2) (by decide))))) ht)) dX5_readNumber_18 ?_
      refine x_icmp_ge C (tgt := 83) dX5_readNumber_21 (by decide) (fun h2 => absurd (nI_lt (a := b + k) (b := n) (by omega) (by omega)) h2) (fun h2 => ?_)
      refine x_aload_n C 0 dX5_readNumber_24 rfl rfl ?_
      refine x_get C (Nat.le_of_ble_eq_true rfl) xd_57 fl_X5_12 (q := (0, 55, 0)) (v := .ref (xad E (55))) rfl rfl dX5_readNumber_25 ?_
      refine x_aload_n C 0 dX5_readNumber_28 rfl rfl ?_
      refine x_get C (Nat.le_of_ble_eq_true rfl) xd_57 fl_X5_18 (q := (1, 6, 4)) (v := .int (nI (b + k))) rfl (congrArg Value.int (Eq.trans (Eq.trans (congrFun (va_up_self _ _ _) _) (upd_at _ _ _)) rfl)) dX5_readNumber_29 ?_
      refine x_callVi C (As := [.int (nI (b + k))]) (rest := []) (c_isDigit l E (va_up σ 6 (upd (upd (upd (σ 6) 2 1) 5 (nI (cnN g b k))) 4 (nI (b + k)))) τ (b + k) (by omega) g n hn (Eq.trans (va_up_ne _ (j := 5) (k := 6) _ (by decide)) hg) (Eq.trans (Eq.trans (congrFun (va_up_self _ _ _) _) (Eq.trans (upd_ne (j := 1) (k := 4) (by decide)) (Eq.trans (upd_ne (j := 1) (k := 5) (by decide)) (upd_ne (j := 1) (k := 2) (by decide))))) ht)) kv_X5_67 (x_recv C (Nat.le_of_ble_eq_true rfl) xd_55 rfl) ⟨Nat.le_of_ble_eq_true rfl, Nat.le_of_ble_eq_true rfl⟩ rfl rfl (Nat.le_of_ble_eq_true rfl) dX5_readNumber_32 ?_
      refine x_ifeqB C (tgt := 83) dX5_readNumber_35 (by decide) (fun h3 => ?_) (fun h3 => ?_)
      · exact WM.to hw (by rw [← (spN_at (P := isDg) (g := g) (n := n) (e := b) hnf (by omega) (by rw [← byB_in (g := g) (show b + k < n by omega)]; exact h3)), Nat.add_sub_cancel_left]) rfl rfl rfl
      · refine x_aload_n C 0 dX5_readNumber_38 rfl rfl ?_
        refine x_aload_n C 0 dX5_readNumber_39 rfl rfl ?_
        refine x_get C (Nat.le_of_ble_eq_true rfl) xd_57 fl_X5_42 (q := (1, 6, 5)) (v := .int (nI (cnN g b k))) rfl (congrArg Value.int (Eq.trans (congrFun (va_up_self _ _ _) _) (Eq.trans (upd_ne (by decide)) (upd_at _ _ _)))) dX5_readNumber_40 ?_
        refine x_bipush C (v := 10) dX5_readNumber_43 (by decide) ?_
        refine x_imul C dX5_readNumber_45 ?_
        refine WM.topi (y := nI ((cnN g b k) * 10)) (pk_mul (cnN g b k) 10) ?_
        refine x_aload_n C 0 dX5_readNumber_46 rfl rfl ?_
        refine x_get C (Nat.le_of_ble_eq_true rfl) xd_57 fl_X5_12 (q := (0, 55, 0)) (v := .ref (xad E (55))) rfl rfl dX5_readNumber_47 ?_
        refine x_aload_n C 0 dX5_readNumber_50 rfl rfl ?_
        refine x_get C (Nat.le_of_ble_eq_true rfl) xd_57 fl_X5_18 (q := (1, 6, 4)) (v := .int (nI (b + k))) rfl (congrArg Value.int (Eq.trans (Eq.trans (congrFun (va_up_self _ _ _) _) (upd_at _ _ _)) rfl)) dX5_readNumber_51 ?_
        refine x_callVi C (As := [.int (nI (b + k))]) (rest := [.int (nI ((cnN g b k) * 10)), .ref (xad E (57))]) (c_byteAt l E (va_up σ 6 (upd (upd (upd (σ 6) 2 1) 5 (nI (cnN g b k))) 4 (nI (b + k)))) τ (b + k) (by omega) g n hn (Eq.trans (va_up_ne _ (j := 5) (k := 6) _ (by decide)) hg) (Eq.trans (Eq.trans (congrFun (va_up_self _ _ _) _) (Eq.trans (upd_ne (j := 1) (k := 4) (by decide)) (Eq.trans (upd_ne (j := 1) (k := 5) (by decide)) (upd_ne (j := 1) (k := 2) (by decide))))) ht)) kv_X5_56 (x_recv C (Nat.le_of_ble_eq_true rfl) xd_55 rfl) ⟨Nat.le_of_ble_eq_true rfl, Nat.le_of_ble_eq_true rfl⟩ rfl rfl (Nat.le_of_ble_eq_true rfl) dX5_readNumber_54 ?_
        refine x_iadd C dX5_readNumber_57 ?_
        refine x_bipush C (v := 48) dX5_readNumber_58 (by decide) ?_
        refine x_isub C dX5_readNumber_60 ?_
        refine WM.topi (y := nI (cnN g b k * 10 + dig (g (b + k)))) (by rw [byB_in (show b + k < n by omega)]; exact cn_v (by rw [← byB_in (g := g) (show b + k < n by omega)]; exact h3) (cnN_le g b k)) ?_
        refine x_sipush C (v := 1000) dX5_readNumber_61 (by decide) ?_
        refine x_mmin C km_X5_84 kM_min ⟨Nat.le_of_ble_eq_true rfl, Nat.le_of_ble_eq_true rfl⟩ dX5_readNumber_64 ?_
        refine WM.topi (y := nI (cnN g b (k + 1))) (cn_m (by have := cnN_le g b k; have := (dig_of (x := g (b + k)) (by rw [← byB_in (g := g) (show b + k < n by omega)]; exact h3)).2; omega)) ?_
        refine x_put C (σ' := va_up σ 6 (upd (upd (upd (upd (σ 6) 2 1) 5 (nI (cnN g b k))) 4 (nI (b + k))) 5 (nI (cnN g b (k + 1))))) (Nat.le_of_ble_eq_true rfl) xd_57 fp_X5_42 rfl rfl rfl (u2_bank _ _ _ _ _) dX5_readNumber_67 ?_
        refine x_aload_n C 0 dX5_readNumber_70 rfl rfl ?_
        refine x_dup C dX5_readNumber_71 rfl ?_
        refine x_get C (Nat.le_of_ble_eq_true rfl) xd_57 fl_X5_18 (q := (1, 6, 4)) (v := .int (nI (b + k))) rfl (congrArg Value.int (Eq.trans (Eq.trans (congrFun (va_up_self _ _ _) _) (Eq.trans (upd_ne (j := 4) (k := 5) (by decide)) (upd_at _ _ _))) rfl)) dX5_readNumber_72 ?_
        refine x_iconst C (v := 1) dX5_readNumber_75 (by decide) ?_
        refine x_iadd C dX5_readNumber_76 ?_
        refine WM.topi (y := nI (b + k + 1)) (nI_add (b + k) 1) ?_
        refine x_put C (σ' := va_up σ 6 (upd (upd (upd (upd (upd (σ 6) 2 1) 5 (nI (cnN g b k))) 4 (nI (b + k))) 5 (nI (cnN g b (k + 1)))) 4 (nI (b + k + 1)))) (Nat.le_of_ble_eq_true rfl) xd_57 fp_X5_18 rfl rfl rfl (u2_bank _ _ _ _ _) dX5_readNumber_77 ?_
        refine x_goto2 C (tgt := 10) dX5_readNumber_80 (by decide) ?_
        refine WM.keep [0] (lv' := [(0, .ref (xad E (57)))]) rfl ?_
        exact WM.to (ih (k + 1) (by omega) (hyp_s hnf (fun f => f (by rw [← byB_in (g := g) (show b + k < n by omega)]; exact h3)))) (congrArg (va_up σ 6) (funext fun j => by simp only [upd]; (repeat' split) <;> first | rfl | omega)) rfl rfl rfl
  refine WM.keep [0] rfl ?_
  exact WM.to (loop (d) 0 (by omega) (fun i hi => absurd hi (Nat.not_lt_zero i))) (n0_s he) rfl rfl rfl
