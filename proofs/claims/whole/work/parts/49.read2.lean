/-! the reader: a token, a deed, a text -/
def isSg (x : Int32) : Prop := x = 59 ∨ x = 45
def nx (g : Nat → Int32) (n e : Nat) : Nat := tkE g n (nB g n e)
theorem nB_le {g : Nat → Int32} {n e : Nat} (h : e ≤ n) : e ≤ nB g n e ∧ nB g n e ≤ n := spN_le h
theorem tkE_le {g : Nat → Int32} {n b : Nat} (h : b ≤ n) : tkE g n b ≤ n := by
  unfold tkE
  by_cases h1 : isLt (byB g n b)
  · rw [if_pos h1]; exact (spN_le h).2
  · rw [if_neg h1]
    by_cases h2 : isDg (byB g n b)
    · rw [if_pos h2]; exact (spN_le h).2
    · rw [if_neg h2]
      by_cases h3 : byB g n b = 59 ∨ byB g n b = 45
      · rw [if_pos h3]
        by_cases hb : b < n
        · omega
        · exact absurd h3 (by_lt hb).2.2
      · rw [if_neg h3]; exact h
theorem nx_le {g : Nat → Int32} {n e : Nat} (h : e ≤ n) : nx g n e ≤ n := tkE_le (nB_le h).2
theorem b6_eq {σ : Nat → Nat → Int32} {f g : Nat → Int32} (h : ∀ j, f j = g j) : va_up σ 6 f = va_up σ 6 g := congrArg (va_up σ 6) (funext h)
theorem up_up (σ : Nat → Nat → Int32) (k : Nat) (f g : Nat → Int32) : va_up (va_up σ k f) k g = va_up σ k g := by
  funext j
  by_cases h : j = k
  · subst h; rw [va_up_self, va_up_self]
  · rw [va_up_ne _ _ h, va_up_ne _ _ h, va_up_ne _ _ h]
theorem rd6_of {σ : Nat → Nat → Int32} {f : Nat → Int32} {t b e v : Int32} (h2 : f 2 = t) (h3 : f 3 = b) (h4 : f 4 = e) (h5 : f 5 = v) (h : ∀ j, j ≠ 2 → j ≠ 3 → j ≠ 4 → j ≠ 5 → f j = σ 6 j) : va_up σ 6 f = va_up σ 6 (rd6 (σ 6) t b e v) := by
  refine b6_eq fun j => ?_
  unfold rd6
  by_cases e2 : j = 2
  · subst e2; rw [if_pos rfl]; exact h2
  rw [if_neg e2]
  by_cases e3 : j = 3
  · subst e3; rw [if_pos rfl]; exact h3
  rw [if_neg e3]
  by_cases e4 : j = 4
  · subst e4; rw [if_pos rfl]; exact h4
  rw [if_neg e4]
  by_cases e5 : j = 5
  · subst e5; rw [if_pos rfl]; exact h5
  rw [if_neg e5]
  exact h j e2 e3 e4 e5
theorem u6_1 (σ : Nat → Nat → Int32) (i : Nat) (x : Int32) : u2 σ 6 i x = va_up σ 6 (upd (σ 6) i x) := rfl
theorem nx_w {σ : Nat → Nat → Int32} {g : Nat → Int32} {n e : Nat} (h : isLt (byB g n (nB g n e))) : u2 (u2 (u2 (u2 (u2 σ 6 3 (nI (nB g n e))) 6 4 (nI (nB g n e))) 6 4 (nI (spN isLt g n (nB g n e)))) 6 2 0) 6 5 (wvN (mtQ g (nB g n e) (spN isLt g n (nB g n e))) 13) = va_up σ 6 (rdT g n e (σ 6)) := by
  unfold rdT tkT tkE tkV
  rw [if_pos h, if_pos h, if_pos h]
  rw [u6_1 σ, u2_bank, u2_bank, u2_bank, u2_bank]
  exact rd6_of rfl rfl rfl rfl (fun j a b c d => by simp [upd, a, b, c, d])
theorem nx_n {σ : Nat → Nat → Int32} {g : Nat → Int32} {n e : Nat} (h0 : ¬ isLt (byB g n (nB g n e))) (h : isDg (byB g n (nB g n e))) : va_up (u2 (u2 σ 6 3 (nI (nB g n e))) 6 4 (nI (nB g n e))) 6 (upd (upd (upd ((u2 (u2 σ 6 3 (nI (nB g n e))) 6 4 (nI (nB g n e))) 6) 2 1) 5 (nI (cnN g (nB g n e) (spN isDg g n (nB g n e) - nB g n e)))) 4 (nI (spN isDg g n (nB g n e)))) = va_up σ 6 (rdT g n e (σ 6)) := by
  unfold rdT tkT tkE tkV
  rw [if_neg h0, if_neg h0, if_neg h0, if_pos h, if_pos h, if_pos h]
  rw [u6_1 σ, u2_bank, up_up, va_up_self]
  exact rd6_of rfl rfl rfl rfl (fun j a b c d => by simp [upd, a, b, c, d])
theorem nx_s {σ : Nat → Nat → Int32} {g : Nat → Int32} {n e : Nat} (h0 : ¬ isLt (byB g n (nB g n e))) (h : ¬ isDg (byB g n (nB g n e))) : u2 (u2 (u2 (u2 (u2 σ 6 3 (nI (nB g n e))) 6 4 (nI (nB g n e))) 6 5 (byB g n (nB g n e))) 6 2 (if byB g n (nB g n e) = 59 ∨ byB g n (nB g n e) = 45 then 2 else 3)) 6 4 (nI (if byB g n (nB g n e) = 59 ∨ byB g n (nB g n e) = 45 then nB g n e + 1 else nB g n e)) = va_up σ 6 (rdT g n e (σ 6)) := by
  unfold rdT tkT tkE tkV
  rw [if_neg h0, if_neg h0, if_neg h0, if_neg h, if_neg h, if_neg h]
  rw [u6_1 σ, u2_bank, u2_bank, u2_bank, u2_bank]
  exact rd6_of rfl rfl rfl rfl (fun j a b c d => by simp [upd, a, b, c, d])
theorem rdT_rdT (σ : Nat → Nat → Int32) (g : Nat → Int32) (n e e' : Nat) (h : Nat → Int32) : va_up (va_up σ 6 (rdT g n e h)) 6 (rdT g n e' ((va_up σ 6 (rdT g n e h)) 6)) = va_up σ 6 (rdT g n e' h) := by
  rw [up_up, va_up_self]
  refine b6_eq fun j => ?_
  show rd6 _ _ _ _ _ j = rd6 _ _ _ _ _ j
  unfold rd6
  split
  · rfl
  split
  · rfl
  split
  · rfl
  split
  · rfl
  rename_i a b c d
  simp [rdT, rd6, a, b, c, d]
def rdG (q c : Nat) (w x : Int32) (G : Nat → Int32) : Nat → Int32 := upd (upd (upd G (135 + 25 * q + 2 * c) w) (136 + 25 * q + 2 * c) x) (134 + 25 * q) (nI (c + 1))
set_option maxHeartbeats 4000000 in
set_option maxRecDepth 100000 in
theorem c_readSign (l : Launch) (E : xE) (σ : Nat → Nat → Int32) (τ : Nat → Int64) (b d : Nat) (g : Nat → Int32) (n : Nat) (hn : n ≤ 100) (hg : σ 5 = g) (ht : σ 6 1 = nI n) (hd : b + d = n) (hb : σ 6 3 = nI b) (he : σ 6 4 = nI b) : xMv l yX5_readSign cX5_readSign 1 1 21 E [.ref (xad E (57))] (σ) (τ) (u2 (u2 (u2 σ 6 5 (byB g n b)) 6 2 (if byB g n b = 59 ∨ byB g n b = 45 then 2 else 3)) 6 4 (nI (if byB g n b = 59 ∨ byB g n b = 45 then b + 1 else b))) (τ) := by
  refine xMv_of (own := RX5) (by decide +kernel) rfl (Nat.le_of_ble_eq_true rfl) ?_
  intro zp ze zs zm za zb zh zc C
  refine WM.to (lv1 := [(0, .ref (xad E (57)))]) (st1 := []) (σ1 := σ) (τ1 := τ) ?_ rfl rfl rfl rfl
  refine x_aload_n C 0 dX5_readSign_0 rfl rfl ?_
  refine x_aload_n C 0 dX5_readSign_1 rfl rfl ?_
  refine x_get C (Nat.le_of_ble_eq_true rfl) xd_57 fl_X5_12 (q := (0, 55, 0)) (v := .ref (xad E (55))) rfl rfl dX5_readSign_2 ?_
  refine x_aload_n C 0 dX5_readSign_5 rfl rfl ?_
  refine x_get C (Nat.le_of_ble_eq_true rfl) xd_57 fl_X5_34 (q := (1, 6, 3)) (v := .int (nI b)) rfl (congrArg Value.int hb) dX5_readSign_6 ?_
  refine x_callVi C (As := [.int (nI b)]) (rest := [.ref (xad E (57))]) (c_byteAt l E σ τ b (by omega) g n hn hg ht) kv_X5_56 (x_recv C (Nat.le_of_ble_eq_true rfl) xd_55 rfl) ⟨Nat.le_of_ble_eq_true rfl, Nat.le_of_ble_eq_true rfl⟩ rfl rfl (Nat.le_of_ble_eq_true rfl) dX5_readSign_9 ?_
  refine x_put C (σ' := u2 σ 6 5 (byB g n b)) (Nat.le_of_ble_eq_true rfl) xd_57 fp_X5_42 rfl rfl rfl rfl dX5_readSign_12 ?_
  refine x_aload_n C 0 dX5_readSign_15 rfl rfl ?_
  refine x_aload_n C 0 dX5_readSign_16 rfl rfl ?_
  refine x_get C (Nat.le_of_ble_eq_true rfl) xd_57 fl_X5_42 (q := (1, 6, 5)) (v := .int (byB g n b)) rfl (congrArg Value.int (u2_at _ _ _ _)) dX5_readSign_17 ?_
  refine x_bipush C (v := 59) dX5_readSign_20 (by decide) ?_
  refine x_icmp_eq C (tgt := 34) dX5_readSign_22 (by decide) (fun h1 => ?_) (fun h1 => ?_)
  · refine x_iconst C (v := 2) dX5_readSign_34 (by decide) ?_
    refine x_goto2 C (tgt := 39) dX5_readSign_35 (by decide) ?_
    refine x_put C (σ' := u2 (u2 σ 6 5 (byB g n b)) 6 2 (2)) (Nat.le_of_ble_eq_true rfl) xd_57 fp_X5_45 rfl rfl rfl rfl dX5_readSign_39 ?_
    refine x_aload_n C 0 dX5_readSign_42 rfl rfl ?_
    refine x_get C (Nat.le_of_ble_eq_true rfl) xd_57 fl_X5_45 (q := (1, 6, 2)) (v := .int (2)) rfl (congrArg Value.int (u2_at _ _ _ _)) dX5_readSign_43 ?_
    refine x_iconst C (v := 2) dX5_readSign_46 (by decide) ?_
    refine x_icmp_ne C (tgt := 60) dX5_readSign_47 (by decide) (fun h2 => absurd h2 (by decide)) (fun h2 => ?_)
    refine x_aload_n C 0 dX5_readSign_50 rfl rfl ?_
    refine x_dup C dX5_readSign_51 rfl ?_
    refine x_get C (Nat.le_of_ble_eq_true rfl) xd_57 fl_X5_18 (q := (1, 6, 4)) (v := .int (nI b)) rfl (congrArg Value.int (Eq.trans (Eq.trans (u2_ne (b := 6) (i := 2) (c := 6) (j := 4) (by decide)) (u2_ne (b := 6) (i := 5) (c := 6) (j := 4) (by decide))) he)) dX5_readSign_52 ?_
    refine x_iconst C (v := 1) dX5_readSign_55 (by decide) ?_
    refine x_iadd C dX5_readSign_56 ?_
    refine WM.topi (y := nI (b + 1)) (nI_add b 1) ?_
    refine x_put C (σ' := u2 (u2 (u2 σ 6 5 (byB g n b)) 6 2 (2)) 6 4 (nI (b + 1))) (Nat.le_of_ble_eq_true rfl) xd_57 fp_X5_18 rfl rfl rfl rfl dX5_readSign_57 ?_
    exact x_vret C (by rw [if_pos (Or.inl h1), if_pos (Or.inl h1)]) rfl dX5_readSign_60
  · refine x_aload_n C 0 dX5_readSign_25 rfl rfl ?_
    refine x_get C (Nat.le_of_ble_eq_true rfl) xd_57 fl_X5_42 (q := (1, 6, 5)) (v := .int (byB g n b)) rfl (congrArg Value.int (u2_at _ _ _ _)) dX5_readSign_26 ?_
    refine x_bipush C (v := 45) dX5_readSign_29 (by decide) ?_
    refine x_icmp_ne C (tgt := 38) dX5_readSign_31 (by decide) (fun h3 => ?_) (fun h3 => ?_)
    · refine x_iconst C (v := 3) dX5_readSign_38 (by decide) ?_
      refine x_put C (σ' := u2 (u2 σ 6 5 (byB g n b)) 6 2 (3)) (Nat.le_of_ble_eq_true rfl) xd_57 fp_X5_45 rfl rfl rfl rfl dX5_readSign_39 ?_
      refine x_aload_n C 0 dX5_readSign_42 rfl rfl ?_
      refine x_get C (Nat.le_of_ble_eq_true rfl) xd_57 fl_X5_45 (q := (1, 6, 2)) (v := .int (3)) rfl (congrArg Value.int (u2_at _ _ _ _)) dX5_readSign_43 ?_
      refine x_iconst C (v := 2) dX5_readSign_46 (by decide) ?_
      refine x_icmp_ne C (tgt := 60) dX5_readSign_47 (by decide) (fun h4 => ?_) (fun h4 => absurd h4 (by decide))
      exact x_vret C (by rw [if_neg (fun q : byB g n b = 59 ∨ byB g n b = 45 => q.elim h1 h3), if_neg (fun q : byB g n b = 59 ∨ byB g n b = 45 => q.elim h1 h3)]; exact u2_self (Eq.trans (u2_ne (by decide)) (Eq.trans (u2_ne (by decide)) he))) rfl dX5_readSign_60
    · refine x_iconst C (v := 2) dX5_readSign_34 (by decide) ?_
      refine x_goto2 C (tgt := 39) dX5_readSign_35 (by decide) ?_
      refine x_put C (σ' := u2 (u2 σ 6 5 (byB g n b)) 6 2 (2)) (Nat.le_of_ble_eq_true rfl) xd_57 fp_X5_45 rfl rfl rfl rfl dX5_readSign_39 ?_
      refine x_aload_n C 0 dX5_readSign_42 rfl rfl ?_
      refine x_get C (Nat.le_of_ble_eq_true rfl) xd_57 fl_X5_45 (q := (1, 6, 2)) (v := .int (2)) rfl (congrArg Value.int (u2_at _ _ _ _)) dX5_readSign_43 ?_
      refine x_iconst C (v := 2) dX5_readSign_46 (by decide) ?_
      refine x_icmp_ne C (tgt := 60) dX5_readSign_47 (by decide) (fun h5 => absurd h5 (by decide)) (fun h5 => ?_)
      refine x_aload_n C 0 dX5_readSign_50 rfl rfl ?_
      refine x_dup C dX5_readSign_51 rfl ?_
      refine x_get C (Nat.le_of_ble_eq_true rfl) xd_57 fl_X5_18 (q := (1, 6, 4)) (v := .int (nI b)) rfl (congrArg Value.int (Eq.trans (Eq.trans (u2_ne (b := 6) (i := 2) (c := 6) (j := 4) (by decide)) (u2_ne (b := 6) (i := 5) (c := 6) (j := 4) (by decide))) he)) dX5_readSign_52 ?_
      refine x_iconst C (v := 1) dX5_readSign_55 (by decide) ?_
      refine x_iadd C dX5_readSign_56 ?_
      refine WM.topi (y := nI (b + 1)) (nI_add b 1) ?_
      refine x_put C (σ' := u2 (u2 (u2 σ 6 5 (byB g n b)) 6 2 (2)) 6 4 (nI (b + 1))) (Nat.le_of_ble_eq_true rfl) xd_57 fp_X5_18 rfl rfl rfl rfl dX5_readSign_57 ?_
      exact x_vret C (by rw [if_pos (Or.inr h3), if_pos (Or.inr h3)]) rfl dX5_readSign_60
set_option maxHeartbeats 4000000 in
set_option maxRecDepth 100000 in
theorem c_next (l : Launch) (E : xE) (σ : Nat → Nat → Int32) (τ : Nat → Int64) (e : Nat) (g : Nat → Int32) (n : Nat) (hn : n ≤ 100) (hg : σ 5 = g) (ht : σ 6 1 = nI n) (hen : e ≤ n) (he : σ 6 4 = nI e) : xMv l yX5_next cX5_next 1 6 130 E [.ref (xad E (57))] (σ) (τ) (va_up σ 6 (rdT g n e (σ 6))) (τ) := by
  refine xMv_of (own := RX5) (by decide +kernel) rfl (Nat.le_of_ble_eq_true rfl) ?_
  intro zp ze zs zm za zb zh zc C
  refine WM.to (lv1 := [(0, .ref (xad E (57)))]) (st1 := []) (σ1 := σ) (τ1 := τ) ?_ rfl rfl rfl rfl
  have hB := nB_le (g := g) hen
  have hw : WM zp l ze { frames := 6, cells := 0, slots := 0, locals := 130 } zs zm za zb zh zc 0 0 (MQ zb (va_Qv (fun _ : Unit => True) (fun _ t => xP E (va_up σ 6 (rdT g n e (σ 6))) (τ) t.heap) (xA E)) za zs 0 0 (xA E)) E (xA E) 1 (u2 σ 6 3 (nI (nB g n e))) (τ) 51 [(0, .ref (xad E (57)))] [] := by
    refine x_aload_n C 0 dX5_next_51 rfl rfl ?_
    refine x_aload_n C 0 dX5_next_52 rfl rfl ?_
    refine x_get C (Nat.le_of_ble_eq_true rfl) xd_57 fl_X5_34 (q := (1, 6, 3)) (v := .int (nI (nB g n e))) rfl (congrArg Value.int (Eq.trans (u2_at _ _ _ _) rfl)) dX5_next_53 ?_
    refine x_put C (σ' := u2 (u2 σ 6 3 (nI (nB g n e))) 6 4 (nI (nB g n e))) (Nat.le_of_ble_eq_true rfl) xd_57 fp_X5_18 rfl rfl rfl rfl dX5_next_56 ?_
    refine x_aload_n C 0 dX5_next_59 rfl rfl ?_
    refine x_get C (Nat.le_of_ble_eq_true rfl) xd_57 fl_X5_12 (q := (0, 55, 0)) (v := .ref (xad E (55))) rfl rfl dX5_next_60 ?_
    refine x_aload_n C 0 dX5_next_63 rfl rfl ?_
    refine x_get C (Nat.le_of_ble_eq_true rfl) xd_57 fl_X5_34 (q := (1, 6, 3)) (v := .int (nI (nB g n e))) rfl (congrArg Value.int (Eq.trans (Eq.trans (u2_ne (b := 6) (i := 4) (c := 6) (j := 3) (by decide)) (u2_at _ _ _ _)) rfl)) dX5_next_64 ?_
    refine x_callVi C (As := [.int (nI (nB g n e))]) (rest := []) (c_isLetter l E (u2 (u2 σ 6 3 (nI (nB g n e))) 6 4 (nI (nB g n e))) τ (nB g n e) (by omega) g n hn (Eq.trans (Eq.trans (u2_bk_ne _ (c := 5) (b := 6) _ _ (by decide)) (u2_bk_ne _ (c := 5) (b := 6) _ _ (by decide))) hg) (Eq.trans (Eq.trans (u2_ne (b := 6) (i := 4) (c := 6) (j := 1) (by decide)) (u2_ne (b := 6) (i := 3) (c := 6) (j := 1) (by decide))) ht)) kv_X5_60 (x_recv C (Nat.le_of_ble_eq_true rfl) xd_55 rfl) ⟨Nat.le_of_ble_eq_true rfl, Nat.le_of_ble_eq_true rfl⟩ rfl rfl (Nat.le_of_ble_eq_true rfl) dX5_next_67 ?_
    refine x_ifeqB C (tgt := 80) dX5_next_70 (by decide) (fun h1 => ?_) (fun h1 => ?_)
    · refine x_aload_n C 0 dX5_next_80 rfl rfl ?_
      refine x_get C (Nat.le_of_ble_eq_true rfl) xd_57 fl_X5_12 (q := (0, 55, 0)) (v := .ref (xad E (55))) rfl rfl dX5_next_81 ?_
      refine x_aload_n C 0 dX5_next_84 rfl rfl ?_
      refine x_get C (Nat.le_of_ble_eq_true rfl) xd_57 fl_X5_34 (q := (1, 6, 3)) (v := .int (nI (nB g n e))) rfl (congrArg Value.int (Eq.trans (Eq.trans (u2_ne (b := 6) (i := 4) (c := 6) (j := 3) (by decide)) (u2_at _ _ _ _)) rfl)) dX5_next_85 ?_
      refine x_callVi C (As := [.int (nI (nB g n e))]) (rest := []) (c_isDigit l E (u2 (u2 σ 6 3 (nI (nB g n e))) 6 4 (nI (nB g n e))) τ (nB g n e) (by omega) g n hn (Eq.trans (Eq.trans (u2_bk_ne _ (c := 5) (b := 6) _ _ (by decide)) (u2_bk_ne _ (c := 5) (b := 6) _ _ (by decide))) hg) (Eq.trans (Eq.trans (u2_ne (b := 6) (i := 4) (c := 6) (j := 1) (by decide)) (u2_ne (b := 6) (i := 3) (c := 6) (j := 1) (by decide))) ht)) kv_X5_67 (x_recv C (Nat.le_of_ble_eq_true rfl) xd_55 rfl) ⟨Nat.le_of_ble_eq_true rfl, Nat.le_of_ble_eq_true rfl⟩ rfl rfl (Nat.le_of_ble_eq_true rfl) dX5_next_88 ?_
      refine x_ifeqB C (tgt := 101) dX5_next_91 (by decide) (fun h2 => ?_) (fun h2 => ?_)
      · refine x_aload_n C 0 dX5_next_101 rfl rfl ?_
        refine x_callVv C (As := []) (rest := []) (c_readSign l E (u2 (u2 σ 6 3 (nI (nB g n e))) 6 4 (nI (nB g n e))) τ (nB g n e) (n - nB g n e) g n hn (Eq.trans (Eq.trans (u2_bk_ne _ (c := 5) (b := 6) _ _ (by decide)) (u2_bk_ne _ (c := 5) (b := 6) _ _ (by decide))) hg) (Eq.trans (Eq.trans (u2_ne (b := 6) (i := 4) (c := 6) (j := 1) (by decide)) (u2_ne (b := 6) (i := 3) (c := 6) (j := 1) (by decide))) ht) (by omega) (Eq.trans (u2_ne (b := 6) (i := 4) (c := 6) (j := 3) (by decide)) (u2_at _ _ _ _)) (u2_at _ _ _ _)) kv_X5_73 (x_recv C (Nat.le_of_ble_eq_true rfl) xd_57 rfl) ⟨Nat.le_of_ble_eq_true rfl, Nat.le_of_ble_eq_true rfl⟩ rfl rfl (Nat.le_of_ble_eq_true rfl) dX5_next_102 ?_
        exact x_vret C (nx_s h1 h2) rfl dX5_next_105
      · refine x_aload_n C 0 dX5_next_94 rfl rfl ?_
        refine x_callVv C (As := []) (rest := []) (c_readNumber l E (u2 (u2 σ 6 3 (nI (nB g n e))) 6 4 (nI (nB g n e))) τ (nB g n e) (n - nB g n e) g n hn (Eq.trans (Eq.trans (u2_bk_ne _ (c := 5) (b := 6) _ _ (by decide)) (u2_bk_ne _ (c := 5) (b := 6) _ _ (by decide))) hg) (Eq.trans (Eq.trans (u2_ne (b := 6) (i := 4) (c := 6) (j := 1) (by decide)) (u2_ne (b := 6) (i := 3) (c := 6) (j := 1) (by decide))) ht) (by omega) (Eq.trans (u2_ne (b := 6) (i := 4) (c := 6) (j := 3) (by decide)) (u2_at _ _ _ _)) (u2_at _ _ _ _)) kv_X5_70 (x_recv C (Nat.le_of_ble_eq_true rfl) xd_57 rfl) ⟨Nat.le_of_ble_eq_true rfl, Nat.le_of_ble_eq_true rfl⟩ rfl rfl (Nat.le_of_ble_eq_true rfl) dX5_next_95 ?_
        refine x_goto2 C (tgt := 105) dX5_next_98 (by decide) ?_
        exact x_vret C (nx_n h1 h2) rfl dX5_next_105
    · refine x_aload_n C 0 dX5_next_73 rfl rfl ?_
      refine x_callVv C (As := []) (rest := []) (c_readWord l E (u2 (u2 σ 6 3 (nI (nB g n e))) 6 4 (nI (nB g n e))) τ (nB g n e) (n - nB g n e) g n hn (Eq.trans (Eq.trans (u2_bk_ne _ (c := 5) (b := 6) _ _ (by decide)) (u2_bk_ne _ (c := 5) (b := 6) _ _ (by decide))) hg) (Eq.trans (Eq.trans (u2_ne (b := 6) (i := 4) (c := 6) (j := 1) (by decide)) (u2_ne (b := 6) (i := 3) (c := 6) (j := 1) (by decide))) ht) (by omega) (Eq.trans (u2_ne (b := 6) (i := 4) (c := 6) (j := 3) (by decide)) (u2_at _ _ _ _)) (u2_at _ _ _ _)) kv_X5_64 (x_recv C (Nat.le_of_ble_eq_true rfl) xd_57 rfl) ⟨Nat.le_of_ble_eq_true rfl, Nat.le_of_ble_eq_true rfl⟩ rfl rfl (Nat.le_of_ble_eq_true rfl) dX5_next_74 ?_
      refine x_goto2 C (tgt := 105) dX5_next_77 (by decide) ?_
      exact x_vret C (nx_w h1) rfl dX5_next_105
  refine x_aload_n C 0 dX5_next_0 rfl rfl ?_
  refine x_aload_n C 0 dX5_next_1 rfl rfl ?_
  refine x_get C (Nat.le_of_ble_eq_true rfl) xd_57 fl_X5_18 (q := (1, 6, 4)) (v := .int (nI e)) rfl (congrArg Value.int he) dX5_next_2 ?_
  refine x_put C (σ' := u2 σ 6 3 (nI e)) (Nat.le_of_ble_eq_true rfl) xd_57 fp_X5_34 rfl rfl rfl rfl dX5_next_5 ?_
  have loop : ∀ (j k : Nat), j + k = n - e → (∀ i, i < k → ¬ ¬ isSp (g (e + i))) → WM zp l ze { frames := 6, cells := 0, slots := 0, locals := 130 } zs zm za zb zh zc 0 0 (MQ zb (va_Qv (fun _ : Unit => True) (fun _ t => xP E (va_up σ 6 (rdT g n e (σ 6))) (τ) t.heap) (xA E)) za zs 0 0 (xA E)) E (xA E) 1 (u2 σ 6 3 (nI (e + k))) (τ) 8 [(0, .ref (xad E (57)))] [] := by
    intro j
    induction j with
    | zero =>
      intro k hk hnf
      refine x_aload_n C 0 dX5_next_8 rfl rfl ?_
      refine x_get C (Nat.le_of_ble_eq_true rfl) xd_57 fl_X5_34 (q := (1, 6, 3)) (v := .int (nI (e + k))) rfl (congrArg Value.int (Eq.trans (u2_at _ _ _ _) rfl)) dX5_next_9 ?_
      refine x_aload_n C 0 dX5_next_12 rfl rfl ?_
      refine x_get C (Nat.le_of_ble_eq_true rfl) xd_57 fl_X5_12 (q := (0, 55, 0)) (v := .ref (xad E (55))) rfl rfl dX5_next_13 ?_
      refine x_get C (Nat.le_of_ble_eq_true rfl) xd_55 fl_X5_37 (q := (1, 6, 1)) (v := .int (nI n)) rfl (congrArg Value.int (Eq.trans (u2_ne (b := 6) (i := 3) (c := 6) (j := 1) (by decide)) ht)) dX5_next_16 ?_
      refine x_icmp_ge C (tgt := 51) dX5_next_19 (by decide) (fun h3 => ?_) (fun h3 => absurd h3 (nI_nlt (a := e + k) (b := n) (by omega) (by omega)))
      exact WM.to hw (congrArg (u2 σ 6 3) (congrArg nI (spN_end (P := isSp) (g := g) (n := n) (e := e) hnf (by omega)))) rfl rfl rfl
    | succ j ih =>
      intro k hk hnf
      refine x_aload_n C 0 dX5_next_8 rfl rfl ?_
      refine x_get C (Nat.le_of_ble_eq_true rfl) xd_57 fl_X5_34 (q := (1, 6, 3)) (v := .int (nI (e + k))) rfl (congrArg Value.int (Eq.trans (u2_at _ _ _ _) rfl)) dX5_next_9 ?_
      refine x_aload_n C 0 dX5_next_12 rfl rfl ?_
      refine x_get C (Nat.le_of_ble_eq_true rfl) xd_57 fl_X5_12 (q := (0, 55, 0)) (v := .ref (xad E (55))) rfl rfl dX5_next_13 ?_
      refine x_get C (Nat.le_of_ble_eq_true rfl) xd_55 fl_X5_37 (q := (1, 6, 1)) (v := .int (nI n)) rfl (congrArg Value.int (Eq.trans (u2_ne (b := 6) (i := 3) (c := 6) (j := 1) (by decide)) ht)) dX5_next_16 ?_
      refine x_icmp_ge C (tgt := 51) dX5_next_19 (by decide) (fun h4 => absurd (nI_lt (a := e + k) (b := n) (by omega) (by omega)) h4) (fun h4 => ?_)
      refine x_aload_n C 0 dX5_next_22 rfl rfl ?_
      refine x_get C (Nat.le_of_ble_eq_true rfl) xd_57 fl_X5_12 (q := (0, 55, 0)) (v := .ref (xad E (55))) rfl rfl dX5_next_23 ?_
      refine x_aload_n C 0 dX5_next_26 rfl rfl ?_
      refine x_get C (Nat.le_of_ble_eq_true rfl) xd_57 fl_X5_34 (q := (1, 6, 3)) (v := .int (nI (e + k))) rfl (congrArg Value.int (Eq.trans (u2_at _ _ _ _) rfl)) dX5_next_27 ?_
      refine x_callVi C (As := [.int (nI (e + k))]) (rest := []) (c_byteAt l E (u2 σ 6 3 (nI (e + k))) τ (e + k) (by omega) g n hn (Eq.trans (u2_bk_ne _ (c := 5) (b := 6) _ _ (by decide)) hg) (Eq.trans (u2_ne (b := 6) (i := 3) (c := 6) (j := 1) (by decide)) ht)) kv_X5_56 (x_recv C (Nat.le_of_ble_eq_true rfl) xd_55 rfl) ⟨Nat.le_of_ble_eq_true rfl, Nat.le_of_ble_eq_true rfl⟩ rfl rfl (Nat.le_of_ble_eq_true rfl) dX5_next_30 ?_
      refine x_bipush C (v := 32) dX5_next_33 (by decide) ?_
      refine x_icmp_ne C (tgt := 51) dX5_next_35 (by decide) (fun h5 => ?_) (fun h5 => ?_)
      · exact WM.to hw (congrArg (u2 σ 6 3) (congrArg nI (spN_at (P := isSp) (g := g) (n := n) (e := e) hnf (by omega) (by rw [← byB_in (g := g) (show e + k < n by omega)]; exact h5)))) rfl rfl rfl
      · refine x_aload_n C 0 dX5_next_38 rfl rfl ?_
        refine x_dup C dX5_next_39 rfl ?_
        refine x_get C (Nat.le_of_ble_eq_true rfl) xd_57 fl_X5_34 (q := (1, 6, 3)) (v := .int (nI (e + k))) rfl (congrArg Value.int (Eq.trans (u2_at _ _ _ _) rfl)) dX5_next_40 ?_
        refine x_iconst C (v := 1) dX5_next_43 (by decide) ?_
        refine x_iadd C dX5_next_44 ?_
        refine WM.topi (y := nI (e + k + 1)) (nI_add (e + k) 1) ?_
        refine x_put C (σ' := u2 (u2 σ 6 3 (nI (e + k))) 6 3 (nI (e + k + 1))) (Nat.le_of_ble_eq_true rfl) xd_57 fp_X5_34 rfl rfl rfl rfl dX5_next_45 ?_
        refine x_goto2 C (tgt := 8) dX5_next_48 (by decide) ?_
        refine WM.keep [0] (lv' := [(0, .ref (xad E (57)))]) rfl ?_
        exact WM.to (ih (k + 1) (by omega) (hyp_s hnf (fun f => f (by rw [← byB_in (g := g) (show e + k < n by omega)]; exact h5)))) (u2_u2 _ _ _ _ _) rfl rfl rfl
  refine WM.keep [0] rfl ?_
  exact WM.to (loop (n - e) 0 (by omega) (fun i hi => absurd hi (Nat.not_lt_zero i))) rfl rfl rfl rfl
