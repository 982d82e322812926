/-! a deed and a text -/
abbrev tT (g : Nat → Int32) (n e : Nat) : Int32 := tkT g n (nB g n e)
abbrev tV (g : Nat → Int32) (n e : Nat) : Int32 := tkV g n (nB g n e)
abbrev okW (g : Nat → Int32) (n e : Nat) : Prop := tT g n e = 0 ∧ ¬ tV g n e = -1
abbrev lsQ (g : Nat → Int32) (n e : Nat) : Prop := tV g n e = 11 ∧ (tT g n (nx g n e) = 2 ∧ tV g n (nx g n e) = 45)
/-- where the number of the deed that begins at e is looked for -/
def e2N (g : Nat → Int32) (n e : Nat) : Nat := if lsQ g n e then nx g n (nx g n e) else nx g n e
abbrev okN (g : Nat → Int32) (n e : Nat) : Prop := tT g n (e2N g n e) = 1 ∧ rng (tV g n (e2N g n e)) ((xzl 2).getD (tV g n e).toNatClampNeg 0) ((xzl 3).getD (tV g n e).toNatClampNeg 0)
abbrev okD (g : Nat → Int32) (n e : Nat) : Prop := okW g n e ∧ okN g n e
def nmD (g : Nat → Int32) (n e : Nat) : Int32 := if lsQ g n e then -tV g n (e2N g n e) else tV g n (e2N g n e)
/-- where the reader stands behind a deed, or where it failed -/
def aft (g : Nat → Int32) (n e : Nat) : Nat := if okW g n e then (if okN g n e then nx g n (e2N g n e) else e2N g n e) else e
theorem e2N_le {g : Nat → Int32} {n e : Nat} (h : e ≤ n) : e2N g n e ≤ n := by
  unfold e2N
  split
  · exact nx_le (nx_le h)
  · exact nx_le h
theorem aft_le {g : Nat → Int32} {n e : Nat} (h : e ≤ n) : aft g n e ≤ n := by
  unfold aft
  split
  · split
    · exact nx_le (e2N_le h)
    · exact e2N_le h
  · exact h
theorem wvN_is {Q : Nat → Prop} [DecidablePred Q] : ∀ k, wvN Q k = -1 ∨ ∃ j, j < k ∧ wvN Q k = nI j := by
  intro k
  induction k with
  | zero => exact Or.inl rfl
  | succ k ih =>
    unfold wvN
    by_cases h : Q k
    · rw [if_pos h]; exact Or.inr ⟨k, by omega, rfl⟩
    · rw [if_neg h]
      rcases ih with h1 | ⟨j, hj, h1⟩
      · exact Or.inl h1
      · exact Or.inr ⟨j, by omega, h1⟩
theorem okW_k {g : Nat → Int32} {n e : Nat} (h : okW g n e) : ∃ k, k < 13 ∧ tV g n e = nI k := by
  obtain ⟨h1, h2⟩ := h
  unfold tT tkT at h1
  unfold tV tkV at h2 ⊢
  by_cases hl : isLt (byB g n (nB g n e))
  · rw [if_pos hl] at h2 ⊢
    exact (wvN_is 13).resolve_left h2
  · rw [if_neg hl] at h1
    by_cases hd : isDg (byB g n (nB g n e))
    · rw [if_pos hd] at h1; exact absurd h1 (by decide)
    · rw [if_neg hd] at h1
      split at h1 <;> exact absurd h1 (by decide)
def tyT (g : Nat → Int32) (n e : Nat) : Prop := tT g n e = 2 ∧ tV g n e = 59
/-- the deeds from the token at e on, c of them being there: the fault or -1, where the reader stands, the places -/
def rdP (g : Nat → Int32) (n q : Nat) : Nat → Nat → Nat → (Nat → Int32) → Int32 × Nat × (Nat → Int32)
  | 0, e, _, G => (nI (nB g n e), e, G)
  | f + 1, e, c, G => if okD g n e then (if nB g n (aft g n e) = n then (-1, aft g n e, rdG q c (tV g n e) (nmD g n e) G) else if tT g n (aft g n e) = 2 ∧ tV g n (aft g n e) = 59 then rdP g n q f (nx g n (aft g n e)) (c + 1) (rdG q c (tV g n e) (nmD g n e) G) else (nI (nB g n (aft g n e)), aft g n e, rdG q c (tV g n e) (nmD g n e) G)) else (nI (nB g n (aft g n e)), aft g n e, G)
def eK (g : Nat → Int32) (n : Nat) : Nat → Nat
  | 0 => 0
  | k + 1 => nx g n (aft g n (eK g n k))
def GK (g : Nat → Int32) (n q : Nat) (G : Nat → Int32) : Nat → (Nat → Int32)
  | 0 => G
  | k + 1 => rdG q k (tV g n (eK g n k)) (nmD g n (eK g n k)) (GK g n q G k)
theorem eK_le (g : Nat → Int32) (n : Nat) : ∀ k, eK g n k ≤ n := by
  intro k
  induction k with
  | zero => exact Nat.zero_le _
  | succ k ih => exact nx_le (aft_le ih)
theorem GK_c {g : Nat → Int32} {n q : Nat} {G : Nat → Int32} (h : G (134 + 25 * q) = nI 0) : ∀ k, GK g n q G k (134 + 25 * q) = nI k := by
  intro k
  cases k with
  | zero => exact h
  | succ k => exact upd_at _ _ _
/-- the rounds so far have gone on -/
abbrev rdH (g : Nat → Int32) (n q : Nat) (G : Nat → Int32) (k : Nat) : Prop := rdP g n q 12 0 0 G = rdP g n q (12 - k) (eK g n k) k (GK g n q G k)
theorem rdH_s {g : Nat → Int32} {n q : Nat} {G : Nat → Int32} {k : Nat} (hk : k < 12) (h : rdH g n q G k) (h1 : okD g n (eK g n k)) (h2 : ¬ nB g n (aft g n (eK g n k)) = n) (h3 : tT g n (aft g n (eK g n k)) = 2 ∧ tV g n (aft g n (eK g n k)) = 59) : rdH g n q G (k + 1) := by
  refine h.trans ?_
  rw [show 12 - k = (12 - (k + 1)) + 1 by omega]
  show (if okD g n (eK g n k) then _ else _) = _
  rw [if_pos h1, if_neg h2, if_pos h3]
  rfl
theorem rd_no {g : Nat → Int32} {n q : Nat} {G : Nat → Int32} {k : Nat} (hk : k < 12) (h : rdH g n q G k) (h1 : ¬ okD g n (eK g n k)) : rdP g n q 12 0 0 G = (nI (nB g n (aft g n (eK g n k))), aft g n (eK g n k), GK g n q G k) := by
  refine h.trans ?_
  rw [show 12 - k = (12 - (k + 1)) + 1 by omega]
  show (if okD g n (eK g n k) then _ else _) = _
  rw [if_neg h1]
theorem rd_end {g : Nat → Int32} {n q : Nat} {G : Nat → Int32} {k : Nat} (hk : k < 12) (h : rdH g n q G k) (h1 : okD g n (eK g n k)) (h2 : nB g n (aft g n (eK g n k)) = n) : rdP g n q 12 0 0 G = (-1, aft g n (eK g n k), GK g n q G (k + 1)) := by
  refine h.trans ?_
  rw [show 12 - k = (12 - (k + 1)) + 1 by omega]
  show (if okD g n (eK g n k) then _ else _) = _
  rw [if_pos h1, if_pos h2]
  rfl
theorem rd_sg {g : Nat → Int32} {n q : Nat} {G : Nat → Int32} {k : Nat} (hk : k < 12) (h : rdH g n q G k) (h1 : okD g n (eK g n k)) (h2 : ¬ nB g n (aft g n (eK g n k)) = n) (h3 : ¬ (tT g n (aft g n (eK g n k)) = 2 ∧ tV g n (aft g n (eK g n k)) = 59)) : rdP g n q 12 0 0 G = (nI (nB g n (aft g n (eK g n k))), aft g n (eK g n k), GK g n q G (k + 1)) := by
  refine h.trans ?_
  rw [show 12 - k = (12 - (k + 1)) + 1 by omega]
  show (if okD g n (eK g n k) then _ else _) = _
  rw [if_pos h1, if_neg h2, if_neg h3]
  rfl
theorem rd_12 {g : Nat → Int32} {n q : Nat} {G : Nat → Int32} {k : Nat} (hk : k = 12) (h : rdH g n q G k) : rdP g n q 12 0 0 G = (nI (nB g n (eK g n k)), eK g n k, GK g n q G k) := by
  subst hk
  exact h
theorem aft_ok {g : Nat → Int32} {n e : Nat} (h : okD g n e) : aft g n e = nx g n (e2N g n e) := by
  unfold aft
  rw [if_pos h.1, if_pos h.2]
theorem aft_w {g : Nat → Int32} {n e : Nat} (h : ¬ okW g n e) : aft g n e = e := if_neg h
theorem aft_n {g : Nat → Int32} {n e : Nat} (h : okW g n e) (h2 : ¬ okN g n e) : aft g n e = e2N g n e := by
  unfold aft
  rw [if_pos h, if_neg h2]
theorem rd0_n (σ : Nat → Nat → Int32) (g : Nat → Int32) (n i : Nat) : va_up (u2 (u2 σ 6 4 0) 0 i 0) 6 (rdT g n 0 ((u2 (u2 σ 6 4 0) 0 i 0) 6)) = va_up (va_up σ 0 (upd (σ 0) i 0)) 6 (rdT g n 0 (σ 6)) := by
  funext c
  by_cases h : c = 6
  · subst h
    rw [va_up_self, va_up_self]
    rw [show u2 (u2 σ 6 4 0) 0 i 0 6 = upd (σ 6) 4 0 from Eq.trans (u2_bk_ne (u2 σ 6 4 0) (c := 6) (b := 0) i 0 (by decide)) (u2_bk _ _ _ _)]
    funext j
    show rd6 _ _ _ _ _ j = rd6 _ _ _ _ _ j
    unfold rd6
    split
    · rfl
    split
    · rfl
    split
    · rfl
    split
    · rfl
    rename_i a b c d
    exact upd_ne c
  · rw [va_up_ne _ _ h, va_up_ne _ _ h]
    by_cases h0 : c = 0
    · subst h0
      simp only [u2, va_up_self]
      rfl
    · rw [va_up_ne _ _ h0]
      unfold u2
      rw [va_up_ne _ _ h0, va_up_ne _ _ h]
set_option maxHeartbeats 4000000 in
set_option maxRecDepth 100000 in
theorem c_isSign (l : Launch) (E : xE) (σ : Nat → Nat → Int32) (τ : Nat → Int64) (x : Int32) : xMi l yX5_isSign cX5_isSign 2 .boolean 0 0 E [.ref (xad E (57)), .int (x)] (σ) (τ) (if σ 6 2 = 2 ∧ σ 6 5 = x then 1 else 0) (σ) (τ) := by
  refine xMi_of (own := RX5) (by decide +kernel) rfl (Nat.le_of_ble_eq_true rfl) ?_
  intro zp ze zs zm za zb zh zc C
  refine WM.to (lv1 := [(0, .ref (xad E (57))), (1, .int (x))]) (st1 := []) (σ1 := σ) (τ1 := τ) ?_ rfl rfl rfl rfl
  refine x_aload_n C 0 dX5_isSign_0 rfl rfl ?_
  refine x_get C (Nat.le_of_ble_eq_true rfl) xd_57 fl_X5_45 (q := (1, 6, 2)) (v := .int (σ 6 2)) rfl rfl dX5_isSign_1 ?_
  refine x_iconst C (v := 2) dX5_isSign_4 (by decide) ?_
  refine x_icmp_ne C (tgt := 20) dX5_isSign_5 (by decide) (fun h1 => ?_) (fun h1 => ?_)
  · refine x_iconst C (v := 0) dX5_isSign_20 (by decide) ?_
    exact x_zret C (by rfl) (Eq.symm (if_neg (fun q => h1 q.1))) rfl rfl dX5_isSign_21
  · refine x_aload_n C 0 dX5_isSign_8 rfl rfl ?_
    refine x_get C (Nat.le_of_ble_eq_true rfl) xd_57 fl_X5_42 (q := (1, 6, 5)) (v := .int (σ 6 5)) rfl rfl dX5_isSign_9 ?_
    refine x_iload_n C 1 dX5_isSign_12 rfl rfl ?_
    refine x_icmp_ne C (tgt := 20) dX5_isSign_13 (by decide) (fun h2 => ?_) (fun h2 => ?_)
    · refine x_iconst C (v := 0) dX5_isSign_20 (by decide) ?_
      exact x_zret C (by rfl) (Eq.symm (if_neg (fun q => h2 q.2))) rfl rfl dX5_isSign_21
    · refine x_iconst C (v := 1) dX5_isSign_16 (by decide) ?_
      refine x_goto2 C (tgt := 21) dX5_isSign_17 (by decide) ?_
      exact x_zret C (by rfl) (Eq.symm (if_pos ⟨h1, h2⟩)) rfl rfl dX5_isSign_21
set_option maxHeartbeats 4000000 in
set_option maxRecDepth 100000 in
theorem c_add (l : Launch) (E : xE) (σ : Nat → Nat → Int32) (τ : Nat → Int64) (w p c : Nat) (hkw : w < 2) (hp : p < 6) (g : Nat → Int32) (hc : g (134 + 25 * p) = nI c) (hcb : c < 12) (d x : Int32) : xMv l yX0_add cX0_add 3 1 22 E [.ref (xad E (sc w + 9 + 3 * p)), .int (d), .int (x)] (va_up σ w (g)) (τ) (va_up σ w (rdG p c d x g)) (τ) := by
  refine xMv_of (own := RX0) (by decide +kernel) rfl (Nat.le_of_ble_eq_true rfl) ?_
  intro zp ze zs zm za zb zh zc C
  refine WM.to (lv1 := [(0, .ref (xad E (sc w + 9 + 3 * p))), (1, .int (d)), (2, .int (x))]) (st1 := []) (σ1 := va_up σ w (g)) (τ1 := τ) ?_ rfl rfl rfl rfl
  refine x_aload_n C 0 dX0_add_0 rfl rfl ?_
  refine x_get C (by have := sc_lt hkw; omega) (sp_0 hkw (show p < 6 by omega)) fl_X0_24 (q := (1, w, 134 + 25 * p)) (v := .int (nI c)) rfl (congrArg Value.int (Eq.trans (congrFun (va_up_self _ _ _) _) hc)) dX0_add_1 ?_
  refine x_iconst C (v := 0) dX0_add_4 (by decide) ?_
  refine x_bipush C (v := 11) dX0_add_5 (by decide) ?_
  refine x_callNi C (As := [.int (nI c), .int (0), .int (11)]) (rest := []) (c_within l E (va_up σ w (g)) τ (nI c) 0 11) kn_X0_28 ⟨Nat.le_of_ble_eq_true rfl, Nat.le_of_ble_eq_true rfl⟩ rfl rfl (Nat.le_of_ble_eq_true rfl) dX0_add_7 ?_
  refine x_ifeqB C (tgt := 43) dX0_add_10 (by decide) (fun h1 => absurd (rng_nI (b := 11) (by omega) (by decide)) h1) (fun h1 => ?_)
  refine x_aload_n C 0 dX0_add_13 rfl rfl ?_
  refine x_get C (by have := sc_lt hkw; omega) (sp_0 hkw (show p < 6 by omega)) fl_X0_9 (q := (0, sc w + 9 + 3 * p + 1, 0)) (v := .ref (xad E (sc w + 9 + 3 * p + 1))) rfl rfl dX0_add_14 ?_
  refine x_aload_n C 0 dX0_add_17 rfl rfl ?_
  refine x_get C (by have := sc_lt hkw; omega) (sp_0 hkw (show p < 6 by omega)) fl_X0_24 (q := (1, w, 134 + 25 * p)) (v := .int (nI c)) rfl (congrArg Value.int (Eq.trans (congrFun (va_up_self _ _ _) _) hc)) dX0_add_18 ?_
  refine x_iload_n C 1 dX0_add_21 rfl rfl ?_
  refine x_ast C (σ' := va_up σ w (upd g (135 + 25 * p + 2 * c) (d))) (by have := sc_lt hkw; omega) (sp_1 hkw (show p < 6 by omega)) (by decide) (vp_in_nI (show c < 12 by omega) (by decide)) (by rw [(nI_clamp (show c < 2 ^ 31 by omega))]; exact (u2_bank _ _ _ _ _)) dX0_add_22 ?_
  refine x_aload_n C 0 dX0_add_23 rfl rfl ?_
  refine x_get C (by have := sc_lt hkw; omega) (sp_0 hkw (show p < 6 by omega)) fl_X0_15 (q := (0, sc w + 9 + 3 * p + 2, 0)) (v := .ref (xad E (sc w + 9 + 3 * p + 2))) rfl rfl dX0_add_24 ?_
  refine x_aload_n C 0 dX0_add_27 rfl rfl ?_
  refine x_get C (by have := sc_lt hkw; omega) (sp_0 hkw (show p < 6 by omega)) fl_X0_24 (q := (1, w, 134 + 25 * p)) (v := .int (nI c)) rfl (congrArg Value.int (Eq.trans (Eq.trans (congrFun (va_up_self _ _ _) _) (upd_ne (j := 134 + 25 * p) (k := 135 + 25 * p + 2 * c) (by omega))) hc)) dX0_add_28 ?_
  refine x_iload_n C 2 dX0_add_31 rfl rfl ?_
  refine x_ast C (σ' := va_up σ w (upd (upd g (135 + 25 * p + 2 * c) (d)) (136 + 25 * p + 2 * c) (x))) (by have := sc_lt hkw; omega) (sp_2 hkw (show p < 6 by omega)) (by decide) (vp_in_nI (show c < 12 by omega) (by decide)) (by rw [(nI_clamp (show c < 2 ^ 31 by omega))]; exact (u2_bank _ _ _ _ _)) dX0_add_32 ?_
  refine x_aload_n C 0 dX0_add_33 rfl rfl ?_
  refine x_dup C dX0_add_34 rfl ?_
  refine x_get C (by have := sc_lt hkw; omega) (sp_0 hkw (show p < 6 by omega)) fl_X0_24 (q := (1, w, 134 + 25 * p)) (v := .int (nI c)) rfl (congrArg Value.int (Eq.trans (Eq.trans (congrFun (va_up_self _ _ _) _) (Eq.trans (upd_ne (j := 134 + 25 * p) (k := 136 + 25 * p + 2 * c) (by omega)) (upd_ne (j := 134 + 25 * p) (k := 135 + 25 * p + 2 * c) (by omega)))) hc)) dX0_add_35 ?_
  refine x_iconst C (v := 1) dX0_add_38 (by decide) ?_
  refine x_iadd C dX0_add_39 ?_
  refine WM.topi (y := nI (c + 1)) (nI_add c 1) ?_
  refine x_put C (σ' := va_up σ w (upd (upd (upd g (135 + 25 * p + 2 * c) (d)) (136 + 25 * p + 2 * c) (x)) (134 + 25 * p) (nI (c + 1)))) (by have := sc_lt hkw; omega) (sp_0 hkw (show p < 6 by omega)) fp_X0_24 rfl rfl rfl (u2_bank _ _ _ _ _) dX0_add_40 ?_
  exact x_vret C rfl rfl dX0_add_43
set_option maxHeartbeats 4000000 in
set_option maxRecDepth 100000 in
theorem c_readDeed (l : Launch) (E : xE) (σ : Nat → Nat → Int32) (τ : Nat → Int64) (q c e : Nat) (hq6 : q < 6) (G : Nat → Int32) (g : Nat → Int32) (n : Nat) (hn : n ≤ 100) (hg : σ 5 = g) (ht : σ 6 1 = nI n) (hen : e ≤ n) (hc : G (134 + 25 * q) = nI c) (hcb : c < 12) : xMi l yX5_readDeed cX5_readDeed 4 .boolean 7 150 E [.ref (xad E (57)), .ref (xad E (sc 0 + 9 + 3 * q))] (va_up (va_up σ 0 G) 6 (rdT g n e (σ 6))) (τ) (if okD g n e then 1 else 0) (va_up (va_up σ 0 (if okD g n e then rdG q c (tV g n e) (nmD g n e) G else G)) 6 (rdT g n (aft g n e) (σ 6))) (τ) := by
  refine xMi_of (own := RX5) (by decide +kernel) rfl (Nat.le_of_ble_eq_true rfl) ?_
  intro zp ze zs zm za zb zh zc C
  refine WM.to (lv1 := [(0, .ref (xad E (57))), (1, .ref (xad E (sc 0 + 9 + 3 * q)))]) (st1 := []) (σ1 := va_up (va_up σ 0 G) 6 (rdT g n e (σ 6))) (τ1 := τ) ?_ rfl rfl rfl rfl
  have hk0 : 0 < 2 := by decide
  refine x_aload_n C 0 dX5_readDeed_0 rfl rfl ?_
  refine x_get C (Nat.le_of_ble_eq_true rfl) xd_57 fl_X5_42 (q := (1, 6, 5)) (v := .int (tkV g n (nB g n e))) rfl (congrArg Value.int (congrFun (va_up_self _ _ _) _)) dX5_readDeed_1 ?_
  refine x_istore_n C (lv1 := [(2, .int (tkV g n (nB g n e))), (0, .ref (xad E (57))), (1, .ref (xad E (sc 0 + 9 + 3 * q)))]) dX5_readDeed_4 rfl (by decide) rfl ?_
  refine x_aload_n C 1 dX5_readDeed_5 rfl rfl ?_
  refine x_get C (Nat.le_of_ble_eq_true rfl) xd_57 fl_X5_45 (q := (1, 6, 2)) (v := .int (tkT g n (nB g n e))) rfl (congrArg Value.int (congrFun (va_up_self _ _ _) _)) dX5_readDeed_6 ?_
  refine x_if_ne C (tgt := 17) dX5_readDeed_9 (by decide) (fun h1 => ?_) (fun h1 => ?_)
  · refine x_iconst C (v := 0) dX5_readDeed_17 (by decide) ?_
    exact x_zret C (by rfl) (Eq.symm (if_neg (fun z => h1 z.1.1))) (by rw [if_neg (fun z => h1 z.1.1), aft_w (fun z => h1 z.1)]) rfl dX5_readDeed_18
  · refine x_iload_n C 0 dX5_readDeed_12 rfl rfl ?_
    refine x_iconst C (v := -1) dX5_readDeed_13 (by decide) ?_
    refine x_icmp_ne C (tgt := 19) dX5_readDeed_14 (by decide) (fun h2 => ?_) (fun h2 => ?_)
    · have hw : okW g n e := ⟨h1, h2⟩
      obtain ⟨k, hk, ek⟩ := okW_k hw
      have hn1 : nx g n e ≤ n := nx_le hen
      have hn2 : e2N g n e ≤ n := e2N_le hen
      refine x_aload_n C 1 dX5_readDeed_19 rfl rfl ?_
      refine x_callVv C (As := []) (rest := []) (c_next l E (va_up (va_up σ 0 G) 6 (rdT g n e (σ 6))) τ (nx g n e) g n hn (Eq.trans (Eq.trans (va_up_ne _ (j := 5) (k := 6) _ (by decide)) (va_up_ne _ (j := 5) (k := 0) _ (by decide))) hg) (Eq.trans (congrFun (va_up_self _ _ _) _) ht) (by omega) (congrFun (va_up_self _ _ _) _)) kv_X5_27 (x_recv C (Nat.le_of_ble_eq_true rfl) xd_57 rfl) ⟨Nat.le_of_ble_eq_true rfl, Nat.le_of_ble_eq_true rfl⟩ rfl rfl (Nat.le_of_ble_eq_true rfl) dX5_readDeed_20 ?_
      refine WM.to (σ1 := va_up (va_up σ 0 G) 6 (rdT g n (nx g n e) (σ 6))) ?_ (rdT_rdT _ _ _ _ _ _) rfl rfl rfl
      refine x_iload_n C 0 dX5_readDeed_23 rfl rfl ?_
      refine x_bipush C (v := 11) dX5_readDeed_24 (by decide) ?_
      refine x_icmp_ne C (tgt := 42) dX5_readDeed_26 (by decide) (fun h3 => ?_) (fun h3 => ?_)
      · refine x_iconst C (v := 0) dX5_readDeed_42 (by decide) ?_
        refine x_istore_n C (lv1 := [(3, .int (0)), (2, .int (tkV g n (nB g n e))), (0, .ref (xad E (57))), (1, .ref (xad E (sc 0 + 9 + 3 * q)))]) dX5_readDeed_43 rfl (by decide) rfl ?_
        refine x_iload_n C 0 dX5_readDeed_44 rfl rfl ?_
        refine x_if_eq C (tgt := 52) dX5_readDeed_45 (by decide) (fun h4 => ?_) (fun h4 => absurd h4 (by decide))
        refine WM.to (σ1 := va_up (va_up σ 0 G) 6 (rdT g n (e2N g n e) (σ 6))) ?_ (by rw [show e2N g n e = _ from if_neg (fun z => h3 z.1)]) rfl rfl rfl
        refine x_aload_n C 2 dX5_readDeed_52 rfl rfl ?_
        refine x_get C (Nat.le_of_ble_eq_true rfl) xd_57 fl_X5_45 (q := (1, 6, 2)) (v := .int (tkT g n (nB g n (e2N g n e)))) rfl (congrArg Value.int (congrFun (va_up_self _ _ _) _)) dX5_readDeed_53 ?_
        refine x_iconst C (v := 1) dX5_readDeed_56 (by decide) ?_
        refine x_icmp_ne C (tgt := 71) dX5_readDeed_57 (by decide) (fun h5 => ?_) (fun h5 => ?_)
        · refine x_iconst C (v := 0) dX5_readDeed_71 (by decide) ?_
          exact x_zret C (by rfl) (Eq.symm (if_neg (fun z => ((fun z => h5 z.1) : ¬ okN g n e) z.2))) (by rw [if_neg (fun z : okD g n e => ((fun z => h5 z.1) : ¬ okN g n e) z.2), aft_n hw (fun z => h5 z.1)]) rfl dX5_readDeed_72
        · refine x_iload_n C 1 dX5_readDeed_60 rfl rfl ?_
          refine WM.to (st1 := [.int (nI k)]) ?_ rfl rfl rfl (congrArg (fun z => [Value.int z]) ek)
          refine x_aload_n C 2 dX5_readDeed_61 rfl rfl ?_
          refine x_get C (Nat.le_of_ble_eq_true rfl) xd_57 fl_X5_42 (q := (1, 6, 5)) (v := .int (tkV g n (nB g n (e2N g n e)))) rfl (congrArg Value.int (congrFun (va_up_self _ _ _) _)) dX5_readDeed_62 ?_
          refine x_callSi C (As := [.int (nI k), .int (tkV g n (nB g n (e2N g n e)))]) (rest := []) (c_takes l E (va_up (va_up σ 0 G) 6 (rdT g n (e2N g n e) (σ 6))) τ k hk (tkV g n (nB g n (e2N g n e)))) ks_X5_48 ⟨Nat.le_of_ble_eq_true rfl, Nat.le_of_ble_eq_true rfl⟩ rfl rfl (Nat.le_of_ble_eq_true rfl) dX5_readDeed_65 ?_
          refine x_ifneB C (tgt := 73) dX5_readDeed_68 (by decide) (fun h6 => ?_) (fun h6 => ?_)
          · have hd : okD g n e := ⟨hw, h5, by rw [ek, nI_clamp (by omega)]; exact h6⟩
            refine x_aload_n C 3 dX5_readDeed_73 rfl rfl ?_
            refine x_iload_n C 1 dX5_readDeed_74 rfl rfl ?_
            refine x_iload_n C 0 dX5_readDeed_75 rfl rfl ?_
            refine x_if_eq C (tgt := 87) dX5_readDeed_76 (by decide) (fun h7 => ?_) (fun h7 => absurd h7 (by decide))
            refine x_aload_n C 2 dX5_readDeed_87 rfl rfl ?_
            refine x_get C (Nat.le_of_ble_eq_true rfl) xd_57 fl_X5_42 (q := (1, 6, 5)) (v := .int (tkV g n (nB g n (e2N g n e)))) rfl (congrArg Value.int (congrFun (va_up_self _ _ _) _)) dX5_readDeed_88 ?_
            refine WM.topi (y := nmD g n e) (Eq.symm (if_neg (fun z => h3 z.1))) ?_
            refine WM.to (σ1 := va_up (va_up σ 6 (rdT g n (e2N g n e) (σ 6))) 0 G) ?_ (xswap (by decide)) rfl rfl rfl
            refine x_callVv C (As := [.int (tkV g n (nB g n e)), .int (nmD g n e)]) (rest := []) (c_add l E (va_up σ 6 (rdT g n (e2N g n e) (σ 6))) τ 0 q c (by decide) (by omega) G hc (by omega) (tkV g n (nB g n e)) (nmD g n e)) kv_X5_52 (x_recv C (by have := sc_lt hk0; omega) (sp_0 hk0 (show q < 6 by omega)) rfl) ⟨Nat.le_of_ble_eq_true rfl, Nat.le_of_ble_eq_true rfl⟩ rfl rfl (Nat.le_of_ble_eq_true rfl) dX5_readDeed_91 ?_
            refine x_aload_n C 2 dX5_readDeed_94 rfl rfl ?_
            refine WM.to (σ1 := va_up (va_up σ 0 (rdG q c (tkV g n (nB g n e)) (nmD g n e) G)) 6 (rdT g n (e2N g n e) (σ 6))) ?_ (xswap (by decide)) rfl rfl rfl
            refine x_callVv C (As := []) (rest := []) (c_next l E (va_up (va_up σ 0 (rdG q c (tkV g n (nB g n e)) (nmD g n e) G)) 6 (rdT g n (e2N g n e) (σ 6))) τ (nx g n (e2N g n e)) g n hn (Eq.trans (Eq.trans (va_up_ne _ (j := 5) (k := 6) _ (by decide)) (va_up_ne _ (j := 5) (k := 0) _ (by decide))) hg) (Eq.trans (congrFun (va_up_self _ _ _) _) ht) (nx_le hn2) (congrFun (va_up_self _ _ _) _)) kv_X5_27 (x_recv C (Nat.le_of_ble_eq_true rfl) xd_57 rfl) ⟨Nat.le_of_ble_eq_true rfl, Nat.le_of_ble_eq_true rfl⟩ rfl rfl (Nat.le_of_ble_eq_true rfl) dX5_readDeed_95 ?_
            refine WM.to (σ1 := va_up (va_up σ 0 (rdG q c (tkV g n (nB g n e)) (nmD g n e) G)) 6 (rdT g n (nx g n (e2N g n e)) (σ 6))) ?_ (rdT_rdT _ _ _ _ _ _) rfl rfl rfl
            refine x_iconst C (v := 1) dX5_readDeed_98 (by decide) ?_
            exact x_zret C (by rfl) (Eq.symm (if_pos hd)) (by rw [if_pos hd, aft_ok hd]) rfl dX5_readDeed_99
          · refine x_iconst C (v := 0) dX5_readDeed_71 (by decide) ?_
            exact x_zret C (by rfl) (Eq.symm (if_neg (fun z => ((fun z => h6 (by have z2 := z.2; rw [ek, nI_clamp (by omega)] at z2; exact z2)) : ¬ okN g n e) z.2))) (by rw [if_neg (fun z : okD g n e => ((fun z => h6 (by have z2 := z.2; rw [ek, nI_clamp (by omega)] at z2; exact z2)) : ¬ okN g n e) z.2), aft_n hw (fun z => h6 (by have z2 := z.2; rw [ek, nI_clamp (by omega)] at z2; exact z2))]) rfl dX5_readDeed_72
      · refine x_aload_n C 1 dX5_readDeed_29 rfl rfl ?_
        refine x_bipush C (v := 45) dX5_readDeed_30 (by decide) ?_
        refine x_callVi C (As := [.int (45)]) (rest := []) (c_isSign l E (va_up (va_up σ 0 G) 6 (rdT g n (nx g n e) (σ 6))) τ 45) kv_X5_38 (x_recv C (Nat.le_of_ble_eq_true rfl) xd_57 rfl) ⟨Nat.le_of_ble_eq_true rfl, Nat.le_of_ble_eq_true rfl⟩ rfl rfl (Nat.le_of_ble_eq_true rfl) dX5_readDeed_32 ?_
        refine WM.topi (y := if tkT g n (nB g n (nx g n e)) = 2 ∧ tkV g n (nB g n (nx g n e)) = 45 then 1 else 0) (by rw [show (va_up (va_up σ 0 G) 6 (rdT g n (nx g n e) (σ 6))) 6 2 = tkT g n (nB g n (nx g n e)) from (congrFun (va_up_self _ _ _) _), show (va_up (va_up σ 0 G) 6 (rdT g n (nx g n e) (σ 6))) 6 5 = tkV g n (nB g n (nx g n e)) from (congrFun (va_up_self _ _ _) _)]) ?_
        refine x_ifeqB C (tgt := 42) dX5_readDeed_35 (by decide) (fun h8 => ?_) (fun h8 => ?_)
        · refine x_iconst C (v := 0) dX5_readDeed_42 (by decide) ?_
          refine x_istore_n C (lv1 := [(3, .int (0)), (2, .int (tkV g n (nB g n e))), (0, .ref (xad E (57))), (1, .ref (xad E (sc 0 + 9 + 3 * q)))]) dX5_readDeed_43 rfl (by decide) rfl ?_
          refine x_iload_n C 0 dX5_readDeed_44 rfl rfl ?_
          refine x_if_eq C (tgt := 52) dX5_readDeed_45 (by decide) (fun h9 => ?_) (fun h9 => absurd h9 (by decide))
          refine WM.to (σ1 := va_up (va_up σ 0 G) 6 (rdT g n (e2N g n e) (σ 6))) ?_ (by rw [show e2N g n e = _ from if_neg (fun z => h8 z.2)]) rfl rfl rfl
          refine x_aload_n C 2 dX5_readDeed_52 rfl rfl ?_
          refine x_get C (Nat.le_of_ble_eq_true rfl) xd_57 fl_X5_45 (q := (1, 6, 2)) (v := .int (tkT g n (nB g n (e2N g n e)))) rfl (congrArg Value.int (congrFun (va_up_self _ _ _) _)) dX5_readDeed_53 ?_
          refine x_iconst C (v := 1) dX5_readDeed_56 (by decide) ?_
          refine x_icmp_ne C (tgt := 71) dX5_readDeed_57 (by decide) (fun h10 => ?_) (fun h10 => ?_)
          · refine x_iconst C (v := 0) dX5_readDeed_71 (by decide) ?_
            exact x_zret C (by rfl) (Eq.symm (if_neg (fun z => ((fun z => h10 z.1) : ¬ okN g n e) z.2))) (by rw [if_neg (fun z : okD g n e => ((fun z => h10 z.1) : ¬ okN g n e) z.2), aft_n hw (fun z => h10 z.1)]) rfl dX5_readDeed_72
          · refine x_iload_n C 1 dX5_readDeed_60 rfl rfl ?_
            refine WM.to (st1 := [.int (nI k)]) ?_ rfl rfl rfl (congrArg (fun z => [Value.int z]) ek)
            refine x_aload_n C 2 dX5_readDeed_61 rfl rfl ?_
            refine x_get C (Nat.le_of_ble_eq_true rfl) xd_57 fl_X5_42 (q := (1, 6, 5)) (v := .int (tkV g n (nB g n (e2N g n e)))) rfl (congrArg Value.int (congrFun (va_up_self _ _ _) _)) dX5_readDeed_62 ?_
            refine x_callSi C (As := [.int (nI k), .int (tkV g n (nB g n (e2N g n e)))]) (rest := []) (c_takes l E (va_up (va_up σ 0 G) 6 (rdT g n (e2N g n e) (σ 6))) τ k hk (tkV g n (nB g n (e2N g n e)))) ks_X5_48 ⟨Nat.le_of_ble_eq_true rfl, Nat.le_of_ble_eq_true rfl⟩ rfl rfl (Nat.le_of_ble_eq_true rfl) dX5_readDeed_65 ?_
            refine x_ifneB C (tgt := 73) dX5_readDeed_68 (by decide) (fun h11 => ?_) (fun h11 => ?_)
            · have hd : okD g n e := ⟨hw, h10, by rw [ek, nI_clamp (by omega)]; exact h11⟩
              refine x_aload_n C 3 dX5_readDeed_73 rfl rfl ?_
              refine x_iload_n C 1 dX5_readDeed_74 rfl rfl ?_
              refine x_iload_n C 0 dX5_readDeed_75 rfl rfl ?_
              refine x_if_eq C (tgt := 87) dX5_readDeed_76 (by decide) (fun h12 => ?_) (fun h12 => absurd h12 (by decide))
              refine x_aload_n C 2 dX5_readDeed_87 rfl rfl ?_
              refine x_get C (Nat.le_of_ble_eq_true rfl) xd_57 fl_X5_42 (q := (1, 6, 5)) (v := .int (tkV g n (nB g n (e2N g n e)))) rfl (congrArg Value.int (congrFun (va_up_self _ _ _) _)) dX5_readDeed_88 ?_
              refine WM.topi (y := nmD g n e) (Eq.symm (if_neg (fun z => h8 z.2))) ?_
              refine WM.to (σ1 := va_up (va_up σ 6 (rdT g n (e2N g n e) (σ 6))) 0 G) ?_ (xswap (by decide)) rfl rfl rfl
              refine x_callVv C (As := [.int (tkV g n (nB g n e)), .int (nmD g n e)]) (rest := []) (c_add l E (va_up σ 6 (rdT g n (e2N g n e) (σ 6))) τ 0 q c (by decide) (by omega) G hc (by omega) (tkV g n (nB g n e)) (nmD g n e)) kv_X5_52 (x_recv C (by have := sc_lt hk0; omega) (sp_0 hk0 (show q < 6 by omega)) rfl) ⟨Nat.le_of_ble_eq_true rfl, Nat.le_of_ble_eq_true rfl⟩ rfl rfl (Nat.le_of_ble_eq_true rfl) dX5_readDeed_91 ?_
              refine x_aload_n C 2 dX5_readDeed_94 rfl rfl ?_
              refine WM.to (σ1 := va_up (va_up σ 0 (rdG q c (tkV g n (nB g n e)) (nmD g n e) G)) 6 (rdT g n (e2N g n e) (σ 6))) ?_ (xswap (by decide)) rfl rfl rfl
              refine x_callVv C (As := []) (rest := []) (c_next l E (va_up (va_up σ 0 (rdG q c (tkV g n (nB g n e)) (nmD g n e) G)) 6 (rdT g n (e2N g n e) (σ 6))) τ (nx g n (e2N g n e)) g n hn (Eq.trans (Eq.trans (va_up_ne _ (j := 5) (k := 6) _ (by decide)) (va_up_ne _ (j := 5) (k := 0) _ (by decide))) hg) (Eq.trans (congrFun (va_up_self _ _ _) _) ht) (nx_le hn2) (congrFun (va_up_self _ _ _) _)) kv_X5_27 (x_recv C (Nat.le_of_ble_eq_true rfl) xd_57 rfl) ⟨Nat.le_of_ble_eq_true rfl, Nat.le_of_ble_eq_true rfl⟩ rfl rfl (Nat.le_of_ble_eq_true rfl) dX5_readDeed_95 ?_
              refine WM.to (σ1 := va_up (va_up σ 0 (rdG q c (tkV g n (nB g n e)) (nmD g n e) G)) 6 (rdT g n (nx g n (e2N g n e)) (σ 6))) ?_ (rdT_rdT _ _ _ _ _ _) rfl rfl rfl
              refine x_iconst C (v := 1) dX5_readDeed_98 (by decide) ?_
              exact x_zret C (by rfl) (Eq.symm (if_pos hd)) (by rw [if_pos hd, aft_ok hd]) rfl dX5_readDeed_99
            · refine x_iconst C (v := 0) dX5_readDeed_71 (by decide) ?_
              exact x_zret C (by rfl) (Eq.symm (if_neg (fun z => ((fun z => h11 (by have z2 := z.2; rw [ek, nI_clamp (by omega)] at z2; exact z2)) : ¬ okN g n e) z.2))) (by rw [if_neg (fun z : okD g n e => ((fun z => h11 (by have z2 := z.2; rw [ek, nI_clamp (by omega)] at z2; exact z2)) : ¬ okN g n e) z.2), aft_n hw (fun z => h11 (by have z2 := z.2; rw [ek, nI_clamp (by omega)] at z2; exact z2))]) rfl dX5_readDeed_72
        · refine x_iconst C (v := 1) dX5_readDeed_38 (by decide) ?_
          refine x_goto2 C (tgt := 43) dX5_readDeed_39 (by decide) ?_
          refine x_istore_n C (lv1 := [(3, .int (1)), (2, .int (tkV g n (nB g n e))), (0, .ref (xad E (57))), (1, .ref (xad E (sc 0 + 9 + 3 * q)))]) dX5_readDeed_43 rfl (by decide) rfl ?_
          refine x_iload_n C 0 dX5_readDeed_44 rfl rfl ?_
          refine x_if_eq C (tgt := 52) dX5_readDeed_45 (by decide) (fun h13 => absurd h13 (by decide)) (fun h13 => ?_)
          refine x_aload_n C 2 dX5_readDeed_48 rfl rfl ?_
          refine x_callVv C (As := []) (rest := []) (c_next l E (va_up (va_up σ 0 G) 6 (rdT g n (nx g n e) (σ 6))) τ (nx g n (nx g n e)) g n hn (Eq.trans (Eq.trans (va_up_ne _ (j := 5) (k := 6) _ (by decide)) (va_up_ne _ (j := 5) (k := 0) _ (by decide))) hg) (Eq.trans (congrFun (va_up_self _ _ _) _) ht) (nx_le hn1) (congrFun (va_up_self _ _ _) _)) kv_X5_27 (x_recv C (Nat.le_of_ble_eq_true rfl) xd_57 rfl) ⟨Nat.le_of_ble_eq_true rfl, Nat.le_of_ble_eq_true rfl⟩ rfl rfl (Nat.le_of_ble_eq_true rfl) dX5_readDeed_49 ?_
          refine WM.to (σ1 := va_up (va_up σ 0 G) 6 (rdT g n (nx g n (nx g n e)) (σ 6))) ?_ (rdT_rdT _ _ _ _ _ _) rfl rfl rfl
          refine WM.to (σ1 := va_up (va_up σ 0 G) 6 (rdT g n (e2N g n e) (σ 6))) ?_ (by rw [show e2N g n e = _ from if_pos ⟨h3, h8⟩]) rfl rfl rfl
          refine x_aload_n C 2 dX5_readDeed_52 rfl rfl ?_
          refine x_get C (Nat.le_of_ble_eq_true rfl) xd_57 fl_X5_45 (q := (1, 6, 2)) (v := .int (tkT g n (nB g n (e2N g n e)))) rfl (congrArg Value.int (congrFun (va_up_self _ _ _) _)) dX5_readDeed_53 ?_
          refine x_iconst C (v := 1) dX5_readDeed_56 (by decide) ?_
          refine x_icmp_ne C (tgt := 71) dX5_readDeed_57 (by decide) (fun h14 => ?_) (fun h14 => ?_)
          · refine x_iconst C (v := 0) dX5_readDeed_71 (by decide) ?_
            exact x_zret C (by rfl) (Eq.symm (if_neg (fun z => ((fun z => h14 z.1) : ¬ okN g n e) z.2))) (by rw [if_neg (fun z : okD g n e => ((fun z => h14 z.1) : ¬ okN g n e) z.2), aft_n hw (fun z => h14 z.1)]) rfl dX5_readDeed_72
          · refine x_iload_n C 1 dX5_readDeed_60 rfl rfl ?_
            refine WM.to (st1 := [.int (nI k)]) ?_ rfl rfl rfl (congrArg (fun z => [Value.int z]) ek)
            refine x_aload_n C 2 dX5_readDeed_61 rfl rfl ?_
            refine x_get C (Nat.le_of_ble_eq_true rfl) xd_57 fl_X5_42 (q := (1, 6, 5)) (v := .int (tkV g n (nB g n (e2N g n e)))) rfl (congrArg Value.int (congrFun (va_up_self _ _ _) _)) dX5_readDeed_62 ?_
            refine x_callSi C (As := [.int (nI k), .int (tkV g n (nB g n (e2N g n e)))]) (rest := []) (c_takes l E (va_up (va_up σ 0 G) 6 (rdT g n (e2N g n e) (σ 6))) τ k hk (tkV g n (nB g n (e2N g n e)))) ks_X5_48 ⟨Nat.le_of_ble_eq_true rfl, Nat.le_of_ble_eq_true rfl⟩ rfl rfl (Nat.le_of_ble_eq_true rfl) dX5_readDeed_65 ?_
            refine x_ifneB C (tgt := 73) dX5_readDeed_68 (by decide) (fun h15 => ?_) (fun h15 => ?_)
            · have hd : okD g n e := ⟨hw, h14, by rw [ek, nI_clamp (by omega)]; exact h15⟩
              refine x_aload_n C 3 dX5_readDeed_73 rfl rfl ?_
              refine x_iload_n C 1 dX5_readDeed_74 rfl rfl ?_
              refine x_iload_n C 0 dX5_readDeed_75 rfl rfl ?_
              refine x_if_eq C (tgt := 87) dX5_readDeed_76 (by decide) (fun h16 => absurd h16 (by decide)) (fun h16 => ?_)
              refine x_aload_n C 2 dX5_readDeed_79 rfl rfl ?_
              refine x_get C (Nat.le_of_ble_eq_true rfl) xd_57 fl_X5_42 (q := (1, 6, 5)) (v := .int (tkV g n (nB g n (e2N g n e)))) rfl (congrArg Value.int (congrFun (va_up_self _ _ _) _)) dX5_readDeed_80 ?_
              refine x_ineg C dX5_readDeed_83 ?_
              refine x_goto2 C (tgt := 91) dX5_readDeed_84 (by decide) ?_
              refine WM.topi (y := nmD g n e) (Eq.symm (if_pos ⟨h3, h8⟩)) ?_
              refine WM.to (σ1 := va_up (va_up σ 6 (rdT g n (e2N g n e) (σ 6))) 0 G) ?_ (xswap (by decide)) rfl rfl rfl
              refine x_callVv C (As := [.int (tkV g n (nB g n e)), .int (nmD g n e)]) (rest := []) (c_add l E (va_up σ 6 (rdT g n (e2N g n e) (σ 6))) τ 0 q c (by decide) (by omega) G hc (by omega) (tkV g n (nB g n e)) (nmD g n e)) kv_X5_52 (x_recv C (by have := sc_lt hk0; omega) (sp_0 hk0 (show q < 6 by omega)) rfl) ⟨Nat.le_of_ble_eq_true rfl, Nat.le_of_ble_eq_true rfl⟩ rfl rfl (Nat.le_of_ble_eq_true rfl) dX5_readDeed_91 ?_
              refine x_aload_n C 2 dX5_readDeed_94 rfl rfl ?_
              refine WM.to (σ1 := va_up (va_up σ 0 (rdG q c (tkV g n (nB g n e)) (nmD g n e) G)) 6 (rdT g n (e2N g n e) (σ 6))) ?_ (xswap (by decide)) rfl rfl rfl
              refine x_callVv C (As := []) (rest := []) (c_next l E (va_up (va_up σ 0 (rdG q c (tkV g n (nB g n e)) (nmD g n e) G)) 6 (rdT g n (e2N g n e) (σ 6))) τ (nx g n (e2N g n e)) g n hn (Eq.trans (Eq.trans (va_up_ne _ (j := 5) (k := 6) _ (by decide)) (va_up_ne _ (j := 5) (k := 0) _ (by decide))) hg) (Eq.trans (congrFun (va_up_self _ _ _) _) ht) (nx_le hn2) (congrFun (va_up_self _ _ _) _)) kv_X5_27 (x_recv C (Nat.le_of_ble_eq_true rfl) xd_57 rfl) ⟨Nat.le_of_ble_eq_true rfl, Nat.le_of_ble_eq_true rfl⟩ rfl rfl (Nat.le_of_ble_eq_true rfl) dX5_readDeed_95 ?_
              refine WM.to (σ1 := va_up (va_up σ 0 (rdG q c (tkV g n (nB g n e)) (nmD g n e) G)) 6 (rdT g n (nx g n (e2N g n e)) (σ 6))) ?_ (rdT_rdT _ _ _ _ _ _) rfl rfl rfl
              refine x_iconst C (v := 1) dX5_readDeed_98 (by decide) ?_
              exact x_zret C (by rfl) (Eq.symm (if_pos hd)) (by rw [if_pos hd, aft_ok hd]) rfl dX5_readDeed_99
            · refine x_iconst C (v := 0) dX5_readDeed_71 (by decide) ?_
              exact x_zret C (by rfl) (Eq.symm (if_neg (fun z => ((fun z => h15 (by have z2 := z.2; rw [ek, nI_clamp (by omega)] at z2; exact z2)) : ¬ okN g n e) z.2))) (by rw [if_neg (fun z : okD g n e => ((fun z => h15 (by have z2 := z.2; rw [ek, nI_clamp (by omega)] at z2; exact z2)) : ¬ okN g n e) z.2), aft_n hw (fun z => h15 (by have z2 := z.2; rw [ek, nI_clamp (by omega)] at z2; exact z2))]) rfl dX5_readDeed_72
    · refine x_iconst C (v := 0) dX5_readDeed_17 (by decide) ?_
      exact x_zret C (by rfl) (Eq.symm (if_neg (fun z => z.1.2 h2))) (by rw [if_neg (fun z => z.1.2 h2), aft_w (fun z => z.2 h2)]) rfl dX5_readDeed_18
set_option maxHeartbeats 4000000 in
set_option maxRecDepth 100000 in
theorem c_read (l : Launch) (E : xE) (σ : Nat → Nat → Int32) (τ : Nat → Int64) (q : Nat) (hq6 : q < 6) (g : Nat → Int32) (n : Nat) (hn : n ≤ 100) (hg : σ 5 = g) (ht : σ 6 1 = nI n) : xMi l yX5_read cX5_read 3 .int 8 173 E [.ref (xad E (57)), .ref (xad E (sc 0 + 9 + 3 * q))] (σ) (τ) ((rdP g n q 12 0 0 (upd (σ 0) (134 + 25 * q) 0)).1) (va_up (va_up σ 0 (rdP g n q 12 0 0 (upd (σ 0) (134 + 25 * q) 0)).2.2) 6 (rdT g n ((rdP g n q 12 0 0 (upd (σ 0) (134 + 25 * q) 0)).2.1) (σ 6))) (τ) := by
  refine xMi_of (own := RX5) (by decide +kernel) rfl (Nat.le_of_ble_eq_true rfl) ?_
  intro zp ze zs zm za zb zh zc C
  refine WM.to (lv1 := [(0, .ref (xad E (57))), (1, .ref (xad E (sc 0 + 9 + 3 * q)))]) (st1 := []) (σ1 := σ) (τ1 := τ) ?_ rfl rfl rfl rfl
  have hk0 : 0 < 2 := by decide
  have h0 : (upd (σ 0) (134 + 25 * q) 0) (134 + 25 * q) = nI 0 := upd_at _ _ _
  refine x_aload_n C 0 dX5_read_0 rfl rfl ?_
  refine x_iconst C (v := 0) dX5_read_1 (by decide) ?_
  refine x_put C (σ' := u2 σ 6 4 (0)) (Nat.le_of_ble_eq_true rfl) xd_57 fp_X5_18 rfl rfl rfl rfl dX5_read_2 ?_
  refine x_aload_n C 1 dX5_read_5 rfl rfl ?_
  refine x_iconst C (v := 0) dX5_read_6 (by decide) ?_
  refine x_put C (σ' := u2 (u2 σ 6 4 (0)) 0 (134 + 25 * q) (0)) (by have := sc_lt hk0; omega) (sp_0 hk0 (show q < 6 by omega)) fp_X5_22 rfl rfl rfl rfl dX5_read_7 ?_
  refine x_aload_n C 0 dX5_read_10 rfl rfl ?_
  refine x_callVv C (As := []) (rest := []) (c_next l E (u2 (u2 σ 6 4 (0)) 0 (134 + 25 * q) (0)) τ (0) g n hn (Eq.trans (Eq.trans (u2_bk_ne _ (c := 5) (b := 0) _ _ (by decide)) (u2_bk_ne _ (c := 5) (b := 6) _ _ (by decide))) hg) (Eq.trans (Eq.trans (u2_ne (b := 0) (i := 134 + 25 * q) (c := 6) (j := 1) (by omega)) (u2_ne (b := 6) (i := 4) (c := 6) (j := 1) (by decide))) ht) (by omega) (Eq.trans (u2_ne (b := 0) (i := 134 + 25 * q) (c := 6) (j := 4) (by omega)) (u2_at _ _ _ _))) kv_X5_27 (x_recv C (Nat.le_of_ble_eq_true rfl) xd_57 rfl) ⟨Nat.le_of_ble_eq_true rfl, Nat.le_of_ble_eq_true rfl⟩ rfl rfl (Nat.le_of_ble_eq_true rfl) dX5_read_11 ?_
  refine x_iconst C (v := 0) dX5_read_14 (by decide) ?_
  refine x_istore_n C (lv1 := [(2, .int (0)), (0, .ref (xad E (57))), (1, .ref (xad E (sc 0 + 9 + 3 * q)))]) dX5_read_15 rfl (by decide) rfl ?_
  have loop : ∀ (j k : Nat), j + k = 12 → rdH g n q (upd (σ 0) (134 + 25 * q) 0) k → WM zp l ze { frames := 8, cells := 0, slots := 0, locals := 173 } zs zm za zb zh zc 0 0 (MQ zb (va_Qi (fun r (_ : Unit) => r = ((rdP g n q 12 0 0 (upd (σ 0) (134 + 25 * q) 0)).1)) (fun _ t => xP E (va_up (va_up σ 0 (rdP g n q 12 0 0 (upd (σ 0) (134 + 25 * q) 0)).2.2) 6 (rdT g n ((rdP g n q 12 0 0 (upd (σ 0) (134 + 25 * q) 0)).2.1) (σ 6))) (τ) t.heap) (xA E)) za zs 0 0 (xA E)) E (xA E) 3 (va_up (va_up σ 0 (GK g n q (upd (σ 0) (134 + 25 * q) 0) k)) 6 (rdT g n (eK g n k) (σ 6))) (τ) 16 [(0, .ref (xad E (57))), (1, .ref (xad E (sc 0 + 9 + 3 * q))), (2, .int (nI k))] [] := by
    intro j
    induction j with
    | zero =>
      intro k hk hnf
      refine x_iload_n C 2 dX5_read_16 rfl rfl ?_
      refine x_bipush C (v := 12) dX5_read_17 (by decide) ?_
      refine x_icmp_ge C (tgt := 75) dX5_read_19 (by decide) (fun h1 => ?_) (fun h1 => absurd h1 (nI_nlt (a := k) (b := 12) (by omega) (by omega)))
      refine x_aload_n C 0 dX5_read_75 rfl rfl ?_
      refine x_get C (Nat.le_of_ble_eq_true rfl) xd_57 fl_X5_34 (q := (1, 6, 3)) (v := .int (nI (nB g n (eK g n k)))) rfl (congrArg Value.int (congrFun (va_up_self _ _ _) _)) dX5_read_76 ?_
      exact x_iret C (by rw [rd_12 (by omega) hnf]) (by rw [rd_12 (by omega) hnf]) rfl dX5_read_79
    | succ j ih =>
      intro k hk hnf
      refine x_iload_n C 2 dX5_read_16 rfl rfl ?_
      refine x_bipush C (v := 12) dX5_read_17 (by decide) ?_
      refine x_icmp_ge C (tgt := 75) dX5_read_19 (by decide) (fun h2 => absurd (nI_lt (a := k) (b := 12) (by omega) (by omega)) h2) (fun h2 => ?_)
      refine x_aload_n C 0 dX5_read_22 rfl rfl ?_
      refine x_aload_n C 1 dX5_read_23 rfl rfl ?_
      refine x_callVi C (As := [.ref (xad E (sc 0 + 9 + 3 * q))]) (rest := []) (c_readDeed l E σ τ q k (eK g n k) hq6 (GK g n q (upd (σ 0) (134 + 25 * q) 0) k) g n hn hg ht (eK_le g n k) (GK_c h0 k) (by omega)) kv_X5_30 (x_recv C (Nat.le_of_ble_eq_true rfl) xd_57 rfl) ⟨Nat.le_of_ble_eq_true rfl, Nat.le_of_ble_eq_true rfl⟩ rfl rfl (Nat.le_of_ble_eq_true rfl) dX5_read_24 ?_
      refine x_ifneB C (tgt := 35) dX5_read_27 (by decide) (fun h3 => ?_) (fun h3 => ?_)
      · refine WM.to (σ1 := va_up (va_up σ 0 (GK g n q (upd (σ 0) (134 + 25 * q) 0) (k + 1))) 6 (rdT g n (aft g n (eK g n k)) (σ 6))) ?_ (by rw [if_pos h3]; rfl) rfl rfl rfl
        have hal : aft g n (eK g n k) ≤ n := aft_le (eK_le g n k)
        have hbl := (nB_le (g := g) hal).2
        refine x_aload_n C 0 dX5_read_35 rfl rfl ?_
        refine x_get C (Nat.le_of_ble_eq_true rfl) xd_57 fl_X5_34 (q := (1, 6, 3)) (v := .int (nI (nB g n (aft g n (eK g n k))))) rfl (congrArg Value.int (congrFun (va_up_self _ _ _) _)) dX5_read_36 ?_
        refine x_aload_n C 0 dX5_read_39 rfl rfl ?_
        refine x_get C (Nat.le_of_ble_eq_true rfl) xd_57 fl_X5_12 (q := (0, 55, 0)) (v := .ref (xad E (55))) rfl rfl dX5_read_40 ?_
        refine x_get C (Nat.le_of_ble_eq_true rfl) xd_55 fl_X5_37 (q := (1, 6, 1)) (v := .int (nI n)) rfl (congrArg Value.int (Eq.trans (congrFun (va_up_self _ _ _) _) ht)) dX5_read_43 ?_
        refine x_icmp_ne C (tgt := 51) dX5_read_46 (by decide) (fun h4 => ?_) (fun h4 => ?_)
        · refine x_aload_n C 0 dX5_read_51 rfl rfl ?_
          refine x_bipush C (v := 59) dX5_read_52 (by decide) ?_
          refine x_callVi C (As := [.int (59)]) (rest := []) (c_isSign l E (va_up (va_up σ 0 (GK g n q (upd (σ 0) (134 + 25 * q) 0) (k + 1))) 6 (rdT g n (aft g n (eK g n k)) (σ 6))) τ 59) kv_X5_38 (x_recv C (Nat.le_of_ble_eq_true rfl) xd_57 rfl) ⟨Nat.le_of_ble_eq_true rfl, Nat.le_of_ble_eq_true rfl⟩ rfl rfl (Nat.le_of_ble_eq_true rfl) dX5_read_54 ?_
          refine WM.topi (y := if tkT g n (nB g n (aft g n (eK g n k))) = 2 ∧ tkV g n (nB g n (aft g n (eK g n k))) = 59 then 1 else 0) (by rw [show (va_up (va_up σ 0 (GK g n q (upd (σ 0) (134 + 25 * q) 0) (k + 1))) 6 (rdT g n (aft g n (eK g n k)) (σ 6))) 6 2 = tkT g n (nB g n (aft g n (eK g n k))) from (congrFun (va_up_self _ _ _) _), show (va_up (va_up σ 0 (GK g n q (upd (σ 0) (134 + 25 * q) 0) (k + 1))) 6 (rdT g n (aft g n (eK g n k)) (σ 6))) 6 5 = tkV g n (nB g n (aft g n (eK g n k))) from (congrFun (va_up_self _ _ _) _)]) ?_
          refine x_ifneB C (tgt := 65) dX5_read_57 (by decide) (fun h5 => ?_) (fun h5 => ?_)
          · refine x_aload_n C 0 dX5_read_65 rfl rfl ?_
            refine x_callVv C (As := []) (rest := []) (c_next l E (va_up (va_up σ 0 (GK g n q (upd (σ 0) (134 + 25 * q) 0) (k + 1))) 6 (rdT g n (aft g n (eK g n k)) (σ 6))) τ (nx g n (aft g n (eK g n k))) g n hn (Eq.trans (Eq.trans (va_up_ne _ (j := 5) (k := 6) _ (by decide)) (va_up_ne _ (j := 5) (k := 0) _ (by decide))) hg) (Eq.trans (congrFun (va_up_self _ _ _) _) ht) (nx_le hal) (congrFun (va_up_self _ _ _) _)) kv_X5_27 (x_recv C (Nat.le_of_ble_eq_true rfl) xd_57 rfl) ⟨Nat.le_of_ble_eq_true rfl, Nat.le_of_ble_eq_true rfl⟩ rfl rfl (Nat.le_of_ble_eq_true rfl) dX5_read_66 ?_
            refine WM.to (σ1 := va_up (va_up σ 0 (GK g n q (upd (σ 0) (134 + 25 * q) 0) (k + 1))) 6 (rdT g n (nx g n (aft g n (eK g n k))) (σ 6))) ?_ (rdT_rdT _ _ _ _ _ _) rfl rfl rfl
            refine x_iinc C (v := nI (k + 1)) (lv1 := [(2, .int (nI (k + 1))), (0, .ref (xad E (57))), (1, .ref (xad E (sc 0 + 9 + 3 * q)))]) 2 dX5_read_69 rfl (nI_add k 1) (by decide) rfl ?_
            refine x_goto2 C (tgt := 16) dX5_read_72 (by decide) ?_
            refine WM.keep [1, 2, 0] (lv' := [(0, .ref (xad E (57))), (1, .ref (xad E (sc 0 + 9 + 3 * q))), (2, .int (nI (k + 1)))]) rfl ?_
            exact WM.to (ih (k + 1) (by omega) (rdH_s (by omega) hnf h3 (fun z => h4 (congrArg nI z)) h5)) rfl rfl rfl rfl
          · refine x_aload_n C 0 dX5_read_60 rfl rfl ?_
            refine x_get C (Nat.le_of_ble_eq_true rfl) xd_57 fl_X5_34 (q := (1, 6, 3)) (v := .int (nI (nB g n (aft g n (eK g n k))))) rfl (congrArg Value.int (congrFun (va_up_self _ _ _) _)) dX5_read_61 ?_
            exact x_iret C (by rw [rd_sg (by omega) hnf h3 (fun z => h4 (congrArg nI z)) h5]) (by rw [rd_sg (by omega) hnf h3 (fun z => h4 (congrArg nI z)) h5]) rfl dX5_read_64
        · refine x_iconst C (v := -1) dX5_read_49 (by decide) ?_
          exact x_iret C (by rw [rd_end (by omega) hnf h3 ((nI_eq (by omega) (by omega)).mp h4)]) (by rw [rd_end (by omega) hnf h3 ((nI_eq (by omega) (by omega)).mp h4)]) rfl dX5_read_50
      · refine x_aload_n C 0 dX5_read_30 rfl rfl ?_
        refine x_get C (Nat.le_of_ble_eq_true rfl) xd_57 fl_X5_34 (q := (1, 6, 3)) (v := .int (nI (nB g n (aft g n (eK g n k))))) rfl (congrArg Value.int (congrFun (va_up_self _ _ _) _)) dX5_read_31 ?_
        exact x_iret C (by rw [rd_no (by omega) hnf h3]) (by rw [rd_no (by omega) hnf h3, if_neg h3]) rfl dX5_read_34
  refine WM.keep [1, 2, 0] rfl ?_
  exact WM.to (loop (12) 0 (by omega) rfl) (rd0_n _ _ _ _) rfl rfl rfl
