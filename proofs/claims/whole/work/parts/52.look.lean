/-! the reference's tokens -/
def hsT (f : Nat → Int32) : Nat → Int64
  | 0 => 0
  | k + 1 => if k < 8 then 32 * hsT f k + Int32.toInt64 (f k) - 97 + 1 else -1
def rnN (g : Nat → Int32) (b : Nat) : Nat → Nat
  | 0 => 0
  | k + 1 => if 999 < rnN g b k then 1000 else 10 * rnN g b k + dig (g (b + k))
theorem rn_cn {g : Nat → Int32} {b : Nat} : ∀ k, (∀ i, i < k → isDg (g (b + i))) → (cnN g b k ≤ 999 ∧ rnN g b k = cnN g b k) ∨ (cnN g b k = 1000 ∧ 1000 ≤ rnN g b k ∧ rnN g b k ≤ 9999) := by
  intro k
  induction k with
  | zero => intro _; exact Or.inl ⟨Nat.zero_le _, rfl⟩
  | succ k ih =>
    intro h
    have h9 := (dig_of (h k (by omega))).2
    have h1 := ih (fun i hi => h i (by omega))
    show (min (cnN g b k * 10 + dig (g (b + k))) 1000 ≤ 999 ∧ (if 999 < rnN g b k then 1000 else 10 * rnN g b k + dig (g (b + k))) = min (cnN g b k * 10 + dig (g (b + k))) 1000) ∨ (min (cnN g b k * 10 + dig (g (b + k))) 1000 = 1000 ∧ 1000 ≤ (if 999 < rnN g b k then 1000 else 10 * rnN g b k + dig (g (b + k))) ∧ (if 999 < rnN g b k then 1000 else 10 * rnN g b k + dig (g (b + k))) ≤ 9999)
    rcases h1 with ⟨h2, h3⟩ | ⟨h2, h3, h4⟩
    · rw [if_neg (show ¬ 999 < rnN g b k by omega), h3]
      by_cases hm : cnN g b k * 10 + dig (g (b + k)) ≤ 999
      · rw [Nat.min_eq_left (by omega)]; left; omega
      · rw [Nat.min_eq_right (by omega)]; right; omega
    · rw [if_pos (show 999 < rnN g b k by omega), Nat.min_eq_right (by omega)]; right; omega
def lkA (g : Nat → Int32) (n b : Nat) : Nat := if b < n then (if isLt (g b) then spN isLt g n b else if isDg (g b) then spN isDg g n b else b + 1) else b
def lkK (g : Nat → Int32) (n b : Nat) : Int32 := if b < n then (if isLt (g b) then 1 else if isDg (g b) then 2 else if g b = 59 ∨ g b = 45 then 3 else 4) else 0
def lkV (g : Nat → Int32) (n b : Nat) : Int32 := if b < n then (if isLt (g b) then 0 else if isDg (g b) then nI (rnN g b (spN isDg g n b - b)) else g b) else 0
def lkW (g : Nat → Int32) (n b : Nat) : Int64 := if b < n then (if isLt (g b) then hsT (fun i => g (b + i)) (spN isLt g n b - b) else 0) else 0
def lk7 (h : Nat → Int32) (a f t v w : Int32) : Nat → Int32 := fun j => if j = 2 then a else if j = 3 then f else if j = 4 then t else if j = 5 then v else if j = 6 then w else h j
def lkT (g : Nat → Int32) (n e : Nat) (w : Int32) (h : Nat → Int32) : Nat → Int32 := lk7 h (nI (lkA g n (nB g n e))) (nI (nB g n e)) (lkK g n (nB g n e)) (lkV g n (nB g n e)) w
abbrev ltW (g : Nat → Int32) (n e : Nat) : Int64 := lkW g n (nB g n e)
theorem lk7_of {σ : Nat → Nat → Int32} {f : Nat → Int32} {a b t v w : Int32} (h2 : f 2 = a) (h3 : f 3 = b) (h4 : f 4 = t) (h5 : f 5 = v) (h6 : f 6 = w) (h : ∀ j, j ≠ 2 → j ≠ 3 → j ≠ 4 → j ≠ 5 → j ≠ 6 → f j = σ 17 j) : va_up σ 17 f = va_up σ 17 (lk7 (σ 17) a b t v w) := by
  refine congrArg (va_up σ 17) (funext fun j => ?_)
  unfold lk7
  by_cases e2 : j = 2
  · subst e2; rw [if_pos rfl]; exact h2
  rw [if_neg e2]
  by_cases e3 : j = 3
  · subst e3; rw [if_pos rfl]; exact h3
  rw [if_neg e3]
  by_cases e4 : j = 4
  · subst e4; rw [if_pos rfl]; exact h4
  rw [if_neg e4]
  by_cases e5 : j = 5
  · subst e5; rw [if_pos rfl]; exact h5
  rw [if_neg e5]
  by_cases e6 : j = 6
  · subst e6; rw [if_pos rfl]; exact h6
  rw [if_neg e6]
  exact h j e2 e3 e4 e5 e6
theorem u17 (σ : Nat → Nat → Int32) (i : Nat) (x : Int32) : u2 σ 17 i x = va_up σ 17 (upd (σ 17) i x) := rfl
/-- at, from, value, token, in any order: what look leaves -/
theorem lk_of {σ : Nat → Nat → Int32} {g : Nat → Int32} {n e : Nat} {f : Nat → Int32} (h2 : f 2 = nI (lkA g n (nB g n e))) (h3 : f 3 = nI (nB g n e)) (h4 : f 4 = lkK g n (nB g n e)) (h5 : f 5 = lkV g n (nB g n e)) (h : ∀ j, j ≠ 2 → j ≠ 3 → j ≠ 4 → j ≠ 5 → f j = σ 17 j) : va_up σ 17 f = va_up σ 17 (lkT g n e (σ 17 6) (σ 17)) := lk7_of h2 h3 h4 h5 (h 6 (by decide) (by decide) (by decide) (by decide)) (fun j a b c d _ => h j a b c d)
theorem lkU (τ : Nat → Int64) (k : Nat) (x y : Int64) : va_up (va_up τ k x) k y = va_up τ k y := by
  funext j
  by_cases h : j = k
  · subst h; rw [va_up_self, va_up_self]
  · rw [va_up_ne _ _ h, va_up_ne _ _ h, va_up_ne _ _ h]
theorem rn_le {g : Nat → Int32} {b k : Nat} (h : ∀ i, i < k → isDg (g (b + i))) : rnN g b k ≤ 9999 := by
  rcases rn_cn k h with h1 | h1 <;> omega
theorem rn_s {v : Nat} {x : Int32} (h : isDg x) (hv : ¬ (999 : Int32) < nI v) (h9 : v ≤ 9999) : nI (10 * v) + x - 48 = nI (if 999 < v then 1000 else 10 * v + dig x) := by
  obtain ⟨e, hd⟩ := dig_of h
  have hv2 : ¬ 999 < v := fun q => hv (nI_lt (a := 999) q (by omega))
  rw [if_neg hv2]
  have e2 : nI (10 * v) + x - 48 = nI (10 * v) + nI (48 + dig x) - nI 48 := by rw [← e]; rfl
  rw [e2, nI_add, pk_sub (by omega)]
  exact congrArg nI (by omega)
theorem rn_t {v : Nat} {x : Int32} (hv : (999 : Int32) < nI v) (h9 : v ≤ 9999) : (1000 : Int32) = nI (if 999 < v then 1000 else 10 * v + dig x) := by
  rw [if_pos ((nI_ltI (a := 999) (b := v) (by omega) (by omega)).mp hv)]
  rfl
theorem lk_E {g : Nat → Int32} {n b : Nat} (h : ¬ b < n) : lkA g n b = b ∧ lkK g n b = 0 ∧ lkV g n b = 0 ∧ lkW g n b = 0 := ⟨if_neg h, if_neg h, if_neg h, if_neg h⟩
theorem lk_L {g : Nat → Int32} {n b : Nat} (h : b < n) (h1 : isLt (g b)) : lkA g n b = spN isLt g n b ∧ lkK g n b = 1 ∧ lkV g n b = 0 ∧ lkW g n b = hsT (fun i => g (b + i)) (spN isLt g n b - b) := by
  unfold lkA lkK lkV lkW
  rw [if_pos h, if_pos h, if_pos h, if_pos h, if_pos h1, if_pos h1, if_pos h1, if_pos h1]
  exact ⟨rfl, rfl, rfl, rfl⟩
theorem lk_D {g : Nat → Int32} {n b : Nat} (h : b < n) (h1 : ¬ isLt (g b)) (h2 : isDg (g b)) : lkA g n b = spN isDg g n b ∧ lkK g n b = 2 ∧ lkV g n b = nI (rnN g b (spN isDg g n b - b)) ∧ lkW g n b = 0 := by
  unfold lkA lkK lkV lkW
  rw [if_pos h, if_pos h, if_pos h, if_pos h, if_neg h1, if_neg h1, if_neg h1, if_neg h1, if_pos h2, if_pos h2, if_pos h2]
  exact ⟨rfl, rfl, rfl, rfl⟩
theorem lk_S {g : Nat → Int32} {n b : Nat} (h : b < n) (h1 : ¬ isLt (g b)) (h2 : ¬ isDg (g b)) (h3 : g b = 59 ∨ g b = 45) : lkA g n b = b + 1 ∧ lkK g n b = 3 ∧ lkV g n b = g b ∧ lkW g n b = 0 := by
  unfold lkA lkK lkV lkW
  rw [if_pos h, if_pos h, if_pos h, if_pos h, if_neg h1, if_neg h1, if_neg h1, if_neg h1, if_neg h2, if_neg h2, if_neg h2, if_pos h3]
  exact ⟨rfl, rfl, rfl, rfl⟩
theorem lk_O {g : Nat → Int32} {n b : Nat} (h : b < n) (h1 : ¬ isLt (g b)) (h2 : ¬ isDg (g b)) (h3 : ¬ (g b = 59 ∨ g b = 45)) : lkA g n b = b + 1 ∧ lkK g n b = 4 ∧ lkV g n b = g b ∧ lkW g n b = 0 := by
  unfold lkA lkK lkV lkW
  rw [if_pos h, if_pos h, if_pos h, if_pos h, if_neg h1, if_neg h1, if_neg h1, if_neg h1, if_neg h2, if_neg h2, if_neg h2, if_neg h3]
  exact ⟨rfl, rfl, rfl, rfl⟩
set_option maxHeartbeats 4000000 in
set_option maxRecDepth 100000 in
theorem cM_isLetter (l : Launch) (E : xE) (σ : Nat → Nat → Int32) (τ : Nat → Int64) (x : Int32) : xMi l yX8_isLetter cX8_isLetter 1 .boolean 0 0 E [.int (x)] (σ) (τ) (if rng x 97 122 then 1 else 0) (σ) (τ) := by
  refine xMi_of (own := RX8) (by decide +kernel) rfl (Nat.le_of_ble_eq_true rfl) ?_
  intro zp ze zs zm za zb zh zc C
  refine WM.to (lv1 := [(0, .int (x))]) (st1 := []) (σ1 := σ) (τ1 := τ) ?_ rfl rfl rfl rfl
  refine x_iload_n C 0 dX8_isLetter_0 rfl rfl ?_
  refine x_bipush C (v := 97) dX8_isLetter_1 (by decide) ?_
  refine x_icmp_lt C (tgt := 16) dX8_isLetter_3 (by decide) (fun h1 => ?_) (fun h1 => ?_)
  · refine x_iconst C (v := 0) dX8_isLetter_16 (by decide) ?_
    exact x_zret C (by rfl) (Eq.symm (if_neg (fun z => (by have z2 := rng_iff.mp z; simp only [tI_lt, tl_97, tl_122] at *; omega)))) rfl rfl dX8_isLetter_17
  · refine x_iload_n C 0 dX8_isLetter_6 rfl rfl ?_
    refine x_bipush C (v := 122) dX8_isLetter_7 (by decide) ?_
    refine x_icmp_gt C (tgt := 16) dX8_isLetter_9 (by decide) (fun h2 => ?_) (fun h2 => ?_)
    · refine x_iconst C (v := 0) dX8_isLetter_16 (by decide) ?_
      exact x_zret C (by rfl) (Eq.symm (if_neg (fun z => (by have z2 := rng_iff.mp z; simp only [tI_lt, tl_97, tl_122] at *; omega)))) rfl rfl dX8_isLetter_17
    · refine x_iconst C (v := 1) dX8_isLetter_12 (by decide) ?_
      refine x_goto2 C (tgt := 17) dX8_isLetter_13 (by decide) ?_
      exact x_zret C (by rfl) (Eq.symm (if_pos (rng_iff.mpr (by simp only [tI_lt, tl_97, tl_122] at *; omega)))) rfl rfl dX8_isLetter_17
set_option maxHeartbeats 4000000 in
set_option maxRecDepth 100000 in
theorem cM_isDigit (l : Launch) (E : xE) (σ : Nat → Nat → Int32) (τ : Nat → Int64) (x : Int32) : xMi l yX8_isDigit cX8_isDigit 1 .boolean 0 0 E [.int (x)] (σ) (τ) (if rng x 48 57 then 1 else 0) (σ) (τ) := by
  refine xMi_of (own := RX8) (by decide +kernel) rfl (Nat.le_of_ble_eq_true rfl) ?_
  intro zp ze zs zm za zb zh zc C
  refine WM.to (lv1 := [(0, .int (x))]) (st1 := []) (σ1 := σ) (τ1 := τ) ?_ rfl rfl rfl rfl
  refine x_iload_n C 0 dX8_isDigit_0 rfl rfl ?_
  refine x_bipush C (v := 48) dX8_isDigit_1 (by decide) ?_
  refine x_icmp_lt C (tgt := 16) dX8_isDigit_3 (by decide) (fun h1 => ?_) (fun h1 => ?_)
  · refine x_iconst C (v := 0) dX8_isDigit_16 (by decide) ?_
    exact x_zret C (by rfl) (Eq.symm (if_neg (fun z => (by have z2 := rng_iff.mp z; simp only [tI_lt, tl_48, tl_57] at *; omega)))) rfl rfl dX8_isDigit_17
  · refine x_iload_n C 0 dX8_isDigit_6 rfl rfl ?_
    refine x_bipush C (v := 57) dX8_isDigit_7 (by decide) ?_
    refine x_icmp_gt C (tgt := 16) dX8_isDigit_9 (by decide) (fun h2 => ?_) (fun h2 => ?_)
    · refine x_iconst C (v := 0) dX8_isDigit_16 (by decide) ?_
      exact x_zret C (by rfl) (Eq.symm (if_neg (fun z => (by have z2 := rng_iff.mp z; simp only [tI_lt, tl_48, tl_57] at *; omega)))) rfl rfl dX8_isDigit_17
    · refine x_iconst C (v := 1) dX8_isDigit_12 (by decide) ?_
      refine x_goto2 C (tgt := 17) dX8_isDigit_13 (by decide) ?_
      exact x_zret C (by rfl) (Eq.symm (if_pos (rng_iff.mpr (by simp only [tI_lt, tl_48, tl_57] at *; omega)))) rfl rfl dX8_isDigit_17
set_option maxHeartbeats 4000000 in
set_option maxRecDepth 100000 in
theorem c_look (l : Launch) (E : xE) (σ : Nat → Nat → Int32) (τ : Nat → Int64) (e : Nat) (g : Nat → Int32) (n : Nat) (hn : n ≤ 100) (hg : σ 16 = g) (ht : σ 17 1 = nI n) (hen : e ≤ n) (he : σ 17 2 = nI e) : xMv l yX8_look cX8_look 2 1 20 E [.ref (xad E (81))] (σ) (τ) (va_up σ 17 (lkT g n e (σ 17 6) (σ 17))) (va_up τ 3 (ltW g n e)) := by
  refine xMv_of (own := RX8) (by decide +kernel) rfl (Nat.le_of_ble_eq_true rfl) ?_
  intro zp ze zs zm za zb zh zc C
  refine WM.to (lv1 := [(0, .ref (xad E (81)))]) (st1 := []) (σ1 := σ) (τ1 := τ) ?_ rfl rfl rfl rfl
  have hB := nB_le (g := g) hen
  have hw : WM zp l ze { frames := 1, cells := 0, slots := 0, locals := 20 } zs zm za zb zh zc 0 0 (MQ zb (va_Qv (fun _ : Unit => True) (fun _ t => xP E (va_up σ 17 (lkT g n e (σ 17 6) (σ 17))) (va_up τ 3 (ltW g n e)) t.heap) (xA E)) za zs 0 0 (xA E)) E (xA E) 2 (u2 σ 17 2 (nI (nB g n e))) (τ) 38 [(0, .ref (xad E (81)))] [] := by
    refine x_aload_n C 0 dX8_look_38 rfl rfl ?_
    refine x_aload_n C 0 dX8_look_39 rfl rfl ?_
    refine x_get C (Nat.le_of_ble_eq_true rfl) xd_81 fl_X8_133 (q := (1, 17, 2)) (v := .int (nI (nB g n e))) rfl (congrArg Value.int (Eq.trans (u2_at _ _ _ _) rfl)) dX8_look_40 ?_
    refine x_put C (σ' := u2 (u2 σ 17 2 (nI (nB g n e))) 17 3 (nI (nB g n e))) (Nat.le_of_ble_eq_true rfl) xd_81 fp_X8_136 rfl rfl rfl rfl dX8_look_43 ?_
    refine x_aload_n C 0 dX8_look_46 rfl rfl ?_
    refine x_lconst C (v := 0) dX8_look_47 (by decide) ?_
    refine x_putL C (τ' := va_up (τ) 3 (0)) (Nat.le_of_ble_eq_true rfl) xd_81 fp_X8_139 rfl rfl dX8_look_48 ?_
    refine x_aload_n C 0 dX8_look_51 rfl rfl ?_
    refine x_iconst C (v := 0) dX8_look_52 (by decide) ?_
    refine x_put C (σ' := u2 (u2 (u2 σ 17 2 (nI (nB g n e))) 17 3 (nI (nB g n e))) 17 5 (0)) (Nat.le_of_ble_eq_true rfl) xd_81 fp_X8_143 rfl rfl rfl rfl dX8_look_53 ?_
    refine x_aload_n C 0 dX8_look_56 rfl rfl ?_
    refine x_get C (Nat.le_of_ble_eq_true rfl) xd_81 fl_X8_133 (q := (1, 17, 2)) (v := .int (nI (nB g n e))) rfl (congrArg Value.int (Eq.trans (Eq.trans (u2_ne (b := 17) (i := 5) (c := 17) (j := 2) (by decide)) (Eq.trans (u2_ne (b := 17) (i := 3) (c := 17) (j := 2) (by decide)) (u2_at _ _ _ _))) rfl)) dX8_look_57 ?_
    refine x_aload_n C 0 dX8_look_60 rfl rfl ?_
    refine x_get C (Nat.le_of_ble_eq_true rfl) xd_81 fl_X8_129 (q := (1, 17, 1)) (v := .int (nI n)) rfl (congrArg Value.int (Eq.trans (Eq.trans (u2_ne (b := 17) (i := 5) (c := 17) (j := 1) (by decide)) (Eq.trans (u2_ne (b := 17) (i := 3) (c := 17) (j := 1) (by decide)) (u2_ne (b := 17) (i := 2) (c := 17) (j := 1) (by decide)))) ht)) dX8_look_61 ?_
    refine x_icmp_ne C (tgt := 73) dX8_look_64 (by decide) (fun h1 => ?_) (fun h1 => ?_)
    · have hlt : nB g n e < n := by have hne : ¬ nB g n e = n := fun z => h1 (congrArg nI z); omega
      refine x_aload_n C 0 dX8_look_73 rfl rfl ?_
      refine x_get C (Nat.le_of_ble_eq_true rfl) xd_81 fl_X8_28 (q := (0, 88, 0)) (v := .ref (xad E (88))) rfl rfl dX8_look_74 ?_
      refine x_aload_n C 0 dX8_look_77 rfl rfl ?_
      refine x_get C (Nat.le_of_ble_eq_true rfl) xd_81 fl_X8_133 (q := (1, 17, 2)) (v := .int (nI (nB g n e))) rfl (congrArg Value.int (Eq.trans (Eq.trans (u2_ne (b := 17) (i := 5) (c := 17) (j := 2) (by decide)) (Eq.trans (u2_ne (b := 17) (i := 3) (c := 17) (j := 2) (by decide)) (u2_at _ _ _ _))) rfl)) dX8_look_78 ?_
      refine x_ald C (Nat.le_of_ble_eq_true rfl) xd_88 (v := g (nB g n e)) (vp_in_nI (show nB g n e < 100 by omega) (by decide)) (by rw [nI_clamp (by omega), Nat.zero_add, Nat.one_mul]; exact congrFun (Eq.trans (Eq.trans (u2_bk_ne _ (c := 16) (b := 17) _ _ (by decide)) (Eq.trans (u2_bk_ne _ (c := 16) (b := 17) _ _ (by decide)) (u2_bk_ne _ (c := 16) (b := 17) _ _ (by decide)))) hg) _) dX8_look_81 ?_
      refine x_istore_n C (lv1 := [(1, .int (g (nB g n e))), (0, .ref (xad E (81)))]) dX8_look_82 rfl (by decide) rfl ?_
      refine x_aload_n C 1 dX8_look_83 rfl rfl ?_
      refine x_iload_n C 0 dX8_look_84 rfl rfl ?_
      refine x_callSi C (As := [.int (g (nB g n e))]) (rest := [.ref (xad E (81))]) (cM_isLetter l E (u2 (u2 (u2 σ 17 2 (nI (nB g n e))) 17 3 (nI (nB g n e))) 17 5 (0)) (va_up (τ) 3 (0)) (g (nB g n e))) ks_X8_149 ⟨Nat.le_of_ble_eq_true rfl, Nat.le_of_ble_eq_true rfl⟩ rfl rfl (Nat.le_of_ble_eq_true rfl) dX8_look_85 ?_
      refine x_ifeqB C (tgt := 95) dX8_look_88 (by decide) (fun h2 => ?_) (fun h2 => ?_)
      · refine x_iload_n C 0 dX8_look_95 rfl rfl ?_
        refine x_callSi C (As := [.int (g (nB g n e))]) (rest := [.ref (xad E (81))]) (cM_isDigit l E (u2 (u2 (u2 σ 17 2 (nI (nB g n e))) 17 3 (nI (nB g n e))) 17 5 (0)) (va_up (τ) 3 (0)) (g (nB g n e))) ks_X8_152 ⟨Nat.le_of_ble_eq_true rfl, Nat.le_of_ble_eq_true rfl⟩ rfl rfl (Nat.le_of_ble_eq_true rfl) dX8_look_96 ?_
        refine x_ifeqB C (tgt := 106) dX8_look_99 (by decide) (fun h3 => ?_) (fun h3 => ?_)
        · refine x_iload_n C 0 dX8_look_106 rfl rfl ?_
          refine x_bipush C (v := 59) dX8_look_107 (by decide) ?_
          refine x_icmp_eq C (tgt := 118) dX8_look_109 (by decide) (fun h4 => ?_) (fun h4 => ?_)
          · refine x_iconst C (v := 3) dX8_look_118 (by decide) ?_
            refine x_goto2 C (tgt := 123) dX8_look_119 (by decide) ?_
            refine x_put C (σ' := u2 (u2 (u2 (u2 σ 17 2 (nI (nB g n e))) 17 3 (nI (nB g n e))) 17 5 (0)) 17 4 (3)) (Nat.le_of_ble_eq_true rfl) xd_81 fp_X8_146 rfl rfl rfl rfl dX8_look_123 ?_
            refine x_aload_n C 1 dX8_look_126 rfl rfl ?_
            refine x_get C (Nat.le_of_ble_eq_true rfl) xd_81 fl_X8_146 (q := (1, 17, 4)) (v := .int (3)) rfl (congrArg Value.int (u2_at _ _ _ _)) dX8_look_127 ?_
            refine x_iconst C (v := 2) dX8_look_130 (by decide) ?_
            refine x_icmp_le C (tgt := 149) dX8_look_131 (by decide) (fun h5 => absurd h5 (by decide)) (fun h5 => ?_)
            refine x_aload_n C 1 dX8_look_134 rfl rfl ?_
            refine x_iload_n C 0 dX8_look_135 rfl rfl ?_
            refine x_put C (σ' := u2 (u2 (u2 (u2 (u2 σ 17 2 (nI (nB g n e))) 17 3 (nI (nB g n e))) 17 5 (0)) 17 4 (3)) 17 5 (g (nB g n e))) (Nat.le_of_ble_eq_true rfl) xd_81 fp_X8_143 rfl rfl rfl rfl dX8_look_136 ?_
            refine x_aload_n C 1 dX8_look_139 rfl rfl ?_
            refine x_dup C dX8_look_140 rfl ?_
            refine x_get C (Nat.le_of_ble_eq_true rfl) xd_81 fl_X8_133 (q := (1, 17, 2)) (v := .int (nI (nB g n e))) rfl (congrArg Value.int (Eq.trans (Eq.trans (u2_ne (b := 17) (i := 5) (c := 17) (j := 2) (by decide)) (Eq.trans (u2_ne (b := 17) (i := 4) (c := 17) (j := 2) (by decide)) (Eq.trans (u2_ne (b := 17) (i := 5) (c := 17) (j := 2) (by decide)) (Eq.trans (u2_ne (b := 17) (i := 3) (c := 17) (j := 2) (by decide)) (u2_at _ _ _ _))))) rfl)) dX8_look_141 ?_
            refine x_iconst C (v := 1) dX8_look_144 (by decide) ?_
            refine x_iadd C dX8_look_145 ?_
            refine WM.topi (y := nI (nB g n e + 1)) (nI_add (nB g n e) 1) ?_
            refine x_put C (σ' := u2 (u2 (u2 (u2 (u2 (u2 σ 17 2 (nI (nB g n e))) 17 3 (nI (nB g n e))) 17 5 (0)) 17 4 (3)) 17 5 (g (nB g n e))) 17 2 (nI (nB g n e + 1))) (Nat.le_of_ble_eq_true rfl) xd_81 fp_X8_133 rfl rfl rfl rfl dX8_look_146 ?_
            refine x_aload_n C 1 dX8_look_149 rfl rfl ?_
            refine x_get C (Nat.le_of_ble_eq_true rfl) xd_81 fl_X8_146 (q := (1, 17, 4)) (v := .int (3)) rfl (congrArg Value.int (Eq.trans (u2_ne (b := 17) (i := 2) (c := 17) (j := 4) (by decide)) (Eq.trans (u2_ne (b := 17) (i := 5) (c := 17) (j := 4) (by decide)) (u2_at _ _ _ _)))) dX8_look_150 ?_
            refine x_iconst C (v := 1) dX8_look_153 (by decide) ?_
            refine x_icmp_ne C (tgt := 245) dX8_look_154 (by decide) (fun h6 => ?_) (fun h6 => absurd h6 (by decide))
            refine x_aload_n C 1 dX8_look_245 rfl rfl ?_
            refine x_get C (Nat.le_of_ble_eq_true rfl) xd_81 fl_X8_146 (q := (1, 17, 4)) (v := .int (3)) rfl (congrArg Value.int (Eq.trans (u2_ne (b := 17) (i := 2) (c := 17) (j := 4) (by decide)) (Eq.trans (u2_ne (b := 17) (i := 5) (c := 17) (j := 4) (by decide)) (u2_at _ _ _ _)))) dX8_look_246 ?_
            refine x_iconst C (v := 2) dX8_look_249 (by decide) ?_
            refine x_icmp_ne C (tgt := 332) dX8_look_250 (by decide) (fun h7 => ?_) (fun h7 => absurd h7 (by decide))
            exact x_vret C (by rw [u17 σ]; (repeat rw [u2_bank]); exact lk_of (by rw [(lk_S hlt h2 h3 (Or.inl h4)).1]; rfl) rfl (by rw [(lk_S hlt h2 h3 (Or.inl h4)).2.1]; rfl) (by rw [(lk_S hlt h2 h3 (Or.inl h4)).2.2.1]; rfl) (fun j a b c d => by simp [upd, a, b, c, d])) (congrArg (va_up τ 3) (Eq.symm (lk_S hlt h2 h3 (Or.inl h4)).2.2.2)) dX8_look_332
          · refine x_iload_n C 0 dX8_look_112 rfl rfl ?_
            refine x_bipush C (v := 45) dX8_look_113 (by decide) ?_
            refine x_icmp_ne C (tgt := 122) dX8_look_115 (by decide) (fun h8 => ?_) (fun h8 => ?_)
            · refine x_iconst C (v := 4) dX8_look_122 (by decide) ?_
              refine x_put C (σ' := u2 (u2 (u2 (u2 σ 17 2 (nI (nB g n e))) 17 3 (nI (nB g n e))) 17 5 (0)) 17 4 (4)) (Nat.le_of_ble_eq_true rfl) xd_81 fp_X8_146 rfl rfl rfl rfl dX8_look_123 ?_
              refine x_aload_n C 1 dX8_look_126 rfl rfl ?_
              refine x_get C (Nat.le_of_ble_eq_true rfl) xd_81 fl_X8_146 (q := (1, 17, 4)) (v := .int (4)) rfl (congrArg Value.int (u2_at _ _ _ _)) dX8_look_127 ?_
              refine x_iconst C (v := 2) dX8_look_130 (by decide) ?_
              refine x_icmp_le C (tgt := 149) dX8_look_131 (by decide) (fun h9 => absurd h9 (by decide)) (fun h9 => ?_)
              refine x_aload_n C 1 dX8_look_134 rfl rfl ?_
              refine x_iload_n C 0 dX8_look_135 rfl rfl ?_
              refine x_put C (σ' := u2 (u2 (u2 (u2 (u2 σ 17 2 (nI (nB g n e))) 17 3 (nI (nB g n e))) 17 5 (0)) 17 4 (4)) 17 5 (g (nB g n e))) (Nat.le_of_ble_eq_true rfl) xd_81 fp_X8_143 rfl rfl rfl rfl dX8_look_136 ?_
              refine x_aload_n C 1 dX8_look_139 rfl rfl ?_
              refine x_dup C dX8_look_140 rfl ?_
              refine x_get C (Nat.le_of_ble_eq_true rfl) xd_81 fl_X8_133 (q := (1, 17, 2)) (v := .int (nI (nB g n e))) rfl (congrArg Value.int (Eq.trans (Eq.trans (u2_ne (b := 17) (i := 5) (c := 17) (j := 2) (by decide)) (Eq.trans (u2_ne (b := 17) (i := 4) (c := 17) (j := 2) (by decide)) (Eq.trans (u2_ne (b := 17) (i := 5) (c := 17) (j := 2) (by decide)) (Eq.trans (u2_ne (b := 17) (i := 3) (c := 17) (j := 2) (by decide)) (u2_at _ _ _ _))))) rfl)) dX8_look_141 ?_
              refine x_iconst C (v := 1) dX8_look_144 (by decide) ?_
              refine x_iadd C dX8_look_145 ?_
              refine WM.topi (y := nI (nB g n e + 1)) (nI_add (nB g n e) 1) ?_
              refine x_put C (σ' := u2 (u2 (u2 (u2 (u2 (u2 σ 17 2 (nI (nB g n e))) 17 3 (nI (nB g n e))) 17 5 (0)) 17 4 (4)) 17 5 (g (nB g n e))) 17 2 (nI (nB g n e + 1))) (Nat.le_of_ble_eq_true rfl) xd_81 fp_X8_133 rfl rfl rfl rfl dX8_look_146 ?_
              refine x_aload_n C 1 dX8_look_149 rfl rfl ?_
              refine x_get C (Nat.le_of_ble_eq_true rfl) xd_81 fl_X8_146 (q := (1, 17, 4)) (v := .int (4)) rfl (congrArg Value.int (Eq.trans (u2_ne (b := 17) (i := 2) (c := 17) (j := 4) (by decide)) (Eq.trans (u2_ne (b := 17) (i := 5) (c := 17) (j := 4) (by decide)) (u2_at _ _ _ _)))) dX8_look_150 ?_
              refine x_iconst C (v := 1) dX8_look_153 (by decide) ?_
              refine x_icmp_ne C (tgt := 245) dX8_look_154 (by decide) (fun h10 => ?_) (fun h10 => absurd h10 (by decide))
              refine x_aload_n C 1 dX8_look_245 rfl rfl ?_
              refine x_get C (Nat.le_of_ble_eq_true rfl) xd_81 fl_X8_146 (q := (1, 17, 4)) (v := .int (4)) rfl (congrArg Value.int (Eq.trans (u2_ne (b := 17) (i := 2) (c := 17) (j := 4) (by decide)) (Eq.trans (u2_ne (b := 17) (i := 5) (c := 17) (j := 4) (by decide)) (u2_at _ _ _ _)))) dX8_look_246 ?_
              refine x_iconst C (v := 2) dX8_look_249 (by decide) ?_
              refine x_icmp_ne C (tgt := 332) dX8_look_250 (by decide) (fun h11 => ?_) (fun h11 => absurd h11 (by decide))
              exact x_vret C (by rw [u17 σ]; (repeat rw [u2_bank]); exact lk_of (by rw [(lk_O hlt h2 h3 (fun z => z.elim h4 h8)).1]; rfl) rfl (by rw [(lk_O hlt h2 h3 (fun z => z.elim h4 h8)).2.1]; rfl) (by rw [(lk_O hlt h2 h3 (fun z => z.elim h4 h8)).2.2.1]; rfl) (fun j a b c d => by simp [upd, a, b, c, d])) (congrArg (va_up τ 3) (Eq.symm (lk_O hlt h2 h3 (fun z => z.elim h4 h8)).2.2.2)) dX8_look_332
            · refine x_iconst C (v := 3) dX8_look_118 (by decide) ?_
              refine x_goto2 C (tgt := 123) dX8_look_119 (by decide) ?_
              refine x_put C (σ' := u2 (u2 (u2 (u2 σ 17 2 (nI (nB g n e))) 17 3 (nI (nB g n e))) 17 5 (0)) 17 4 (3)) (Nat.le_of_ble_eq_true rfl) xd_81 fp_X8_146 rfl rfl rfl rfl dX8_look_123 ?_
              refine x_aload_n C 1 dX8_look_126 rfl rfl ?_
              refine x_get C (Nat.le_of_ble_eq_true rfl) xd_81 fl_X8_146 (q := (1, 17, 4)) (v := .int (3)) rfl (congrArg Value.int (u2_at _ _ _ _)) dX8_look_127 ?_
              refine x_iconst C (v := 2) dX8_look_130 (by decide) ?_
              refine x_icmp_le C (tgt := 149) dX8_look_131 (by decide) (fun h12 => absurd h12 (by decide)) (fun h12 => ?_)
              refine x_aload_n C 1 dX8_look_134 rfl rfl ?_
              refine x_iload_n C 0 dX8_look_135 rfl rfl ?_
              refine x_put C (σ' := u2 (u2 (u2 (u2 (u2 σ 17 2 (nI (nB g n e))) 17 3 (nI (nB g n e))) 17 5 (0)) 17 4 (3)) 17 5 (g (nB g n e))) (Nat.le_of_ble_eq_true rfl) xd_81 fp_X8_143 rfl rfl rfl rfl dX8_look_136 ?_
              refine x_aload_n C 1 dX8_look_139 rfl rfl ?_
              refine x_dup C dX8_look_140 rfl ?_
              refine x_get C (Nat.le_of_ble_eq_true rfl) xd_81 fl_X8_133 (q := (1, 17, 2)) (v := .int (nI (nB g n e))) rfl (congrArg Value.int (Eq.trans (Eq.trans (u2_ne (b := 17) (i := 5) (c := 17) (j := 2) (by decide)) (Eq.trans (u2_ne (b := 17) (i := 4) (c := 17) (j := 2) (by decide)) (Eq.trans (u2_ne (b := 17) (i := 5) (c := 17) (j := 2) (by decide)) (Eq.trans (u2_ne (b := 17) (i := 3) (c := 17) (j := 2) (by decide)) (u2_at _ _ _ _))))) rfl)) dX8_look_141 ?_
              refine x_iconst C (v := 1) dX8_look_144 (by decide) ?_
              refine x_iadd C dX8_look_145 ?_
              refine WM.topi (y := nI (nB g n e + 1)) (nI_add (nB g n e) 1) ?_
              refine x_put C (σ' := u2 (u2 (u2 (u2 (u2 (u2 σ 17 2 (nI (nB g n e))) 17 3 (nI (nB g n e))) 17 5 (0)) 17 4 (3)) 17 5 (g (nB g n e))) 17 2 (nI (nB g n e + 1))) (Nat.le_of_ble_eq_true rfl) xd_81 fp_X8_133 rfl rfl rfl rfl dX8_look_146 ?_
              refine x_aload_n C 1 dX8_look_149 rfl rfl ?_
              refine x_get C (Nat.le_of_ble_eq_true rfl) xd_81 fl_X8_146 (q := (1, 17, 4)) (v := .int (3)) rfl (congrArg Value.int (Eq.trans (u2_ne (b := 17) (i := 2) (c := 17) (j := 4) (by decide)) (Eq.trans (u2_ne (b := 17) (i := 5) (c := 17) (j := 4) (by decide)) (u2_at _ _ _ _)))) dX8_look_150 ?_
              refine x_iconst C (v := 1) dX8_look_153 (by decide) ?_
              refine x_icmp_ne C (tgt := 245) dX8_look_154 (by decide) (fun h13 => ?_) (fun h13 => absurd h13 (by decide))
              refine x_aload_n C 1 dX8_look_245 rfl rfl ?_
              refine x_get C (Nat.le_of_ble_eq_true rfl) xd_81 fl_X8_146 (q := (1, 17, 4)) (v := .int (3)) rfl (congrArg Value.int (Eq.trans (u2_ne (b := 17) (i := 2) (c := 17) (j := 4) (by decide)) (Eq.trans (u2_ne (b := 17) (i := 5) (c := 17) (j := 4) (by decide)) (u2_at _ _ _ _)))) dX8_look_246 ?_
              refine x_iconst C (v := 2) dX8_look_249 (by decide) ?_
              refine x_icmp_ne C (tgt := 332) dX8_look_250 (by decide) (fun h14 => ?_) (fun h14 => absurd h14 (by decide))
              exact x_vret C (by rw [u17 σ]; (repeat rw [u2_bank]); exact lk_of (by rw [(lk_S hlt h2 h3 (Or.inr h8)).1]; rfl) rfl (by rw [(lk_S hlt h2 h3 (Or.inr h8)).2.1]; rfl) (by rw [(lk_S hlt h2 h3 (Or.inr h8)).2.2.1]; rfl) (fun j a b c d => by simp [upd, a, b, c, d])) (congrArg (va_up τ 3) (Eq.symm (lk_S hlt h2 h3 (Or.inr h8)).2.2.2)) dX8_look_332
        · refine x_iconst C (v := 2) dX8_look_102 (by decide) ?_
          refine x_goto2 C (tgt := 123) dX8_look_103 (by decide) ?_
          refine x_put C (σ' := u2 (u2 (u2 (u2 σ 17 2 (nI (nB g n e))) 17 3 (nI (nB g n e))) 17 5 (0)) 17 4 (2)) (Nat.le_of_ble_eq_true rfl) xd_81 fp_X8_146 rfl rfl rfl rfl dX8_look_123 ?_
          refine x_aload_n C 1 dX8_look_126 rfl rfl ?_
          refine x_get C (Nat.le_of_ble_eq_true rfl) xd_81 fl_X8_146 (q := (1, 17, 4)) (v := .int (2)) rfl (congrArg Value.int (u2_at _ _ _ _)) dX8_look_127 ?_
          refine x_iconst C (v := 2) dX8_look_130 (by decide) ?_
          refine x_icmp_le C (tgt := 149) dX8_look_131 (by decide) (fun h15 => ?_) (fun h15 => absurd h15 (by decide))
          refine x_aload_n C 1 dX8_look_149 rfl rfl ?_
          refine x_get C (Nat.le_of_ble_eq_true rfl) xd_81 fl_X8_146 (q := (1, 17, 4)) (v := .int (2)) rfl (congrArg Value.int (u2_at _ _ _ _)) dX8_look_150 ?_
          refine x_iconst C (v := 1) dX8_look_153 (by decide) ?_
          refine x_icmp_ne C (tgt := 245) dX8_look_154 (by decide) (fun h16 => ?_) (fun h16 => absurd h16 (by decide))
          have loop : ∀ (j k : Nat), j + k = n - nB g n e → (∀ i, i < k → ¬ ¬ isDg (g (nB g n e + i))) → WM zp l ze { frames := 1, cells := 0, slots := 0, locals := 20 } zs zm za zb zh zc 0 0 (MQ zb (va_Qv (fun _ : Unit => True) (fun _ t => xP E (va_up σ 17 (lkT g n e (σ 17 6) (σ 17))) (va_up τ 3 (ltW g n e)) t.heap) (xA E)) za zs 0 0 (xA E)) E (xA E) 2 (va_up σ 17 (upd (upd (upd (upd (σ 17) 3 (nI (nB g n e))) 4 2) 5 (nI (rnN g (nB g n e) k))) 2 (nI (nB g n e + k)))) (va_up τ 3 0) 245 [(0, .ref (xad E (81)))] [] := by
            intro j
            induction j with
            | zero =>
              intro k hk hnf
              refine x_aload_n C 0 dX8_look_245 rfl rfl ?_
              refine x_get C (Nat.le_of_ble_eq_true rfl) xd_81 fl_X8_146 (q := (1, 17, 4)) (v := .int (2)) rfl (congrArg Value.int (Eq.trans (congrFun (va_up_self _ _ _) _) (Eq.trans (upd_ne (j := 4) (k := 2) (by decide)) (Eq.trans (upd_ne (j := 4) (k := 5) (by decide)) (upd_at _ _ _))))) dX8_look_246 ?_
              refine x_iconst C (v := 2) dX8_look_249 (by decide) ?_
              refine x_icmp_ne C (tgt := 332) dX8_look_250 (by decide) (fun h17 => absurd h17 (by decide)) (fun h17 => ?_)
              refine x_aload_n C 0 dX8_look_253 rfl rfl ?_
              refine x_get C (Nat.le_of_ble_eq_true rfl) xd_81 fl_X8_133 (q := (1, 17, 2)) (v := .int (nI (nB g n e + k))) rfl (congrArg Value.int (Eq.trans (Eq.trans (congrFun (va_up_self _ _ _) _) (upd_at _ _ _)) rfl)) dX8_look_254 ?_
              refine x_aload_n C 0 dX8_look_257 rfl rfl ?_
              refine x_get C (Nat.le_of_ble_eq_true rfl) xd_81 fl_X8_129 (q := (1, 17, 1)) (v := .int (nI n)) rfl (congrArg Value.int (Eq.trans (Eq.trans (congrFun (va_up_self _ _ _) _) (Eq.trans (upd_ne (j := 1) (k := 2) (by decide)) (Eq.trans (upd_ne (j := 1) (k := 5) (by decide)) (Eq.trans (upd_ne (j := 1) (k := 4) (by decide)) (upd_ne (j := 1) (k := 3) (by decide)))))) ht)) dX8_look_258 ?_
              refine x_icmp_ge C (tgt := 332) dX8_look_261 (by decide) (fun h18 => ?_) (fun h18 => absurd h18 (nI_nlt (a := nB g n e + k) (b := n) (by omega) (by omega)))
              exact x_vret C (by exact lk_of (by rw [(lk_D hlt h2 h3).1, ← (spN_end (P := isDg) (g := g) (n := n) (e := nB g n e) hnf (by omega))]; rfl) rfl (by rw [(lk_D hlt h2 h3).2.1]; rfl) (by rw [(lk_D hlt h2 h3).2.2.1, ← (spN_end (P := isDg) (g := g) (n := n) (e := nB g n e) hnf (by omega)), Nat.add_sub_cancel_left]; rfl) (fun j a b c d => by simp [upd, a, b, c, d])) (congrArg (va_up τ 3) (Eq.symm (lk_D hlt h2 h3).2.2.2)) dX8_look_332
            | succ j ih =>
              intro k hk hnf
              refine x_aload_n C 0 dX8_look_245 rfl rfl ?_
              refine x_get C (Nat.le_of_ble_eq_true rfl) xd_81 fl_X8_146 (q := (1, 17, 4)) (v := .int (2)) rfl (congrArg Value.int (Eq.trans (congrFun (va_up_self _ _ _) _) (Eq.trans (upd_ne (j := 4) (k := 2) (by decide)) (Eq.trans (upd_ne (j := 4) (k := 5) (by decide)) (upd_at _ _ _))))) dX8_look_246 ?_
              refine x_iconst C (v := 2) dX8_look_249 (by decide) ?_
              refine x_icmp_ne C (tgt := 332) dX8_look_250 (by decide) (fun h19 => absurd h19 (by decide)) (fun h19 => ?_)
              refine x_aload_n C 0 dX8_look_253 rfl rfl ?_
              refine x_get C (Nat.le_of_ble_eq_true rfl) xd_81 fl_X8_133 (q := (1, 17, 2)) (v := .int (nI (nB g n e + k))) rfl (congrArg Value.int (Eq.trans (Eq.trans (congrFun (va_up_self _ _ _) _) (upd_at _ _ _)) rfl)) dX8_look_254 ?_
              refine x_aload_n C 0 dX8_look_257 rfl rfl ?_
              refine x_get C (Nat.le_of_ble_eq_true rfl) xd_81 fl_X8_129 (q := (1, 17, 1)) (v := .int (nI n)) rfl (congrArg Value.int (Eq.trans (Eq.trans (congrFun (va_up_self _ _ _) _) (Eq.trans (upd_ne (j := 1) (k := 2) (by decide)) (Eq.trans (upd_ne (j := 1) (k := 5) (by decide)) (Eq.trans (upd_ne (j := 1) (k := 4) (by decide)) (upd_ne (j := 1) (k := 3) (by decide)))))) ht)) dX8_look_258 ?_
              refine x_icmp_ge C (tgt := 332) dX8_look_261 (by decide) (fun h20 => absurd (nI_lt (a := nB g n e + k) (b := n) (by omega) (by omega)) h20) (fun h20 => ?_)
              refine x_aload_n C 0 dX8_look_264 rfl rfl ?_
              refine x_get C (Nat.le_of_ble_eq_true rfl) xd_81 fl_X8_28 (q := (0, 88, 0)) (v := .ref (xad E (88))) rfl rfl dX8_look_265 ?_
              refine x_aload_n C 0 dX8_look_268 rfl rfl ?_
              refine x_get C (Nat.le_of_ble_eq_true rfl) xd_81 fl_X8_133 (q := (1, 17, 2)) (v := .int (nI (nB g n e + k))) rfl (congrArg Value.int (Eq.trans (Eq.trans (congrFun (va_up_self _ _ _) _) (upd_at _ _ _)) rfl)) dX8_look_269 ?_
              refine x_ald C (Nat.le_of_ble_eq_true rfl) xd_88 (v := g (nB g n e + k)) (vp_in_nI (show nB g n e + k < 100 by omega) (by decide)) (by rw [nI_clamp (by omega), Nat.zero_add, Nat.one_mul]; exact congrFun (Eq.trans (va_up_ne _ (j := 16) (k := 17) _ (by decide)) hg) _) dX8_look_272 ?_
              refine x_callSi C (As := [.int (g (nB g n e + k))]) (rest := []) (cM_isDigit l E (va_up σ 17 (upd (upd (upd (upd (σ 17) 3 (nI (nB g n e))) 4 2) 5 (nI (rnN g (nB g n e) k))) 2 (nI (nB g n e + k)))) (va_up τ 3 0) (g (nB g n e + k))) ks_X8_152 ⟨Nat.le_of_ble_eq_true rfl, Nat.le_of_ble_eq_true rfl⟩ rfl rfl (Nat.le_of_ble_eq_true rfl) dX8_look_273 ?_
              refine x_ifeqB C (tgt := 332) dX8_look_276 (by decide) (fun h21 => ?_) (fun h21 => ?_)
              · exact x_vret C (by exact lk_of (by rw [(lk_D hlt h2 h3).1, ← (spN_at (P := isDg) (g := g) (n := n) (e := nB g n e) hnf (by omega) h21)]; rfl) rfl (by rw [(lk_D hlt h2 h3).2.1]; rfl) (by rw [(lk_D hlt h2 h3).2.2.1, ← (spN_at (P := isDg) (g := g) (n := n) (e := nB g n e) hnf (by omega) h21), Nat.add_sub_cancel_left]; rfl) (fun j a b c d => by simp [upd, a, b, c, d])) (congrArg (va_up τ 3) (Eq.symm (lk_D hlt h2 h3).2.2.2)) dX8_look_332
              · refine x_aload_n C 0 dX8_look_279 rfl rfl ?_
                refine x_aload_n C 0 dX8_look_280 rfl rfl ?_
                refine x_get C (Nat.le_of_ble_eq_true rfl) xd_81 fl_X8_143 (q := (1, 17, 5)) (v := .int (nI (rnN g (nB g n e) k))) rfl (congrArg Value.int (Eq.trans (congrFun (va_up_self _ _ _) _) (Eq.trans (upd_ne (by decide)) (upd_at _ _ _)))) dX8_look_281 ?_
                refine x_sipush C (v := 999) dX8_look_284 (by decide) ?_
                refine x_icmp_le C (tgt := 296) dX8_look_287 (by decide) (fun h22 => ?_) (fun h22 => ?_)
                · refine x_bipush C (v := 10) dX8_look_296 (by decide) ?_
                  refine x_aload_n C 0 dX8_look_298 rfl rfl ?_
                  refine x_get C (Nat.le_of_ble_eq_true rfl) xd_81 fl_X8_143 (q := (1, 17, 5)) (v := .int (nI (rnN g (nB g n e) k))) rfl (congrArg Value.int (Eq.trans (congrFun (va_up_self _ _ _) _) (Eq.trans (upd_ne (by decide)) (upd_at _ _ _)))) dX8_look_299 ?_
                  refine x_imul C dX8_look_302 ?_
                  refine WM.topi (y := nI (10 * (rnN g (nB g n e) k))) (pk_mul 10 (rnN g (nB g n e) k)) ?_
                  refine x_aload_n C 0 dX8_look_303 rfl rfl ?_
                  refine x_get C (Nat.le_of_ble_eq_true rfl) xd_81 fl_X8_28 (q := (0, 88, 0)) (v := .ref (xad E (88))) rfl rfl dX8_look_304 ?_
                  refine x_aload_n C 0 dX8_look_307 rfl rfl ?_
                  refine x_get C (Nat.le_of_ble_eq_true rfl) xd_81 fl_X8_133 (q := (1, 17, 2)) (v := .int (nI (nB g n e + k))) rfl (congrArg Value.int (Eq.trans (Eq.trans (congrFun (va_up_self _ _ _) _) (upd_at _ _ _)) rfl)) dX8_look_308 ?_
                  refine x_ald C (Nat.le_of_ble_eq_true rfl) xd_88 (v := g (nB g n e + k)) (vp_in_nI (show nB g n e + k < 100 by omega) (by decide)) (by rw [nI_clamp (by omega), Nat.zero_add, Nat.one_mul]; exact congrFun (Eq.trans (va_up_ne _ (j := 16) (k := 17) _ (by decide)) hg) _) dX8_look_311 ?_
                  refine x_iadd C dX8_look_312 ?_
                  refine x_bipush C (v := 48) dX8_look_313 (by decide) ?_
                  refine x_isub C dX8_look_315 ?_
                  refine WM.topi (y := nI (rnN g (nB g n e) (k + 1))) (rn_s h21 h22 (rn_le (fun i hi => Decidable.not_not.mp (hnf i hi)))) ?_
                  refine x_put C (σ' := va_up σ 17 (upd (upd (upd (upd (upd (σ 17) 3 (nI (nB g n e))) 4 2) 5 (nI (rnN g (nB g n e) k))) 2 (nI (nB g n e + k))) 5 (nI (rnN g (nB g n e) (k + 1))))) (Nat.le_of_ble_eq_true rfl) xd_81 fp_X8_143 rfl rfl rfl (u2_bank _ _ _ _ _) dX8_look_316 ?_
                  refine x_aload_n C 0 dX8_look_319 rfl rfl ?_
                  refine x_dup C dX8_look_320 rfl ?_
                  refine x_get C (Nat.le_of_ble_eq_true rfl) xd_81 fl_X8_133 (q := (1, 17, 2)) (v := .int (nI (nB g n e + k))) rfl (congrArg Value.int (Eq.trans (Eq.trans (congrFun (va_up_self _ _ _) _) (Eq.trans (upd_ne (j := 2) (k := 5) (by decide)) (upd_at _ _ _))) rfl)) dX8_look_321 ?_
                  refine x_iconst C (v := 1) dX8_look_324 (by decide) ?_
                  refine x_iadd C dX8_look_325 ?_
                  refine WM.topi (y := nI (nB g n e + k + 1)) (nI_add (nB g n e + k) 1) ?_
                  refine x_put C (σ' := va_up σ 17 (upd (upd (upd (upd (upd (upd (σ 17) 3 (nI (nB g n e))) 4 2) 5 (nI (rnN g (nB g n e) k))) 2 (nI (nB g n e + k))) 5 (nI (rnN g (nB g n e) (k + 1)))) 2 (nI (nB g n e + k + 1)))) (Nat.le_of_ble_eq_true rfl) xd_81 fp_X8_133 rfl rfl rfl (u2_bank _ _ _ _ _) dX8_look_326 ?_
                  refine x_goto2 C (tgt := 245) dX8_look_329 (by decide) ?_
                  refine WM.keep [0] (lv' := [(0, .ref (xad E (81)))]) rfl ?_
                  exact WM.to (ih (k + 1) (by omega) (hyp_s hnf (fun f => f h21))) (congrArg (va_up σ 17) (funext fun j => by simp only [upd]; (repeat' split) <;> first | rfl | omega)) rfl rfl rfl
                · refine x_sipush C (v := 1000) dX8_look_290 (by decide) ?_
                  refine x_goto2 C (tgt := 316) dX8_look_293 (by decide) ?_
                  refine WM.topi (y := nI (rnN g (nB g n e) (k + 1))) (rn_t h22 (rn_le (fun i hi => Decidable.not_not.mp (hnf i hi)))) ?_
                  refine x_put C (σ' := va_up σ 17 (upd (upd (upd (upd (upd (σ 17) 3 (nI (nB g n e))) 4 2) 5 (nI (rnN g (nB g n e) k))) 2 (nI (nB g n e + k))) 5 (nI (rnN g (nB g n e) (k + 1))))) (Nat.le_of_ble_eq_true rfl) xd_81 fp_X8_143 rfl rfl rfl (u2_bank _ _ _ _ _) dX8_look_316 ?_
                  refine x_aload_n C 0 dX8_look_319 rfl rfl ?_
                  refine x_dup C dX8_look_320 rfl ?_
                  refine x_get C (Nat.le_of_ble_eq_true rfl) xd_81 fl_X8_133 (q := (1, 17, 2)) (v := .int (nI (nB g n e + k))) rfl (congrArg Value.int (Eq.trans (Eq.trans (congrFun (va_up_self _ _ _) _) (Eq.trans (upd_ne (j := 2) (k := 5) (by decide)) (upd_at _ _ _))) rfl)) dX8_look_321 ?_
                  refine x_iconst C (v := 1) dX8_look_324 (by decide) ?_
                  refine x_iadd C dX8_look_325 ?_
                  refine WM.topi (y := nI (nB g n e + k + 1)) (nI_add (nB g n e + k) 1) ?_
                  refine x_put C (σ' := va_up σ 17 (upd (upd (upd (upd (upd (upd (σ 17) 3 (nI (nB g n e))) 4 2) 5 (nI (rnN g (nB g n e) k))) 2 (nI (nB g n e + k))) 5 (nI (rnN g (nB g n e) (k + 1)))) 2 (nI (nB g n e + k + 1)))) (Nat.le_of_ble_eq_true rfl) xd_81 fp_X8_133 rfl rfl rfl (u2_bank _ _ _ _ _) dX8_look_326 ?_
                  refine x_goto2 C (tgt := 245) dX8_look_329 (by decide) ?_
                  refine WM.keep [0] (lv' := [(0, .ref (xad E (81)))]) rfl ?_
                  exact WM.to (ih (k + 1) (by omega) (hyp_s hnf (fun f => f h21))) (congrArg (va_up σ 17) (funext fun j => by simp only [upd]; (repeat' split) <;> first | rfl | omega)) rfl rfl rfl
          refine WM.keep [1] rfl ?_
          exact WM.to (loop (n - nB g n e) 0 (by omega) (fun i hi => absurd hi (Nat.not_lt_zero i))) (by rw [u17 σ]; (repeat rw [u2_bank]); exact congrArg (va_up σ 17) (funext fun j => by simp only [upd]; (repeat' split) <;> first | rfl | omega)) rfl rfl rfl
      · refine x_iconst C (v := 1) dX8_look_91 (by decide) ?_
        refine x_goto2 C (tgt := 123) dX8_look_92 (by decide) ?_
        refine x_put C (σ' := u2 (u2 (u2 (u2 σ 17 2 (nI (nB g n e))) 17 3 (nI (nB g n e))) 17 5 (0)) 17 4 (1)) (Nat.le_of_ble_eq_true rfl) xd_81 fp_X8_146 rfl rfl rfl rfl dX8_look_123 ?_
        refine x_aload_n C 1 dX8_look_126 rfl rfl ?_
        refine x_get C (Nat.le_of_ble_eq_true rfl) xd_81 fl_X8_146 (q := (1, 17, 4)) (v := .int (1)) rfl (congrArg Value.int (u2_at _ _ _ _)) dX8_look_127 ?_
        refine x_iconst C (v := 2) dX8_look_130 (by decide) ?_
        refine x_icmp_le C (tgt := 149) dX8_look_131 (by decide) (fun h23 => ?_) (fun h23 => absurd h23 (by decide))
        have loop : ∀ (j k : Nat), j + k = n - nB g n e → (∀ i, i < k → ¬ ¬ isLt (g (nB g n e + i))) → WM zp l ze { frames := 1, cells := 0, slots := 0, locals := 20 } zs zm za zb zh zc 0 0 (MQ zb (va_Qv (fun _ : Unit => True) (fun _ t => xP E (va_up σ 17 (lkT g n e (σ 17 6) (σ 17))) (va_up τ 3 (ltW g n e)) t.heap) (xA E)) za zs 0 0 (xA E)) E (xA E) 2 (va_up σ 17 (upd (upd (upd (upd (σ 17) 3 (nI (nB g n e))) 5 0) 4 1) 2 (nI (nB g n e + k)))) (va_up τ 3 (hsT (fun i => g (nB g n e + i)) k)) 149 [(0, .ref (xad E (81)))] [] := by
          intro j
          induction j with
          | zero =>
            intro k hk hnf
            refine x_aload_n C 0 dX8_look_149 rfl rfl ?_
            refine x_get C (Nat.le_of_ble_eq_true rfl) xd_81 fl_X8_146 (q := (1, 17, 4)) (v := .int (1)) rfl (congrArg Value.int (Eq.trans (congrFun (va_up_self _ _ _) _) (Eq.trans (upd_ne (j := 4) (k := 2) (by decide)) (upd_at _ _ _)))) dX8_look_150 ?_
            refine x_iconst C (v := 1) dX8_look_153 (by decide) ?_
            refine x_icmp_ne C (tgt := 245) dX8_look_154 (by decide) (fun h24 => absurd h24 (by decide)) (fun h24 => ?_)
            refine x_aload_n C 0 dX8_look_157 rfl rfl ?_
            refine x_get C (Nat.le_of_ble_eq_true rfl) xd_81 fl_X8_133 (q := (1, 17, 2)) (v := .int (nI (nB g n e + k))) rfl (congrArg Value.int (Eq.trans (Eq.trans (congrFun (va_up_self _ _ _) _) (upd_at _ _ _)) rfl)) dX8_look_158 ?_
            refine x_aload_n C 0 dX8_look_161 rfl rfl ?_
            refine x_get C (Nat.le_of_ble_eq_true rfl) xd_81 fl_X8_129 (q := (1, 17, 1)) (v := .int (nI n)) rfl (congrArg Value.int (Eq.trans (Eq.trans (congrFun (va_up_self _ _ _) _) (Eq.trans (upd_ne (j := 1) (k := 2) (by decide)) (Eq.trans (upd_ne (j := 1) (k := 4) (by decide)) (Eq.trans (upd_ne (j := 1) (k := 5) (by decide)) (upd_ne (j := 1) (k := 3) (by decide)))))) ht)) dX8_look_162 ?_
            refine x_icmp_ge C (tgt := 245) dX8_look_165 (by decide) (fun h25 => ?_) (fun h25 => absurd h25 (nI_nlt (a := nB g n e + k) (b := n) (by omega) (by omega)))
            refine x_aload_n C 0 dX8_look_245 rfl rfl ?_
            refine x_get C (Nat.le_of_ble_eq_true rfl) xd_81 fl_X8_146 (q := (1, 17, 4)) (v := .int (1)) rfl (congrArg Value.int (Eq.trans (congrFun (va_up_self _ _ _) _) (Eq.trans (upd_ne (j := 4) (k := 2) (by decide)) (upd_at _ _ _)))) dX8_look_246 ?_
            refine x_iconst C (v := 2) dX8_look_249 (by decide) ?_
            refine x_icmp_ne C (tgt := 332) dX8_look_250 (by decide) (fun h26 => ?_) (fun h26 => absurd h26 (by decide))
            exact x_vret C (by exact lk_of (by rw [(lk_L hlt h2).1, ← (spN_end (P := isLt) (g := g) (n := n) (e := nB g n e) hnf (by omega))]; rfl) rfl (by rw [(lk_L hlt h2).2.1]; rfl) (by rw [(lk_L hlt h2).2.2.1]; rfl) (fun j a b c d => by simp [upd, a, b, c, d])) (congrArg (va_up τ 3) (by rw [show ltW g n e = _ from (lk_L hlt h2).2.2.2, ← (spN_end (P := isLt) (g := g) (n := n) (e := nB g n e) hnf (by omega)), Nat.add_sub_cancel_left])) dX8_look_332
          | succ j ih =>
            intro k hk hnf
            refine x_aload_n C 0 dX8_look_149 rfl rfl ?_
            refine x_get C (Nat.le_of_ble_eq_true rfl) xd_81 fl_X8_146 (q := (1, 17, 4)) (v := .int (1)) rfl (congrArg Value.int (Eq.trans (congrFun (va_up_self _ _ _) _) (Eq.trans (upd_ne (j := 4) (k := 2) (by decide)) (upd_at _ _ _)))) dX8_look_150 ?_
            refine x_iconst C (v := 1) dX8_look_153 (by decide) ?_
            refine x_icmp_ne C (tgt := 245) dX8_look_154 (by decide) (fun h27 => absurd h27 (by decide)) (fun h27 => ?_)
            refine x_aload_n C 0 dX8_look_157 rfl rfl ?_
            refine x_get C (Nat.le_of_ble_eq_true rfl) xd_81 fl_X8_133 (q := (1, 17, 2)) (v := .int (nI (nB g n e + k))) rfl (congrArg Value.int (Eq.trans (Eq.trans (congrFun (va_up_self _ _ _) _) (upd_at _ _ _)) rfl)) dX8_look_158 ?_
            refine x_aload_n C 0 dX8_look_161 rfl rfl ?_
            refine x_get C (Nat.le_of_ble_eq_true rfl) xd_81 fl_X8_129 (q := (1, 17, 1)) (v := .int (nI n)) rfl (congrArg Value.int (Eq.trans (Eq.trans (congrFun (va_up_self _ _ _) _) (Eq.trans (upd_ne (j := 1) (k := 2) (by decide)) (Eq.trans (upd_ne (j := 1) (k := 4) (by decide)) (Eq.trans (upd_ne (j := 1) (k := 5) (by decide)) (upd_ne (j := 1) (k := 3) (by decide)))))) ht)) dX8_look_162 ?_
            refine x_icmp_ge C (tgt := 245) dX8_look_165 (by decide) (fun h28 => absurd (nI_lt (a := nB g n e + k) (b := n) (by omega) (by omega)) h28) (fun h28 => ?_)
            refine x_aload_n C 0 dX8_look_168 rfl rfl ?_
            refine x_get C (Nat.le_of_ble_eq_true rfl) xd_81 fl_X8_28 (q := (0, 88, 0)) (v := .ref (xad E (88))) rfl rfl dX8_look_169 ?_
            refine x_aload_n C 0 dX8_look_172 rfl rfl ?_
            refine x_get C (Nat.le_of_ble_eq_true rfl) xd_81 fl_X8_133 (q := (1, 17, 2)) (v := .int (nI (nB g n e + k))) rfl (congrArg Value.int (Eq.trans (Eq.trans (congrFun (va_up_self _ _ _) _) (upd_at _ _ _)) rfl)) dX8_look_173 ?_
            refine x_ald C (Nat.le_of_ble_eq_true rfl) xd_88 (v := g (nB g n e + k)) (vp_in_nI (show nB g n e + k < 100 by omega) (by decide)) (by rw [nI_clamp (by omega), Nat.zero_add, Nat.one_mul]; exact congrFun (Eq.trans (va_up_ne _ (j := 16) (k := 17) _ (by decide)) hg) _) dX8_look_176 ?_
            refine x_callSi C (As := [.int (g (nB g n e + k))]) (rest := []) (cM_isLetter l E (va_up σ 17 (upd (upd (upd (upd (σ 17) 3 (nI (nB g n e))) 5 0) 4 1) 2 (nI (nB g n e + k)))) (va_up τ 3 (hsT (fun i => g (nB g n e + i)) k)) (g (nB g n e + k))) ks_X8_149 ⟨Nat.le_of_ble_eq_true rfl, Nat.le_of_ble_eq_true rfl⟩ rfl rfl (Nat.le_of_ble_eq_true rfl) dX8_look_177 ?_
            refine x_ifeqB C (tgt := 245) dX8_look_180 (by decide) (fun h29 => ?_) (fun h29 => ?_)
            · refine x_aload_n C 0 dX8_look_245 rfl rfl ?_
              refine x_get C (Nat.le_of_ble_eq_true rfl) xd_81 fl_X8_146 (q := (1, 17, 4)) (v := .int (1)) rfl (congrArg Value.int (Eq.trans (congrFun (va_up_self _ _ _) _) (Eq.trans (upd_ne (j := 4) (k := 2) (by decide)) (upd_at _ _ _)))) dX8_look_246 ?_
              refine x_iconst C (v := 2) dX8_look_249 (by decide) ?_
              refine x_icmp_ne C (tgt := 332) dX8_look_250 (by decide) (fun h30 => ?_) (fun h30 => absurd h30 (by decide))
              exact x_vret C (by exact lk_of (by rw [(lk_L hlt h2).1, ← (spN_at (P := isLt) (g := g) (n := n) (e := nB g n e) hnf (by omega) h29)]; rfl) rfl (by rw [(lk_L hlt h2).2.1]; rfl) (by rw [(lk_L hlt h2).2.2.1]; rfl) (fun j a b c d => by simp [upd, a, b, c, d])) (congrArg (va_up τ 3) (by rw [show ltW g n e = _ from (lk_L hlt h2).2.2.2, ← (spN_at (P := isLt) (g := g) (n := n) (e := nB g n e) hnf (by omega) h29), Nat.add_sub_cancel_left])) dX8_look_332
            · refine x_aload_n C 0 dX8_look_183 rfl rfl ?_
              refine x_aload_n C 0 dX8_look_184 rfl rfl ?_
              refine x_get C (Nat.le_of_ble_eq_true rfl) xd_81 fl_X8_133 (q := (1, 17, 2)) (v := .int (nI (nB g n e + k))) rfl (congrArg Value.int (Eq.trans (Eq.trans (congrFun (va_up_self _ _ _) _) (upd_at _ _ _)) rfl)) dX8_look_185 ?_
              refine x_aload_n C 0 dX8_look_188 rfl rfl ?_
              refine x_get C (Nat.le_of_ble_eq_true rfl) xd_81 fl_X8_136 (q := (1, 17, 3)) (v := .int (nI (nB g n e))) rfl (congrArg Value.int (Eq.trans (Eq.trans (congrFun (va_up_self _ _ _) _) (Eq.trans (upd_ne (j := 3) (k := 2) (by decide)) (Eq.trans (upd_ne (j := 3) (k := 4) (by decide)) (Eq.trans (upd_ne (j := 3) (k := 5) (by decide)) (upd_at _ _ _))))) rfl)) dX8_look_189 ?_
              refine x_isub C dX8_look_192 ?_
              refine WM.topi (y := nI k) (by rw [pk_sub (by omega)]; exact congrArg nI (by omega)) ?_
              refine x_bipush C (v := 8) dX8_look_193 (by decide) ?_
              refine x_icmp_ge C (tgt := 226) dX8_look_195 (by decide) (fun h31 => ?_) (fun h31 => ?_)
              · refine x_ldc2 C dX8_look_226 kc_X8_159 ?_
                refine x_putL C (τ' := va_up τ 3 (hsT (fun i => g (nB g n e + i)) (k + 1))) (Nat.le_of_ble_eq_true rfl) xd_81 fp_X8_139 rfl (Eq.trans (lkU _ _ _ _) (congrArg (va_up τ 3) (Eq.symm (if_neg (fun z => h31 (nI_lt (b := 8) z (by decide))))))) dX8_look_229 ?_
                refine x_aload_n C 0 dX8_look_232 rfl rfl ?_
                refine x_dup C dX8_look_233 rfl ?_
                refine x_get C (Nat.le_of_ble_eq_true rfl) xd_81 fl_X8_133 (q := (1, 17, 2)) (v := .int (nI (nB g n e + k))) rfl (congrArg Value.int (Eq.trans (Eq.trans (congrFun (va_up_self _ _ _) _) (upd_at _ _ _)) rfl)) dX8_look_234 ?_
                refine x_iconst C (v := 1) dX8_look_237 (by decide) ?_
                refine x_iadd C dX8_look_238 ?_
                refine WM.topi (y := nI (nB g n e + k + 1)) (nI_add (nB g n e + k) 1) ?_
                refine x_put C (σ' := va_up σ 17 (upd (upd (upd (upd (σ 17) 3 (nI (nB g n e))) 5 0) 4 1) 2 (nI (nB g n e + k + 1)))) (Nat.le_of_ble_eq_true rfl) xd_81 fp_X8_133 rfl rfl rfl (Eq.trans (u2_bank _ _ _ _ _) (congrArg (va_up _ _) (upd_upd _ _ _ _))) dX8_look_239 ?_
                refine x_goto2 C (tgt := 149) dX8_look_242 (by decide) ?_
                refine WM.keep [0] (lv' := [(0, .ref (xad E (81)))]) rfl ?_
                exact WM.to (ih (k + 1) (by omega) (hyp_s hnf (fun f => f h29))) rfl rfl rfl rfl
              · refine x_ldc2 C dX8_look_198 kc_X8_155 ?_
                refine x_aload_n C 0 dX8_look_201 rfl rfl ?_
                refine x_get C (Nat.le_of_ble_eq_true rfl) xd_81 fl_X8_139 (q := (2, 3, 0)) (v := .long (hsT (fun i => g (nB g n e + i)) k)) rfl (congrArg Value.long (va_up_self _ _ _)) dX8_look_202 ?_
                refine x_lmul C dX8_look_205 ?_
                refine x_aload_n C 0 dX8_look_206 rfl rfl ?_
                refine x_get C (Nat.le_of_ble_eq_true rfl) xd_81 fl_X8_28 (q := (0, 88, 0)) (v := .ref (xad E (88))) rfl rfl dX8_look_207 ?_
                refine x_aload_n C 0 dX8_look_210 rfl rfl ?_
                refine x_get C (Nat.le_of_ble_eq_true rfl) xd_81 fl_X8_133 (q := (1, 17, 2)) (v := .int (nI (nB g n e + k))) rfl (congrArg Value.int (Eq.trans (Eq.trans (congrFun (va_up_self _ _ _) _) (upd_at _ _ _)) rfl)) dX8_look_211 ?_
                refine x_ald C (Nat.le_of_ble_eq_true rfl) xd_88 (v := g (nB g n e + k)) (vp_in_nI (show nB g n e + k < 100 by omega) (by decide)) (by rw [nI_clamp (by omega), Nat.zero_add, Nat.one_mul]; exact congrFun (Eq.trans (va_up_ne _ (j := 16) (k := 17) _ (by decide)) hg) _) dX8_look_214 ?_
                refine x_i2l C dX8_look_215 ?_
                refine x_ladd C dX8_look_216 ?_
                refine x_ldc2 C dX8_look_217 kc_X8_157 ?_
                refine x_lsub C dX8_look_220 ?_
                refine x_lconst C (v := 1) dX8_look_221 (by decide) ?_
                refine x_ladd C dX8_look_222 ?_
                refine x_goto2 C (tgt := 229) dX8_look_223 (by decide) ?_
                refine x_putL C (τ' := va_up τ 3 (hsT (fun i => g (nB g n e + i)) (k + 1))) (Nat.le_of_ble_eq_true rfl) xd_81 fp_X8_139 rfl (Eq.trans (lkU _ _ _ _) (congrArg (va_up τ 3) (Eq.symm (if_pos ((nI_ltI (a := k) (b := 8) (by omega) (by decide)).mp h31))))) dX8_look_229 ?_
                refine x_aload_n C 0 dX8_look_232 rfl rfl ?_
                refine x_dup C dX8_look_233 rfl ?_
                refine x_get C (Nat.le_of_ble_eq_true rfl) xd_81 fl_X8_133 (q := (1, 17, 2)) (v := .int (nI (nB g n e + k))) rfl (congrArg Value.int (Eq.trans (Eq.trans (congrFun (va_up_self _ _ _) _) (upd_at _ _ _)) rfl)) dX8_look_234 ?_
                refine x_iconst C (v := 1) dX8_look_237 (by decide) ?_
                refine x_iadd C dX8_look_238 ?_
                refine WM.topi (y := nI (nB g n e + k + 1)) (nI_add (nB g n e + k) 1) ?_
                refine x_put C (σ' := va_up σ 17 (upd (upd (upd (upd (σ 17) 3 (nI (nB g n e))) 5 0) 4 1) 2 (nI (nB g n e + k + 1)))) (Nat.le_of_ble_eq_true rfl) xd_81 fp_X8_133 rfl rfl rfl (Eq.trans (u2_bank _ _ _ _ _) (congrArg (va_up _ _) (upd_upd _ _ _ _))) dX8_look_239 ?_
                refine x_goto2 C (tgt := 149) dX8_look_242 (by decide) ?_
                refine WM.keep [0] (lv' := [(0, .ref (xad E (81)))]) rfl ?_
                exact WM.to (ih (k + 1) (by omega) (hyp_s hnf (fun f => f h29))) rfl rfl rfl rfl
        refine WM.keep [1] rfl ?_
        exact WM.to (loop (n - nB g n e) 0 (by omega) (fun i hi => absurd hi (Nat.not_lt_zero i))) (by rw [u17 σ]; (repeat rw [u2_bank]); exact congrArg (va_up σ 17) (funext fun j => by simp only [upd]; (repeat' split) <;> first | rfl | omega)) rfl rfl rfl
    · refine x_aload_n C 0 dX8_look_67 rfl rfl ?_
      refine x_iconst C (v := 0) dX8_look_68 (by decide) ?_
      refine x_put C (σ' := u2 (u2 (u2 (u2 σ 17 2 (nI (nB g n e))) 17 3 (nI (nB g n e))) 17 5 (0)) 17 4 (0)) (Nat.le_of_ble_eq_true rfl) xd_81 fp_X8_146 rfl rfl rfl rfl dX8_look_69 ?_
      exact x_vret C (by rw [u17 σ]; (repeat rw [u2_bank]); exact lk_of (by rw [(lk_E (g := g) (show ¬ nB g n e < n by have hq := (nI_eq (by omega) (by omega)).mp h1; omega)).1]; rfl) rfl (by rw [(lk_E (g := g) (show ¬ nB g n e < n by have hq := (nI_eq (by omega) (by omega)).mp h1; omega)).2.1]; rfl) (by rw [(lk_E (g := g) (show ¬ nB g n e < n by have hq := (nI_eq (by omega) (by omega)).mp h1; omega)).2.2.1]; rfl) (fun j a b c d => by simp [upd, a, b, c, d])) (congrArg (va_up τ 3) (Eq.symm (lk_E (g := g) (show ¬ nB g n e < n by have hq := (nI_eq (by omega) (by omega)).mp h1; omega)).2.2.2)) dX8_look_72
  have loop : ∀ (j k : Nat), j + k = n - e → (∀ i, i < k → ¬ ¬ isSp (g (e + i))) → WM zp l ze { frames := 1, cells := 0, slots := 0, locals := 20 } zs zm za zb zh zc 0 0 (MQ zb (va_Qv (fun _ : Unit => True) (fun _ t => xP E (va_up σ 17 (lkT g n e (σ 17 6) (σ 17))) (va_up τ 3 (ltW g n e)) t.heap) (xA E)) za zs 0 0 (xA E)) E (xA E) 2 (u2 σ 17 2 (nI (e + k))) (τ) 0 [(0, .ref (xad E (81)))] [] := by
    intro j
    induction j with
    | zero =>
      intro k hk hnf
      refine x_aload_n C 0 dX8_look_0 rfl rfl ?_
      refine x_get C (Nat.le_of_ble_eq_true rfl) xd_81 fl_X8_133 (q := (1, 17, 2)) (v := .int (nI (e + k))) rfl (congrArg Value.int (Eq.trans (u2_at _ _ _ _) rfl)) dX8_look_1 ?_
      refine x_aload_n C 0 dX8_look_4 rfl rfl ?_
      refine x_get C (Nat.le_of_ble_eq_true rfl) xd_81 fl_X8_129 (q := (1, 17, 1)) (v := .int (nI n)) rfl (congrArg Value.int (Eq.trans (u2_ne (b := 17) (i := 2) (c := 17) (j := 1) (by decide)) ht)) dX8_look_5 ?_
      refine x_icmp_ge C (tgt := 38) dX8_look_8 (by decide) (fun h32 => ?_) (fun h32 => absurd h32 (nI_nlt (a := e + k) (b := n) (by omega) (by omega)))
      exact WM.to hw (congrArg (u2 σ 17 2) (congrArg nI (spN_end (P := isSp) (g := g) (n := n) (e := e) hnf (by omega)))) rfl rfl rfl
    | succ j ih =>
      intro k hk hnf
      refine x_aload_n C 0 dX8_look_0 rfl rfl ?_
      refine x_get C (Nat.le_of_ble_eq_true rfl) xd_81 fl_X8_133 (q := (1, 17, 2)) (v := .int (nI (e + k))) rfl (congrArg Value.int (Eq.trans (u2_at _ _ _ _) rfl)) dX8_look_1 ?_
      refine x_aload_n C 0 dX8_look_4 rfl rfl ?_
      refine x_get C (Nat.le_of_ble_eq_true rfl) xd_81 fl_X8_129 (q := (1, 17, 1)) (v := .int (nI n)) rfl (congrArg Value.int (Eq.trans (u2_ne (b := 17) (i := 2) (c := 17) (j := 1) (by decide)) ht)) dX8_look_5 ?_
      refine x_icmp_ge C (tgt := 38) dX8_look_8 (by decide) (fun h33 => absurd (nI_lt (a := e + k) (b := n) (by omega) (by omega)) h33) (fun h33 => ?_)
      refine x_aload_n C 0 dX8_look_11 rfl rfl ?_
      refine x_get C (Nat.le_of_ble_eq_true rfl) xd_81 fl_X8_28 (q := (0, 88, 0)) (v := .ref (xad E (88))) rfl rfl dX8_look_12 ?_
      refine x_aload_n C 0 dX8_look_15 rfl rfl ?_
      refine x_get C (Nat.le_of_ble_eq_true rfl) xd_81 fl_X8_133 (q := (1, 17, 2)) (v := .int (nI (e + k))) rfl (congrArg Value.int (Eq.trans (u2_at _ _ _ _) rfl)) dX8_look_16 ?_
      refine x_ald C (Nat.le_of_ble_eq_true rfl) xd_88 (v := g (e + k)) (vp_in_nI (show e + k < 100 by omega) (by decide)) (by rw [nI_clamp (by omega), Nat.zero_add, Nat.one_mul]; exact congrFun (Eq.trans (u2_bk_ne _ (c := 16) (b := 17) _ _ (by decide)) hg) _) dX8_look_19 ?_
      refine x_bipush C (v := 32) dX8_look_20 (by decide) ?_
      refine x_icmp_ne C (tgt := 38) dX8_look_22 (by decide) (fun h34 => ?_) (fun h34 => ?_)
      · exact WM.to hw (congrArg (u2 σ 17 2) (congrArg nI (spN_at (P := isSp) (g := g) (n := n) (e := e) hnf (by omega) h34))) rfl rfl rfl
      · refine x_aload_n C 0 dX8_look_25 rfl rfl ?_
        refine x_dup C dX8_look_26 rfl ?_
        refine x_get C (Nat.le_of_ble_eq_true rfl) xd_81 fl_X8_133 (q := (1, 17, 2)) (v := .int (nI (e + k))) rfl (congrArg Value.int (Eq.trans (u2_at _ _ _ _) rfl)) dX8_look_27 ?_
        refine x_iconst C (v := 1) dX8_look_30 (by decide) ?_
        refine x_iadd C dX8_look_31 ?_
        refine WM.topi (y := nI (e + k + 1)) (nI_add (e + k) 1) ?_
        refine x_put C (σ' := u2 (u2 σ 17 2 (nI (e + k))) 17 2 (nI (e + k + 1))) (Nat.le_of_ble_eq_true rfl) xd_81 fp_X8_133 rfl rfl rfl rfl dX8_look_32 ?_
        refine x_goto2 C (tgt := 0) dX8_look_35 (by decide) ?_
        refine WM.keep [0] (lv' := [(0, .ref (xad E (81)))]) rfl ?_
        exact WM.to (ih (k + 1) (by omega) (hyp_s hnf (fun f => f h34))) (u2_u2 _ _ _ _ _) rfl rfl rfl
  refine WM.keep [0] rfl ?_
  exact WM.to (loop (n - e) 0 (by omega) (fun i hi => absurd hi (Nat.not_lt_zero i))) (u2_self he) rfl rfl rfl
