/-! words by their hash -/
def lv (x : Int32) : Nat := x.toNatClampNeg - 96
theorem lv_of {x : Int32} (h : isLt x) : x = nI (96 + lv x) ∧ 1 ≤ lv x ∧ lv x ≤ 26 := by
  obtain ⟨q, h1, h2, rfl⟩ := rngN (a := 97) (b := 122) h (by decide) (by decide) (by decide)
  unfold lv
  rw [nI_clamp (by omega)]
  exact ⟨congrArg nI (by omega), by omega, by omega⟩
def hsN (f : Nat → Int32) : Nat → Nat
  | 0 => 0
  | k + 1 => 32 * hsN f k + lv (f k)
theorem hs_lN {f : Nat → Int32} : ∀ k, k ≤ 8 → (∀ i, i < k → isLt (f i)) → hsT f k = lN (hsN f k) := by
  intro k
  induction k with
  | zero => intro _ _; rfl
  | succ k ih =>
    intro hk h
    obtain ⟨e, h1, h2⟩ := lv_of (h k (by omega))
    show (if k < 8 then 32 * hsT f k + Int32.toInt64 (f k) - 97 + 1 else -1) = lN (32 * hsN f k + lv (f k))
    rw [if_pos (by omega), ih (by omega) (fun i hi => h i (by omega))]
    have e2 : Int32.toInt64 (f k) = lN (96 + lv (f k)) := by
      have e3 := congrArg Int32.toInt64 e
      rw [nI_l (by omega)] at e3
      exact e3
    rw [e2]
    show lN 32 * lN (hsN f k) + lN (96 + lv (f k)) - lN 97 + 1 = _
    rw [lN_mul, lN_add, lN_sub (by omega), lN_1]
    exact congrArg lN (by omega)
theorem hsN_lt {f : Nat → Int32} : ∀ k, (∀ i, i < k → isLt (f i)) → hsN f k < 32 ^ k := by
  intro k
  induction k with
  | zero => intro _; exact Nat.lt_succ_self 0
  | succ k ih =>
    intro h
    have h1 := ih (fun i hi => h i (by omega))
    obtain ⟨e, h2, h3⟩ := lv_of (h k (by omega))
    show 32 * hsN f k + lv (f k) < 32 ^ (k + 1)
    rw [Nat.pow_succ]
    omega
theorem hsN_big {f : Nat → Int32} {k : Nat} (hk : k ≤ 8) (h : ∀ i, i < k → isLt (f i)) : hsN f k < 2 ^ 63 := by
  have h1 := hsN_lt k h
  have h2 : 32 ^ k ≤ 32 ^ 8 := Nat.pow_le_pow_right (by decide) hk
  have h3 : 32 ^ 8 < 2 ^ 63 := by decide
  omega
theorem hsN_eq {f f' : Nat → Int32} : ∀ k k', (∀ i, i < k → isLt (f i)) → (∀ i, i < k' → isLt (f' i)) → hsN f k = hsN f' k' → k = k' ∧ ∀ i, i < k' → f i = f' i := by
  intro k
  induction k with
  | zero =>
    intro k' _ h' e
    cases k' with
    | zero => exact ⟨rfl, fun i hi => absurd hi (Nat.not_lt_zero i)⟩
    | succ k' =>
      have := (lv_of (h' k' (by omega))).2.1
      have e2 : 0 = 32 * hsN f' k' + lv (f' k') := e
      omega
  | succ k ih =>
    intro k' h h' e
    obtain ⟨a1, a2, a3⟩ := lv_of (h k (by omega))
    cases k' with
    | zero =>
      have e2 : 32 * hsN f k + lv (f k) = 0 := e
      omega
    | succ k' =>
      obtain ⟨b1, b2, b3⟩ := lv_of (h' k' (by omega))
      have e2 : 32 * hsN f k + lv (f k) = 32 * hsN f' k' + lv (f' k') := e
      obtain ⟨hk, hi⟩ := ih k' (fun i hi => h i (by omega)) (fun i hi => h' i (by omega)) (by omega)
      subst hk
      refine ⟨rfl, fun i h1 => ?_⟩
      rcases Nat.lt_succ_iff_lt_or_eq.mp h1 with h2 | h2
      · exact hi i h2
      · rw [h2, a1, b1]
        exact congrArg nI (by omega)
theorem hsN_congr {f f' : Nat → Int32} : ∀ k, (∀ i, i < k → f i = f' i) → hsT f k = hsT f' k := by
  intro k
  induction k with
  | zero => intro _; rfl
  | succ k ih =>
    intro h
    unfold hsT
    rw [ih (fun i hi => h i (by omega)), h k (by omega)]
def hsW (i : Nat) : Int64 := hsT (xch i) (xsLn.getD i 0)
theorem hl_7 : ∀ i, i < 13 → xsLn.getD i 0 ≤ 7 := by decide +kernel
theorem xch_lt : ∀ i, i < 13 → ∀ j, j < xsLn.getD i 0 → isLt (xch i j) := by decide +kernel
theorem hsW_inj : ∀ i, i < 13 → ∀ j, j < 13 → hsW i = hsW j → i = j := by decide +kernel
theorem hsW_m1 : ∀ i, i < 13 → ¬ -1 = hsW i := by decide +kernel
theorem hs_iff {f : Nat → Int32} {k i : Nat} (hi : i < 13) (h : ∀ j, j < k → isLt (f j)) : hsT f k = hsW i ↔ k = xsLn.getD i 0 ∧ ∀ j, j < xsLn.getD i 0 → f j = xch i j := by
  have h7 := hl_7 i hi
  constructor
  · intro e
    by_cases hk : k ≤ 8
    · have e2 : lN (hsN f k) = lN (hsN (xch i) (xsLn.getD i 0)) := by
        rw [← hs_lN k hk h, ← hs_lN _ (by omega) (xch_lt i hi)]
        exact e
      exact hsN_eq k _ h (xch_lt i hi) ((pk_lEQ (hsN_big hk h) (hsN_big (by omega) (xch_lt i hi))).mp e2)
    · exfalso
      obtain ⟨m, rfl⟩ : ∃ m, k = m + 1 := ⟨k - 1, by omega⟩
      have e2 : hsT f (m + 1) = -1 := if_neg (by omega)
      exact hsW_m1 i hi (e2.symm.trans e)
  · rintro ⟨rfl, e⟩
    exact hsN_congr _ e
theorem wvN_at {Q : Nat → Prop} [DecidablePred Q] {i : Nat} (hq : Q i) : ∀ k, i < k → (∀ j, j < k → Q j → j = i) → wvN Q k = nI i := by
  intro k
  induction k with
  | zero => intro h _; exact absurd h (Nat.not_lt_zero _)
  | succ k ih =>
    intro hi hu
    unfold wvN
    by_cases h : Q k
    · rw [if_pos h, hu k (by omega) h]
    · rw [if_neg h]
      have hne : i ≠ k := fun e => h (e ▸ hq)
      exact ih (by omega) (fun j hj => hu j (by omega))
theorem wvN_no {Q : Nat → Prop} [DecidablePred Q] : ∀ k, (∀ j, j < k → ¬ Q j) → wvN Q k = -1 := by
  intro k
  induction k with
  | zero => intro _; rfl
  | succ k ih =>
    intro h
    unfold wvN
    rw [if_neg (h k (by omega))]
    exact ih (fun j hj => h j (by omega))
theorem wvN_congr {Q Q' : Nat → Prop} [DecidablePred Q] [DecidablePred Q'] : ∀ k, (∀ j, j < k → (Q j ↔ Q' j)) → wvN Q k = wvN Q' k := by
  intro k
  induction k with
  | zero => intro _; rfl
  | succ k ih =>
    intro h
    unfold wvN
    rw [ih (fun j hj => h j (by omega))]
    by_cases hq : Q k
    · rw [if_pos hq, if_pos ((h k (by omega)).mp hq)]
    · rw [if_neg hq, if_neg (fun q => hq ((h k (by omega)).mpr q))]
abbrev drQ (t : Int32) (w : Int64) (i : Nat) : Prop := t = 1 ∧ w = hsW i
theorem dr_at {t : Int32} {w : Int64} {i : Nat} (hi : i < 13) (h : drQ t w i) : nI i = wvN (drQ t w) 13 := (wvN_at h 13 hi (fun j hj q => hsW_inj j hj i hi (q.2.symm.trans h.2))).symm
theorem dr_no {t : Int32} {w : Int64} (h0 : ¬ drQ t w 0) (h1 : ¬ drQ t w 1) (h2 : ¬ drQ t w 2) (h3 : ¬ drQ t w 3) (h4 : ¬ drQ t w 4) (h5 : ¬ drQ t w 5) (h6 : ¬ drQ t w 6) (h7 : ¬ drQ t w 7) (h8 : ¬ drQ t w 8) (h9 : ¬ drQ t w 9) (h10 : ¬ drQ t w 10) (h11 : ¬ drQ t w 11) (h12 : ¬ drQ t w 12) : -1 = wvN (drQ t w) 13 := by
  refine (wvN_no 13 fun j hj => ?_).symm
  match j, hj with
  | 0, _ => exact h0
  | 1, _ => exact h1
  | 2, _ => exact h2
  | 3, _ => exact h3
  | 4, _ => exact h4
  | 5, _ => exact h5
  | 6, _ => exact h6
  | 7, _ => exact h7
  | 8, _ => exact h8
  | 9, _ => exact h9
  | 10, _ => exact h10
  | 11, _ => exact h11
  | 12, _ => exact h12
  | n + 13, h => exact absurd h (by omega)
theorem by_n {g : Nat → Int32} {n b : Nat} (h : b < n) : byB g n b = g b := byB_in h
/-- a word's deed, by its hash as by its letters -/
theorem dr_w {g : Nat → Int32} {n e : Nat} (hen : e ≤ n) (h : tT g n e = 0) : lkK g n (nB g n e) = 1 ∧ wvN (drQ 1 (ltW g n e)) 13 = tV g n e := by
  unfold tT tkT at h
  by_cases hl : isLt (byB g n (nB g n e))
  · have hlt : nB g n e < n := Decidable.not_not.mp (fun q => (by_lt q).1 hl)
    have hl2 : isLt (g (nB g n e)) := by rw [← byB_in (g := g) hlt]; exact hl
    obtain ⟨a1, a2, a3, a4⟩ := lk_L hlt hl2
    have hs := spN_le (P := isLt) (g := g) (nB_le (g := g) hen).2
    refine ⟨a2, ?_⟩
    unfold tV tkV
    rw [if_pos hl]
    refine wvN_congr 13 fun i hi => ?_
    show (1 = 1 ∧ lkW g n (nB g n e) = hsW i) ↔ _
    rw [a4]
    have h2 := hs_iff (f := fun j => g (nB g n e + j)) (k := spN isLt g n (nB g n e) - nB g n e) hi (fun j hj => spN_in (P := isLt) (n := n) (e := nB g n e) (i := nB g n e + j) (by omega) (by omega))
    exact ⟨fun q => h2.mp q.2, fun q => ⟨rfl, h2.mpr q⟩⟩
  · rw [if_neg hl] at h
    exfalso
    by_cases hd : isDg (byB g n (nB g n e))
    · rw [if_pos hd] at h; exact absurd h (by decide)
    · rw [if_neg hd] at h
      split at h <;> exact absurd h (by decide)
theorem lk_k {g : Nat → Int32} {n b : Nat} : (lkK g n b = 1 ↔ tkT g n b = 0) ∧ (lkK g n b = 2 ↔ tkT g n b = 1) ∧ (lkK g n b = 3 ↔ tkT g n b = 2) := by
  unfold lkK tkT
  by_cases h : b < n
  · rw [if_pos h, byB_in h]
    by_cases h1 : isLt (g b)
    · rw [if_pos h1, if_pos h1]; decide
    rw [if_neg h1, if_neg h1]
    by_cases h2 : isDg (g b)
    · rw [if_pos h2, if_pos h2]; decide
    rw [if_neg h2, if_neg h2]
    by_cases h3 : g b = 59 ∨ g b = 45
    · rw [if_pos h3, if_pos h3]; decide
    rw [if_neg h3, if_neg h3]; decide
  · obtain ⟨h1, h2, h3⟩ := by_lt (g := g) h
    rw [if_neg h, if_neg h1, if_neg h2, if_neg h3]; decide
theorem lk_0 {g : Nat → Int32} {n b : Nat} (hb : b ≤ n) : lkK g n b = 0 ↔ b = n := by
  by_cases h : b < n
  · constructor
    · intro e
      unfold lkK at e
      rw [if_pos h] at e
      exfalso
      revert e
      split
      · decide
      split
      · decide
      split <;> decide
    · intro e; omega
  · exact ⟨fun _ => by omega, fun _ => (lk_E h).2.1⟩
theorem lk_a {g : Nat → Int32} {n b : Nat} (h : ¬ tkT g n b = 3) : lkA g n b = tkE g n b := by
  unfold tkT at h
  unfold lkA tkE
  by_cases hb : b < n
  · rw [if_pos hb]
    rw [byB_in hb] at h ⊢
    by_cases h1 : isLt (g b)
    · rw [if_pos h1, if_pos h1]
    rw [if_neg h1] at h
    rw [if_neg h1, if_neg h1]
    by_cases h2 : isDg (g b)
    · rw [if_pos h2, if_pos h2]
    rw [if_neg h2] at h
    rw [if_neg h2, if_neg h2]
    by_cases h3 : g b = 59 ∨ g b = 45
    · rw [if_pos h3]
    · rw [if_neg h3] at h; exact absurd rfl h
  · obtain ⟨h1, h2, h3⟩ := by_lt (g := g) hb
    rw [if_neg h1, if_neg h2, if_neg h3] at h
    exact absurd rfl h
theorem lk_s {g : Nat → Int32} {n b : Nat} (h : tkT g n b = 2) : lkV g n b = tkV g n b := by
  unfold tkT at h
  unfold lkV tkV
  by_cases h1 : isLt (byB g n b)
  · rw [if_pos h1] at h; exact absurd h (by decide)
  rw [if_neg h1] at h
  by_cases h2 : isDg (byB g n b)
  · rw [if_pos h2] at h; exact absurd h (by decide)
  rw [if_neg h2] at h
  rw [if_neg h1, if_neg h2]
  by_cases hb : b < n
  · rw [byB_in hb] at h1 h2 ⊢
    rw [if_pos hb, if_neg h1, if_neg h2]
  · obtain ⟨q1, q2, q3⟩ := by_lt (g := g) hb
    rw [if_neg q3] at h
    exact absurd h (by decide)
/-- a number is the same on both sides, as far as a deed may take it -/
theorem lk_d {g : Nat → Int32} {n b : Nat} (hb : b ≤ n) (h : tkT g n b = 1) : lkV g n b = tkV g n b ∨ ((∃ m : Nat, 1000 ≤ m ∧ m ≤ 9999 ∧ lkV g n b = nI m) ∧ tkV g n b = nI 1000) := by
  unfold tkT at h
  unfold lkV tkV
  by_cases h1 : isLt (byB g n b)
  · rw [if_pos h1] at h; exact absurd h (by decide)
  rw [if_neg h1] at h
  by_cases h2 : isDg (byB g n b)
  · rw [if_neg h1, if_pos h2]
    have hlt : b < n := Decidable.not_not.mp (fun q => (by_lt q).2.1 h2)
    rw [byB_in hlt] at h1 h2
    rw [if_pos hlt, if_neg h1, if_pos h2]
    have hs := spN_le (P := isDg) (g := g) hb
    rcases rn_cn (g := g) (b := b) (spN isDg g n b - b) (fun i hi => spN_in (P := isDg) (n := n) (e := b) (i := b + i) (by omega) (by omega)) with ⟨q1, q2⟩ | ⟨q1, q2, q3⟩
    · exact Or.inl (congrArg nI q2)
    · exact Or.inr ⟨⟨_, q2, q3, rfl⟩, congrArg nI q1⟩
  · rw [if_neg h2] at h
    split at h <;> exact absurd h (by decide)
theorem rng_hi {m : Nat} {lo hi : Int32} (h1 : 1000 ≤ m) (h2 : m ≤ 9999) (hh : hi.toInt ≤ 200) : ¬ rng (nI m) lo hi := by
  intro h
  have h3 := (rng_iff.mp h).2
  rw [nI_toInt (by omega)] at h3
  omega
theorem lk_r {g : Nat → Int32} {n b : Nat} (hb : b ≤ n) (h : tkT g n b = 1) {lo hi : Int32} (hh : hi.toInt ≤ 200) : (rng (lkV g n b) lo hi ↔ rng (tkV g n b) lo hi) ∧ (rng (tkV g n b) lo hi → lkV g n b = tkV g n b) := by
  rcases lk_d hb h with e | ⟨⟨m, h1, h2, e⟩, e2⟩
  · rw [e]; exact ⟨Iff.rfl, fun _ => rfl⟩
  · rw [e, e2]
    exact ⟨⟨fun q => absurd q (rng_hi h1 h2 hh), fun q => absurd q (rng_hi (by omega) (by omega) hh)⟩, fun q => absurd q (rng_hi (by omega) (by omega) hh)⟩
theorem most_le : ∀ k, k < 13 → ((xzl 3).getD k 0).toInt ≤ 200 := by decide +kernel
set_option maxHeartbeats 4000000 in
set_option maxRecDepth 100000 in
theorem c_isWord (l : Launch) (E : xE) (σ : Nat → Nat → Int32) (τ : Nat → Int64) (i : Nat) (hi : i < 13) : xMi l yX8_isWord cX8_isWord 5 .boolean 4 85 E [.ref (xad E (81)), .ref (xsK E (i))] (σ) (τ) (if drQ (σ 17 4) (τ 3) i then 1 else 0) (σ) (τ) := by
  refine xMi_of (own := RX8) (by decide +kernel) rfl (Nat.le_of_ble_eq_true rfl) ?_
  intro zp ze zs zm za zb zh zc C
  refine WM.to (lv1 := [(0, .ref (xad E (81))), (1, .ref (xsK E (i)))]) (st1 := []) (σ1 := σ) (τ1 := τ) ?_ rfl rfl rfl rfl
  have h7 := hl_7 i hi
  refine x_lconst C (v := 0) dX8_isWord_0 (by decide) ?_
  refine x_lstore_n C (lv1 := [(2, .long (0)), (0, .ref (xad E (81))), (1, .ref (xsK E (i)))]) dX8_isWord_1 rfl (by decide) rfl ?_
  refine x_iconst C (v := 0) dX8_isWord_2 (by decide) ?_
  refine x_istore C (lv1 := [(4, .int (0)), (2, .long (0)), (0, .ref (xad E (81))), (1, .ref (xsK E (i)))]) dX8_isWord_3 (by decide) rfl ?_
  have loop : ∀ (j k : Nat), j + k = xsLn.getD i 0 → WM zp l ze { frames := 4, cells := 0, slots := 0, locals := 85 } zs zm za zb zh zc 0 0 (MQ zb (va_Qi (fun r (_ : Unit) => r = (if drQ (σ 17 4) (τ 3) i then 1 else 0)) (fun _ t => xP E (σ) (τ) t.heap) (xA E)) za zs 0 0 (xA E)) E (xA E) 5 (σ) (τ) 5 [(0, .ref (xad E (81))), (1, .ref (xsK E (i))), (2, .long (hsT (xch i) k)), (4, .int (nI k))] [] := by
    intro j
    induction j with
    | zero =>
      intro k hk
      refine x_iload C 3 dX8_isWord_5 rfl ?_
      refine x_aload_n C 1 dX8_isWord_7 rfl rfl ?_
      refine x_callViS C (As := []) (rest := [.int (nI k)]) (c_Slen l E σ τ i hi) kv_X8_161 (x_recvS C (i := i) hi) ⟨Nat.le_of_ble_eq_true rfl, Nat.le_of_ble_eq_true rfl⟩ rfl rfl (Nat.le_of_ble_eq_true rfl) dX8_isWord_8 ?_
      refine x_icmp_ge C (tgt := 40) dX8_isWord_11 (by decide) (fun h1 => ?_) (fun h1 => absurd h1 (nI_nlt (a := k) (b := xsLn.getD i 0) (by omega) (by omega)))
      refine x_aload_n C 0 dX8_isWord_40 rfl rfl ?_
      refine x_get C (Nat.le_of_ble_eq_true rfl) xd_81 fl_X8_146 (q := (1, 17, 4)) (v := .int (σ 17 4)) rfl rfl dX8_isWord_41 ?_
      refine x_iconst C (v := 1) dX8_isWord_44 (by decide) ?_
      refine x_icmp_ne C (tgt := 61) dX8_isWord_45 (by decide) (fun h2 => ?_) (fun h2 => ?_)
      · refine x_iconst C (v := 0) dX8_isWord_61 (by decide) ?_
        exact x_zret C (by rfl) (Eq.symm (if_neg (fun z => h2 z.1))) rfl rfl dX8_isWord_62
      · refine x_aload_n C 0 dX8_isWord_48 rfl rfl ?_
        refine x_get C (Nat.le_of_ble_eq_true rfl) xd_81 fl_X8_139 (q := (2, 3, 0)) (v := .long (τ 3)) rfl rfl dX8_isWord_49 ?_
        refine x_lload_n C 2 dX8_isWord_52 rfl rfl ?_
        refine x_lcmp C dX8_isWord_53 ?_
        refine x_if_ne C (tgt := 61) dX8_isWord_54 (by decide) (fun h3 => ?_) (fun h3 => ?_)
        · rw [xcmp_eq] at h3
          refine x_iconst C (v := 0) dX8_isWord_61 (by decide) ?_
          exact x_zret C (by rfl) (Eq.symm (if_neg (fun z => h3 (by rw [show k = xsLn.getD i 0 by omega]; exact z.2)))) rfl rfl dX8_isWord_62
        · rw [xcmp_eq] at h3
          refine x_iconst C (v := 1) dX8_isWord_57 (by decide) ?_
          refine x_goto2 C (tgt := 62) dX8_isWord_58 (by decide) ?_
          exact x_zret C (by rfl) (Eq.symm (if_pos ⟨h2, by rw [h3, show k = xsLn.getD i 0 by omega]; rfl⟩)) rfl rfl dX8_isWord_62
    | succ j ih =>
      intro k hk
      refine x_iload C 3 dX8_isWord_5 rfl ?_
      refine x_aload_n C 1 dX8_isWord_7 rfl rfl ?_
      refine x_callViS C (As := []) (rest := [.int (nI k)]) (c_Slen l E σ τ i hi) kv_X8_161 (x_recvS C (i := i) hi) ⟨Nat.le_of_ble_eq_true rfl, Nat.le_of_ble_eq_true rfl⟩ rfl rfl (Nat.le_of_ble_eq_true rfl) dX8_isWord_8 ?_
      refine x_icmp_ge C (tgt := 40) dX8_isWord_11 (by decide) (fun h4 => absurd (nI_lt (a := k) (b := xsLn.getD i 0) (by omega) (by omega)) h4) (fun h4 => ?_)
      refine x_ldc2 C dX8_isWord_14 kc_X8_155 ?_
      refine x_lload_n C 2 dX8_isWord_17 rfl rfl ?_
      refine x_lmul C dX8_isWord_18 ?_
      refine x_aload_n C 1 dX8_isWord_19 rfl rfl ?_
      refine x_iload C 3 dX8_isWord_20 rfl ?_
      refine x_callViS C (As := [.int (nI k)]) (rest := [.long (32 * (hsT (xch i) k))]) (c_Sch l E σ τ i k hi (by omega)) kv_X8_166 (x_recvS C (i := i) hi) ⟨Nat.le_of_ble_eq_true rfl, Nat.le_of_ble_eq_true rfl⟩ rfl rfl (Nat.le_of_ble_eq_true rfl) dX8_isWord_22 ?_
      refine x_i2l C dX8_isWord_25 ?_
      refine x_ladd C dX8_isWord_26 ?_
      refine x_ldc2 C dX8_isWord_27 kc_X8_157 ?_
      refine x_lsub C dX8_isWord_30 ?_
      refine x_lconst C (v := 1) dX8_isWord_31 (by decide) ?_
      refine x_ladd C dX8_isWord_32 ?_
      refine x_lstore_n C (lv1 := [(2, .long ((((32 * (hsT (xch i) k)) + (Int32.toInt64 (xch i k))) - 97) + 1)), (0, .ref (xad E (81))), (1, .ref (xsK E (i))), (4, .int (nI k))]) dX8_isWord_33 rfl (by decide) rfl ?_
      refine x_iinc C (v := nI (k + 1)) (lv1 := [(4, .int (nI (k + 1))), (2, .long ((((32 * (hsT (xch i) k)) + (Int32.toInt64 (xch i k))) - 97) + 1)), (0, .ref (xad E (81))), (1, .ref (xsK E (i)))]) 3 dX8_isWord_34 rfl (nI_add k 1) (by decide) rfl ?_
      refine x_goto2 C (tgt := 5) dX8_isWord_37 (by decide) ?_
      refine WM.keep [2, 3, 1, 0] (lv' := [(0, .ref (xad E (81))), (1, .ref (xsK E (i))), (2, .long ((((32 * (hsT (xch i) k)) + (Int32.toInt64 (xch i k))) - 97) + 1)), (4, .int (nI (k + 1)))]) rfl ?_
      exact WM.to (ih (k + 1) (by omega)) rfl rfl (by rw [show hsT (xch i) (k + 1) = 32 * hsT (xch i) k + Int32.toInt64 (xch i k) - 97 + 1 from if_pos (by omega)]) rfl
  refine WM.keep [2, 3, 1, 0] rfl ?_
  exact WM.to (loop (xsLn.getD i 0) 0 (by omega)) rfl rfl rfl rfl
set_option maxHeartbeats 4000000 in
set_option maxRecDepth 100000 in
theorem c_deed (l : Launch) (E : xE) (σ : Nat → Nat → Int32) (τ : Nat → Int64) : xMi l yX8_deed cX8_deed 1 .int 5 109 E [.ref (xad E (81))] (σ) (τ) (wvN (drQ (σ 17 4) (τ 3)) 13) (σ) (τ) := by
  refine xMi_of (own := RX8) (by decide +kernel) rfl (Nat.le_of_ble_eq_true rfl) ?_
  intro zp ze zs zm za zb zh zc C
  refine WM.to (lv1 := [(0, .ref (xad E (81)))]) (st1 := []) (σ1 := σ) (τ1 := τ) ?_ rfl rfl rfl rfl
  refine x_aload_n C 0 dX8_deed_0 rfl rfl ?_
  refine x_ldcS C (i := 0) (by decide) dX8_deed_1 (List.mem_of_getElem? (i := 1050) (by decide +kernel)) ?_
  refine x_callVi C (As := [.ref (xsK E (0))]) (rest := []) (c_isWord l E σ τ 0 (by decide)) kv_X8_172 (x_recv C (Nat.le_of_ble_eq_true rfl) xd_81 rfl) ⟨Nat.le_of_ble_eq_true rfl, Nat.le_of_ble_eq_true rfl⟩ rfl rfl (Nat.le_of_ble_eq_true rfl) dX8_deed_3 ?_
  refine x_ifneB C (tgt := 18) dX8_deed_6 (by decide) (fun h1 => ?_) (fun h1 => ?_)
  · refine x_aload_n C 0 dX8_deed_18 rfl rfl ?_
    refine x_ldcS C (i := 0) (by decide) dX8_deed_19 (List.mem_of_getElem? (i := 1050) (by decide +kernel)) ?_
    refine x_callVi C (As := [.ref (xsK E (0))]) (rest := []) (c_isWord l E σ τ 0 (by decide)) kv_X8_172 (x_recv C (Nat.le_of_ble_eq_true rfl) xd_81 rfl) ⟨Nat.le_of_ble_eq_true rfl, Nat.le_of_ble_eq_true rfl⟩ rfl rfl (Nat.le_of_ble_eq_true rfl) dX8_deed_21 ?_
    refine x_ifeqB C (tgt := 31) dX8_deed_24 (by decide) (fun h2 => ?_) (fun h2 => ?_)
    · refine x_iconst C (v := 1) dX8_deed_31 (by decide) ?_
      exact x_iret C (absurd h1 h2) rfl rfl dX8_deed_32
    · refine x_iconst C (v := 0) dX8_deed_27 (by decide) ?_
      refine x_goto2 C (tgt := 32) dX8_deed_28 (by decide) ?_
      exact x_iret C (dr_at (i := 0) (by decide) h1) rfl rfl dX8_deed_32
  · refine x_aload_n C 0 dX8_deed_9 rfl rfl ?_
    refine x_ldcS C (i := 1) (by decide) dX8_deed_10 (List.mem_of_getElem? (i := 1057) (by decide +kernel)) ?_
    refine x_callVi C (As := [.ref (xsK E (1))]) (rest := []) (c_isWord l E σ τ 1 (by decide)) kv_X8_172 (x_recv C (Nat.le_of_ble_eq_true rfl) xd_81 rfl) ⟨Nat.le_of_ble_eq_true rfl, Nat.le_of_ble_eq_true rfl⟩ rfl rfl (Nat.le_of_ble_eq_true rfl) dX8_deed_12 ?_
    refine x_ifeqB C (tgt := 33) dX8_deed_15 (by decide) (fun h3 => ?_) (fun h3 => ?_)
    · refine x_aload_n C 0 dX8_deed_33 rfl rfl ?_
      refine x_ldcS C (i := 2) (by decide) dX8_deed_34 (List.mem_of_getElem? (i := 1058) (by decide +kernel)) ?_
      refine x_callVi C (As := [.ref (xsK E (2))]) (rest := []) (c_isWord l E σ τ 2 (by decide)) kv_X8_172 (x_recv C (Nat.le_of_ble_eq_true rfl) xd_81 rfl) ⟨Nat.le_of_ble_eq_true rfl, Nat.le_of_ble_eq_true rfl⟩ rfl rfl (Nat.le_of_ble_eq_true rfl) dX8_deed_36 ?_
      refine x_ifneB C (tgt := 51) dX8_deed_39 (by decide) (fun h4 => ?_) (fun h4 => ?_)
      · refine x_aload_n C 0 dX8_deed_51 rfl rfl ?_
        refine x_ldcS C (i := 3) (by decide) dX8_deed_52 (List.mem_of_getElem? (i := 1059) (by decide +kernel)) ?_
        refine x_callVi C (As := [.ref (xsK E (3))]) (rest := []) (c_isWord l E σ τ 3 (by decide)) kv_X8_172 (x_recv C (Nat.le_of_ble_eq_true rfl) xd_81 rfl) ⟨Nat.le_of_ble_eq_true rfl, Nat.le_of_ble_eq_true rfl⟩ rfl rfl (Nat.le_of_ble_eq_true rfl) dX8_deed_54 ?_
        refine x_ifeqB C (tgt := 64) dX8_deed_57 (by decide) (fun h5 => ?_) (fun h5 => ?_)
        · refine x_iconst C (v := 2) dX8_deed_64 (by decide) ?_
          exact x_iret C (dr_at (i := 2) (by decide) h4) rfl rfl dX8_deed_65
        · refine x_iconst C (v := 3) dX8_deed_60 (by decide) ?_
          refine x_goto2 C (tgt := 65) dX8_deed_61 (by decide) ?_
          exact x_iret C (dr_at (i := 3) (by decide) h5) rfl rfl dX8_deed_65
      · refine x_aload_n C 0 dX8_deed_42 rfl rfl ?_
        refine x_ldcS C (i := 3) (by decide) dX8_deed_43 (List.mem_of_getElem? (i := 1059) (by decide +kernel)) ?_
        refine x_callVi C (As := [.ref (xsK E (3))]) (rest := []) (c_isWord l E σ τ 3 (by decide)) kv_X8_172 (x_recv C (Nat.le_of_ble_eq_true rfl) xd_81 rfl) ⟨Nat.le_of_ble_eq_true rfl, Nat.le_of_ble_eq_true rfl⟩ rfl rfl (Nat.le_of_ble_eq_true rfl) dX8_deed_45 ?_
        refine x_ifeqB C (tgt := 66) dX8_deed_48 (by decide) (fun h6 => ?_) (fun h6 => ?_)
        · refine x_aload_n C 0 dX8_deed_66 rfl rfl ?_
          refine x_ldcS C (i := 4) (by decide) dX8_deed_67 (List.mem_of_getElem? (i := 1060) (by decide +kernel)) ?_
          refine x_callVi C (As := [.ref (xsK E (4))]) (rest := []) (c_isWord l E σ τ 4 (by decide)) kv_X8_172 (x_recv C (Nat.le_of_ble_eq_true rfl) xd_81 rfl) ⟨Nat.le_of_ble_eq_true rfl, Nat.le_of_ble_eq_true rfl⟩ rfl rfl (Nat.le_of_ble_eq_true rfl) dX8_deed_69 ?_
          refine x_ifneB C (tgt := 84) dX8_deed_72 (by decide) (fun h7 => ?_) (fun h7 => ?_)
          · refine x_aload_n C 0 dX8_deed_84 rfl rfl ?_
            refine x_ldcS C (i := 4) (by decide) dX8_deed_85 (List.mem_of_getElem? (i := 1060) (by decide +kernel)) ?_
            refine x_callVi C (As := [.ref (xsK E (4))]) (rest := []) (c_isWord l E σ τ 4 (by decide)) kv_X8_172 (x_recv C (Nat.le_of_ble_eq_true rfl) xd_81 rfl) ⟨Nat.le_of_ble_eq_true rfl, Nat.le_of_ble_eq_true rfl⟩ rfl rfl (Nat.le_of_ble_eq_true rfl) dX8_deed_87 ?_
            refine x_ifeqB C (tgt := 97) dX8_deed_90 (by decide) (fun h8 => ?_) (fun h8 => ?_)
            · refine x_iconst C (v := 5) dX8_deed_97 (by decide) ?_
              exact x_iret C (absurd h7 h8) rfl rfl dX8_deed_98
            · refine x_iconst C (v := 4) dX8_deed_93 (by decide) ?_
              refine x_goto2 C (tgt := 98) dX8_deed_94 (by decide) ?_
              exact x_iret C (dr_at (i := 4) (by decide) h7) rfl rfl dX8_deed_98
          · refine x_aload_n C 0 dX8_deed_75 rfl rfl ?_
            refine x_ldcS C (i := 5) (by decide) dX8_deed_76 (List.mem_of_getElem? (i := 1061) (by decide +kernel)) ?_
            refine x_callVi C (As := [.ref (xsK E (5))]) (rest := []) (c_isWord l E σ τ 5 (by decide)) kv_X8_172 (x_recv C (Nat.le_of_ble_eq_true rfl) xd_81 rfl) ⟨Nat.le_of_ble_eq_true rfl, Nat.le_of_ble_eq_true rfl⟩ rfl rfl (Nat.le_of_ble_eq_true rfl) dX8_deed_78 ?_
            refine x_ifeqB C (tgt := 99) dX8_deed_81 (by decide) (fun h9 => ?_) (fun h9 => ?_)
            · refine x_aload_n C 0 dX8_deed_99 rfl rfl ?_
              refine x_ldcS C (i := 6) (by decide) dX8_deed_100 (List.mem_of_getElem? (i := 1062) (by decide +kernel)) ?_
              refine x_callVi C (As := [.ref (xsK E (6))]) (rest := []) (c_isWord l E σ τ 6 (by decide)) kv_X8_172 (x_recv C (Nat.le_of_ble_eq_true rfl) xd_81 rfl) ⟨Nat.le_of_ble_eq_true rfl, Nat.le_of_ble_eq_true rfl⟩ rfl rfl (Nat.le_of_ble_eq_true rfl) dX8_deed_102 ?_
              refine x_ifneB C (tgt := 117) dX8_deed_105 (by decide) (fun h10 => ?_) (fun h10 => ?_)
              · refine x_aload_n C 0 dX8_deed_117 rfl rfl ?_
                refine x_ldcS C (i := 7) (by decide) dX8_deed_118 (List.mem_of_getElem? (i := 1063) (by decide +kernel)) ?_
                refine x_callVi C (As := [.ref (xsK E (7))]) (rest := []) (c_isWord l E σ τ 7 (by decide)) kv_X8_172 (x_recv C (Nat.le_of_ble_eq_true rfl) xd_81 rfl) ⟨Nat.le_of_ble_eq_true rfl, Nat.le_of_ble_eq_true rfl⟩ rfl rfl (Nat.le_of_ble_eq_true rfl) dX8_deed_120 ?_
                refine x_ifeqB C (tgt := 131) dX8_deed_123 (by decide) (fun h11 => ?_) (fun h11 => ?_)
                · refine x_bipush C (v := 6) dX8_deed_131 (by decide) ?_
                  exact x_iret C (dr_at (i := 6) (by decide) h10) rfl rfl dX8_deed_133
                · refine x_bipush C (v := 7) dX8_deed_126 (by decide) ?_
                  refine x_goto2 C (tgt := 133) dX8_deed_128 (by decide) ?_
                  exact x_iret C (dr_at (i := 7) (by decide) h11) rfl rfl dX8_deed_133
              · refine x_aload_n C 0 dX8_deed_108 rfl rfl ?_
                refine x_ldcS C (i := 7) (by decide) dX8_deed_109 (List.mem_of_getElem? (i := 1063) (by decide +kernel)) ?_
                refine x_callVi C (As := [.ref (xsK E (7))]) (rest := []) (c_isWord l E σ τ 7 (by decide)) kv_X8_172 (x_recv C (Nat.le_of_ble_eq_true rfl) xd_81 rfl) ⟨Nat.le_of_ble_eq_true rfl, Nat.le_of_ble_eq_true rfl⟩ rfl rfl (Nat.le_of_ble_eq_true rfl) dX8_deed_111 ?_
                refine x_ifeqB C (tgt := 134) dX8_deed_114 (by decide) (fun h12 => ?_) (fun h12 => ?_)
                · refine x_aload_n C 0 dX8_deed_134 rfl rfl ?_
                  refine x_ldcS C (i := 8) (by decide) dX8_deed_135 (List.mem_of_getElem? (i := 1064) (by decide +kernel)) ?_
                  refine x_callVi C (As := [.ref (xsK E (8))]) (rest := []) (c_isWord l E σ τ 8 (by decide)) kv_X8_172 (x_recv C (Nat.le_of_ble_eq_true rfl) xd_81 rfl) ⟨Nat.le_of_ble_eq_true rfl, Nat.le_of_ble_eq_true rfl⟩ rfl rfl (Nat.le_of_ble_eq_true rfl) dX8_deed_137 ?_
                  refine x_ifneB C (tgt := 152) dX8_deed_140 (by decide) (fun h13 => ?_) (fun h13 => ?_)
                  · refine x_aload_n C 0 dX8_deed_152 rfl rfl ?_
                    refine x_ldcS C (i := 9) (by decide) dX8_deed_153 (List.mem_of_getElem? (i := 1065) (by decide +kernel)) ?_
                    refine x_callVi C (As := [.ref (xsK E (9))]) (rest := []) (c_isWord l E σ τ 9 (by decide)) kv_X8_172 (x_recv C (Nat.le_of_ble_eq_true rfl) xd_81 rfl) ⟨Nat.le_of_ble_eq_true rfl, Nat.le_of_ble_eq_true rfl⟩ rfl rfl (Nat.le_of_ble_eq_true rfl) dX8_deed_155 ?_
                    refine x_ifeqB C (tgt := 166) dX8_deed_158 (by decide) (fun h14 => ?_) (fun h14 => ?_)
                    · refine x_bipush C (v := 8) dX8_deed_166 (by decide) ?_
                      exact x_iret C (dr_at (i := 8) (by decide) h13) rfl rfl dX8_deed_168
                    · refine x_bipush C (v := 9) dX8_deed_161 (by decide) ?_
                      refine x_goto2 C (tgt := 168) dX8_deed_163 (by decide) ?_
                      exact x_iret C (dr_at (i := 9) (by decide) h14) rfl rfl dX8_deed_168
                  · refine x_aload_n C 0 dX8_deed_143 rfl rfl ?_
                    refine x_ldcS C (i := 9) (by decide) dX8_deed_144 (List.mem_of_getElem? (i := 1065) (by decide +kernel)) ?_
                    refine x_callVi C (As := [.ref (xsK E (9))]) (rest := []) (c_isWord l E σ τ 9 (by decide)) kv_X8_172 (x_recv C (Nat.le_of_ble_eq_true rfl) xd_81 rfl) ⟨Nat.le_of_ble_eq_true rfl, Nat.le_of_ble_eq_true rfl⟩ rfl rfl (Nat.le_of_ble_eq_true rfl) dX8_deed_146 ?_
                    refine x_ifeqB C (tgt := 169) dX8_deed_149 (by decide) (fun h15 => ?_) (fun h15 => ?_)
                    · refine x_aload_n C 0 dX8_deed_169 rfl rfl ?_
                      refine x_ldcS C (i := 10) (by decide) dX8_deed_170 (List.mem_of_getElem? (i := 1066) (by decide +kernel)) ?_
                      refine x_callVi C (As := [.ref (xsK E (10))]) (rest := []) (c_isWord l E σ τ 10 (by decide)) kv_X8_172 (x_recv C (Nat.le_of_ble_eq_true rfl) xd_81 rfl) ⟨Nat.le_of_ble_eq_true rfl, Nat.le_of_ble_eq_true rfl⟩ rfl rfl (Nat.le_of_ble_eq_true rfl) dX8_deed_172 ?_
                      refine x_ifeqB C (tgt := 183) dX8_deed_175 (by decide) (fun h16 => ?_) (fun h16 => ?_)
                      · refine x_aload_n C 0 dX8_deed_183 rfl rfl ?_
                        refine x_ldcS C (i := 11) (by decide) dX8_deed_184 (List.mem_of_getElem? (i := 1067) (by decide +kernel)) ?_
                        refine x_callVi C (As := [.ref (xsK E (11))]) (rest := []) (c_isWord l E σ τ 11 (by decide)) kv_X8_172 (x_recv C (Nat.le_of_ble_eq_true rfl) xd_81 rfl) ⟨Nat.le_of_ble_eq_true rfl, Nat.le_of_ble_eq_true rfl⟩ rfl rfl (Nat.le_of_ble_eq_true rfl) dX8_deed_186 ?_
                        refine x_ifeqB C (tgt := 197) dX8_deed_189 (by decide) (fun h17 => ?_) (fun h17 => ?_)
                        · refine x_aload_n C 0 dX8_deed_197 rfl rfl ?_
                          refine x_ldcS C (i := 12) (by decide) dX8_deed_198 (List.mem_of_getElem? (i := 1068) (by decide +kernel)) ?_
                          refine x_callVi C (As := [.ref (xsK E (12))]) (rest := []) (c_isWord l E σ τ 12 (by decide)) kv_X8_172 (x_recv C (Nat.le_of_ble_eq_true rfl) xd_81 rfl) ⟨Nat.le_of_ble_eq_true rfl, Nat.le_of_ble_eq_true rfl⟩ rfl rfl (Nat.le_of_ble_eq_true rfl) dX8_deed_200 ?_
                          refine x_ifeqB C (tgt := 211) dX8_deed_203 (by decide) (fun h18 => ?_) (fun h18 => ?_)
                          · refine x_iconst C (v := -1) dX8_deed_211 (by decide) ?_
                            exact x_iret C (dr_no h1 h3 h4 h6 h7 h9 h10 h12 h13 h15 h16 h17 h18) rfl rfl dX8_deed_212
                          · refine x_bipush C (v := 12) dX8_deed_206 (by decide) ?_
                            refine x_goto2 C (tgt := 212) dX8_deed_208 (by decide) ?_
                            exact x_iret C (dr_at (i := 12) (by decide) h18) rfl rfl dX8_deed_212
                        · refine x_bipush C (v := 11) dX8_deed_192 (by decide) ?_
                          refine x_goto2 C (tgt := 212) dX8_deed_194 (by decide) ?_
                          exact x_iret C (dr_at (i := 11) (by decide) h17) rfl rfl dX8_deed_212
                      · refine x_bipush C (v := 10) dX8_deed_178 (by decide) ?_
                        refine x_goto2 C (tgt := 212) dX8_deed_180 (by decide) ?_
                        exact x_iret C (dr_at (i := 10) (by decide) h16) rfl rfl dX8_deed_212
                    · refine x_aload_n C 0 dX8_deed_152 rfl rfl ?_
                      refine x_ldcS C (i := 9) (by decide) dX8_deed_153 (List.mem_of_getElem? (i := 1065) (by decide +kernel)) ?_
                      refine x_callVi C (As := [.ref (xsK E (9))]) (rest := []) (c_isWord l E σ τ 9 (by decide)) kv_X8_172 (x_recv C (Nat.le_of_ble_eq_true rfl) xd_81 rfl) ⟨Nat.le_of_ble_eq_true rfl, Nat.le_of_ble_eq_true rfl⟩ rfl rfl (Nat.le_of_ble_eq_true rfl) dX8_deed_155 ?_
                      refine x_ifeqB C (tgt := 166) dX8_deed_158 (by decide) (fun h19 => ?_) (fun h19 => ?_)
                      · refine x_bipush C (v := 8) dX8_deed_166 (by decide) ?_
                        exact x_iret C (absurd h15 h19) rfl rfl dX8_deed_168
                      · refine x_bipush C (v := 9) dX8_deed_161 (by decide) ?_
                        refine x_goto2 C (tgt := 168) dX8_deed_163 (by decide) ?_
                        exact x_iret C (dr_at (i := 9) (by decide) h15) rfl rfl dX8_deed_168
                · refine x_aload_n C 0 dX8_deed_117 rfl rfl ?_
                  refine x_ldcS C (i := 7) (by decide) dX8_deed_118 (List.mem_of_getElem? (i := 1063) (by decide +kernel)) ?_
                  refine x_callVi C (As := [.ref (xsK E (7))]) (rest := []) (c_isWord l E σ τ 7 (by decide)) kv_X8_172 (x_recv C (Nat.le_of_ble_eq_true rfl) xd_81 rfl) ⟨Nat.le_of_ble_eq_true rfl, Nat.le_of_ble_eq_true rfl⟩ rfl rfl (Nat.le_of_ble_eq_true rfl) dX8_deed_120 ?_
                  refine x_ifeqB C (tgt := 131) dX8_deed_123 (by decide) (fun h20 => ?_) (fun h20 => ?_)
                  · refine x_bipush C (v := 6) dX8_deed_131 (by decide) ?_
                    exact x_iret C (absurd h12 h20) rfl rfl dX8_deed_133
                  · refine x_bipush C (v := 7) dX8_deed_126 (by decide) ?_
                    refine x_goto2 C (tgt := 133) dX8_deed_128 (by decide) ?_
                    exact x_iret C (dr_at (i := 7) (by decide) h12) rfl rfl dX8_deed_133
            · refine x_aload_n C 0 dX8_deed_84 rfl rfl ?_
              refine x_ldcS C (i := 4) (by decide) dX8_deed_85 (List.mem_of_getElem? (i := 1060) (by decide +kernel)) ?_
              refine x_callVi C (As := [.ref (xsK E (4))]) (rest := []) (c_isWord l E σ τ 4 (by decide)) kv_X8_172 (x_recv C (Nat.le_of_ble_eq_true rfl) xd_81 rfl) ⟨Nat.le_of_ble_eq_true rfl, Nat.le_of_ble_eq_true rfl⟩ rfl rfl (Nat.le_of_ble_eq_true rfl) dX8_deed_87 ?_
              refine x_ifeqB C (tgt := 97) dX8_deed_90 (by decide) (fun h21 => ?_) (fun h21 => ?_)
              · refine x_iconst C (v := 5) dX8_deed_97 (by decide) ?_
                exact x_iret C (dr_at (i := 5) (by decide) h9) rfl rfl dX8_deed_98
              · refine x_iconst C (v := 4) dX8_deed_93 (by decide) ?_
                refine x_goto2 C (tgt := 98) dX8_deed_94 (by decide) ?_
                exact x_iret C (absurd h21 h7) rfl rfl dX8_deed_98
        · refine x_aload_n C 0 dX8_deed_51 rfl rfl ?_
          refine x_ldcS C (i := 3) (by decide) dX8_deed_52 (List.mem_of_getElem? (i := 1059) (by decide +kernel)) ?_
          refine x_callVi C (As := [.ref (xsK E (3))]) (rest := []) (c_isWord l E σ τ 3 (by decide)) kv_X8_172 (x_recv C (Nat.le_of_ble_eq_true rfl) xd_81 rfl) ⟨Nat.le_of_ble_eq_true rfl, Nat.le_of_ble_eq_true rfl⟩ rfl rfl (Nat.le_of_ble_eq_true rfl) dX8_deed_54 ?_
          refine x_ifeqB C (tgt := 64) dX8_deed_57 (by decide) (fun h22 => ?_) (fun h22 => ?_)
          · refine x_iconst C (v := 2) dX8_deed_64 (by decide) ?_
            exact x_iret C (absurd h6 h22) rfl rfl dX8_deed_65
          · refine x_iconst C (v := 3) dX8_deed_60 (by decide) ?_
            refine x_goto2 C (tgt := 65) dX8_deed_61 (by decide) ?_
            exact x_iret C (dr_at (i := 3) (by decide) h6) rfl rfl dX8_deed_65
    · refine x_aload_n C 0 dX8_deed_18 rfl rfl ?_
      refine x_ldcS C (i := 0) (by decide) dX8_deed_19 (List.mem_of_getElem? (i := 1050) (by decide +kernel)) ?_
      refine x_callVi C (As := [.ref (xsK E (0))]) (rest := []) (c_isWord l E σ τ 0 (by decide)) kv_X8_172 (x_recv C (Nat.le_of_ble_eq_true rfl) xd_81 rfl) ⟨Nat.le_of_ble_eq_true rfl, Nat.le_of_ble_eq_true rfl⟩ rfl rfl (Nat.le_of_ble_eq_true rfl) dX8_deed_21 ?_
      refine x_ifeqB C (tgt := 31) dX8_deed_24 (by decide) (fun h23 => ?_) (fun h23 => ?_)
      · refine x_iconst C (v := 1) dX8_deed_31 (by decide) ?_
        exact x_iret C (dr_at (i := 1) (by decide) h3) rfl rfl dX8_deed_32
      · refine x_iconst C (v := 0) dX8_deed_27 (by decide) ?_
        refine x_goto2 C (tgt := 32) dX8_deed_28 (by decide) ?_
        exact x_iret C (absurd h23 h1) rfl rfl dX8_deed_32
set_option maxHeartbeats 4000000 in
set_option maxRecDepth 100000 in
theorem c_leastOf (l : Launch) (E : xE) (σ : Nat → Nat → Int32) (τ : Nat → Int64) (k : Nat) (hk : k < 13) : xMi l yX8_leastOf cX8_leastOf 1 .int 0 0 E [.int (nI k)] (σ) (τ) ((xzl 2).getD k 0) (σ) (τ) := by
  refine xMi_of (own := RX8) (by decide +kernel) rfl (Nat.le_of_ble_eq_true rfl) ?_
  intro zp ze zs zm za zb zh zc C
  refine WM.to (lv1 := [(0, .int (nI k))]) (st1 := []) (σ1 := σ) (τ1 := τ) ?_ rfl rfl rfl rfl
  refine x_iload_n C 0 dX8_leastOf_0 rfl rfl ?_
  refine x_bipush C (v := 10) dX8_leastOf_1 (by decide) ?_
  refine x_icmp_eq C (tgt := 12) dX8_leastOf_3 (by decide) (fun h1 => ?_) (fun h1 => ?_)
  · refine x_iconst C (v := 1) dX8_leastOf_12 (by decide) ?_
    refine x_goto2 C (tgt := 17) dX8_leastOf_13 (by decide) ?_
    exact x_iret C ((by decide +kernel : ∀ k : Nat, k < 13 → (nI k = 10) → (1 : Int32) = (xzl 2).getD k 0) k hk h1) rfl rfl dX8_leastOf_17
  · refine x_iload_n C 0 dX8_leastOf_6 rfl rfl ?_
    refine x_bipush C (v := 12) dX8_leastOf_7 (by decide) ?_
    refine x_icmp_ne C (tgt := 16) dX8_leastOf_9 (by decide) (fun h2 => ?_) (fun h2 => ?_)
    · refine x_iconst C (v := 0) dX8_leastOf_16 (by decide) ?_
      exact x_iret C ((by decide +kernel : ∀ k : Nat, k < 13 → (¬ nI k = 10) → (¬ nI k = 12) → (0 : Int32) = (xzl 2).getD k 0) k hk h1 h2) rfl rfl dX8_leastOf_17
    · refine x_iconst C (v := 1) dX8_leastOf_12 (by decide) ?_
      refine x_goto2 C (tgt := 17) dX8_leastOf_13 (by decide) ?_
      exact x_iret C ((by decide +kernel : ∀ k : Nat, k < 13 → (¬ nI k = 10) → (nI k = 12) → (1 : Int32) = (xzl 2).getD k 0) k hk h1 h2) rfl rfl dX8_leastOf_17
set_option maxHeartbeats 4000000 in
set_option maxRecDepth 100000 in
theorem c_mostOf (l : Launch) (E : xE) (σ : Nat → Nat → Int32) (τ : Nat → Int64) (k : Nat) (hk : k < 13) : xMi l yX8_mostOf cX8_mostOf 1 .int 0 0 E [.int (nI k)] (σ) (τ) ((xzl 3).getD k 0) (σ) (τ) := by
  refine xMi_of (own := RX8) (by decide +kernel) rfl (Nat.le_of_ble_eq_true rfl) ?_
  intro zp ze zs zm za zb zh zc C
  refine WM.to (lv1 := [(0, .int (nI k))]) (st1 := []) (σ1 := σ) (τ1 := τ) ?_ rfl rfl rfl rfl
  refine x_iload_n C 0 dX8_mostOf_0 rfl rfl ?_
  refine x_bipush C (v := 7) dX8_mostOf_1 (by decide) ?_
  refine x_icmp_ge C (tgt := 11) dX8_mostOf_3 (by decide) (fun h1 => ?_) (fun h1 => ?_)
  · refine x_iload_n C 0 dX8_mostOf_11 rfl rfl ?_
    refine x_bipush C (v := 11) dX8_mostOf_12 (by decide) ?_
    refine x_icmp_ne C (tgt := 23) dX8_mostOf_14 (by decide) (fun h2 => ?_) (fun h2 => ?_)
    · refine x_iload_n C 0 dX8_mostOf_23 rfl rfl ?_
      refine x_bipush C (v := 12) dX8_mostOf_24 (by decide) ?_
      refine x_icmp_ne C (tgt := 34) dX8_mostOf_26 (by decide) (fun h3 => ?_) (fun h3 => ?_)
      · refine x_bipush C (v := 99) dX8_mostOf_34 (by decide) ?_
        exact x_iret C ((by decide +kernel : ∀ k : Nat, k < 13 → (¬ nI k < 7) → (¬ nI k = 11) → (¬ nI k = 12) → (99 : Int32) = (xzl 3).getD k 0) k hk h1 h2 h3) rfl rfl dX8_mostOf_36
      · refine x_bipush C (v := 50) dX8_mostOf_29 (by decide) ?_
        refine x_goto2 C (tgt := 36) dX8_mostOf_31 (by decide) ?_
        exact x_iret C ((by decide +kernel : ∀ k : Nat, k < 13 → (¬ nI k < 7) → (¬ nI k = 11) → (nI k = 12) → (50 : Int32) = (xzl 3).getD k 0) k hk h1 h2 h3) rfl rfl dX8_mostOf_36
    · refine x_sipush C (v := 200) dX8_mostOf_17 (by decide) ?_
      refine x_goto2 C (tgt := 36) dX8_mostOf_20 (by decide) ?_
      exact x_iret C ((by decide +kernel : ∀ k : Nat, k < 13 → (¬ nI k < 7) → (nI k = 11) → (200 : Int32) = (xzl 3).getD k 0) k hk h1 h2) rfl rfl dX8_mostOf_36
  · refine x_bipush C (v := 11) dX8_mostOf_6 (by decide) ?_
    refine x_goto2 C (tgt := 36) dX8_mostOf_8 (by decide) ?_
    exact x_iret C ((by decide +kernel : ∀ k : Nat, k < 13 → (nI k < 7) → (11 : Int32) = (xzl 3).getD k 0) k hk h1) rfl rfl dX8_mostOf_36
set_option maxHeartbeats 4000000 in
set_option maxRecDepth 100000 in
theorem c_must1 (l : Launch) (E : xE) (σ : Nat → Nat → Int32) (τ : Nat → Int64) (hw : σ 17 6 = 0) : xMv l yX8_must cX8_must 2 0 0 E [.ref (xad E (81)), .int (1)] (σ) (τ) (σ) (τ) := by
  refine xMv_of (own := RX8) (by decide +kernel) rfl (Nat.le_of_ble_eq_true rfl) ?_
  intro zp ze zs zm za zb zh zc C
  refine WM.to (lv1 := [(0, .ref (xad E (81))), (1, .int (1))]) (st1 := []) (σ1 := σ) (τ1 := τ) ?_ rfl rfl rfl rfl
  refine x_aload_n C 0 dX8_must_0 rfl rfl ?_
  refine x_aload_n C 0 dX8_must_1 rfl rfl ?_
  refine x_get C (Nat.le_of_ble_eq_true rfl) xd_81 fl_X8_200 (q := (1, 17, 6)) (v := .int (0)) rfl (congrArg Value.int hw) dX8_must_2 ?_
  refine x_if_ne C (tgt := 12) dX8_must_5 (by decide) (fun h1 => absurd h1 (by decide)) (fun h1 => ?_)
  refine x_iload_n C 1 dX8_must_8 rfl rfl ?_
  refine x_if_ne C (tgt := 16) dX8_must_9 (by decide) (fun h2 => ?_) (fun h2 => absurd h2 (by decide))
  refine x_iconst C (v := 0) dX8_must_16 (by decide) ?_
  refine x_put C (σ' := u2 σ 17 6 (0)) (Nat.le_of_ble_eq_true rfl) xd_81 fp_X8_200 rfl rfl (by rfl) rfl dX8_must_17 ?_
  exact x_vret C (u2_self hw).symm rfl dX8_must_20
set_option maxHeartbeats 4000000 in
set_option maxRecDepth 100000 in
theorem c_must0 (l : Launch) (E : xE) (σ : Nat → Nat → Int32) (τ : Nat → Int64) : xMv l yX8_must cX8_must 2 0 0 E [.ref (xad E (81)), .int (0)] (σ) (τ) (u2 σ 17 6 1) (τ) := by
  refine xMv_of (own := RX8) (by decide +kernel) rfl (Nat.le_of_ble_eq_true rfl) ?_
  intro zp ze zs zm za zb zh zc C
  refine WM.to (lv1 := [(0, .ref (xad E (81))), (1, .int (0))]) (st1 := []) (σ1 := σ) (τ1 := τ) ?_ rfl rfl rfl rfl
  refine x_aload_n C 0 dX8_must_0 rfl rfl ?_
  refine x_aload_n C 0 dX8_must_1 rfl rfl ?_
  refine x_get C (Nat.le_of_ble_eq_true rfl) xd_81 fl_X8_200 (q := (1, 17, 6)) (v := .int (σ 17 6)) rfl rfl dX8_must_2 ?_
  refine x_if_ne C (tgt := 12) dX8_must_5 (by decide) (fun h1 => ?_) (fun h1 => ?_)
  · refine x_iconst C (v := 1) dX8_must_12 (by decide) ?_
    refine x_goto2 C (tgt := 17) dX8_must_13 (by decide) ?_
    refine x_put C (σ' := u2 σ 17 6 (1)) (Nat.le_of_ble_eq_true rfl) xd_81 fp_X8_200 rfl rfl (by rfl) rfl dX8_must_17 ?_
    exact x_vret C rfl rfl dX8_must_20
  · refine x_iload_n C 1 dX8_must_8 rfl rfl ?_
    refine x_if_ne C (tgt := 16) dX8_must_9 (by decide) (fun h2 => absurd h2 (by decide)) (fun h2 => ?_)
    refine x_iconst C (v := 1) dX8_must_12 (by decide) ?_
    refine x_goto2 C (tgt := 17) dX8_must_13 (by decide) ?_
    refine x_put C (σ' := u2 σ 17 6 (1)) (Nat.le_of_ble_eq_true rfl) xd_81 fp_X8_200 rfl rfl (by rfl) rfl dX8_must_17 ?_
    exact x_vret C rfl rfl dX8_must_20
