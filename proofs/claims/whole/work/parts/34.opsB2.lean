/-! operations: what holds, what chance does -/
theorem steps_mono {g : Nat → Int32} {T : Nat} (hT : gT g T) {m : Nat} : ∀ d, T + (m + d) < 2147483647 → (stepsG g m 10).toInt ≤ (stepsG g (m + d) 10).toInt
  | 0, _ => Int.le_refl _
  | d + 1, h => by
    have h1 := steps_mono hT (m := m) d (by omega)
    have h2 := gT_steps hT (m + d) (by omega)
    have h3 : stepsG g (m + (d + 1)) = stepG (stepsG g (m + d)) := rfl
    rw [h3, step_10]
    split
    · have e1 : (1 : Int32).toInt = 1 := by decide
      have h4 := h2.1
      have h5 := h2.2
      rw [tI_add (by omega) (by omega)]
      omega
    · exact h1
abbrev heldQ (g : Nat → Int32) (y : Int32) (i : Nat) : Prop := ¬ stepsG (touchG g y) (i + 1) 10 = g 10
def heldRun (g : Nat → Int32) (y : Int32) (n : Nat) : Nat → Int32 := stepsG (touchG g y) (min (firstN (heldQ g y) n + 1) n)
theorem held_y {g : Nat → Int32} {y : Int32} {n : Nat} (h : ∀ i, i < n → ¬ heldQ g y i) (h1 : 1 ≤ n) : stepsG (touchG g y) n 10 = g 10 := by
  have h2 := h (n - 1) (by omega)
  unfold heldQ at h2
  rw [show n - 1 + 1 = n by omega] at h2
  exact Decidable.not_not.mp h2
theorem held_n {g : Nat → Int32} {y : Int32} {n T k : Nat} (hT : gT g T) (hn : T + n < 2147483647) (hk : k < n) (h : heldQ g y k) : ¬ stepsG (touchG g y) n 10 = g 10 := by
  intro e
  have hT2 := gT_touch hT y
  have h1 := steps_mono hT2 (m := 0) (k + 1) (by omega)
  have h2 := steps_mono hT2 (m := k + 1) (n - (k + 1)) (by omega)
  rw [show k + 1 + (n - (k + 1)) = n by omega, e] at h2
  rw [show 0 + (k + 1) = k + 1 by omega, show stepsG (touchG g y) 0 10 = g 10 from touch_10 g y] at h1
  exact h (tI_eq.mpr (by omega))
theorem heldRun_n {g : Nat → Int32} {y : Int32} {n k : Nat} (h : ∀ i, i < k → ¬ heldQ g y i) (hk : k < n) (hq : heldQ g y k) : stepG (stepsG (touchG g y) k) = heldRun g y n := by
  unfold heldRun
  rw [first_at h hq n hk, Nat.min_eq_left (by omega)]
  rfl
theorem heldRun_y {g : Nat → Int32} {y : Int32} {n k : Nat} (h : ∀ i, i < k → ¬ heldQ g y i) (hk : k = n) : stepsG (touchG g y) k = heldRun g y n := by
  subst hk
  unfold heldRun
  rw [first_no k h, Nat.min_eq_right (by omega)]
def byK (k : Nat) : Int32 := if k % 2 = 1 then nI ((k + 1) / 2) else -nI (k / 2)
def holdS (q : Nat) (s : xV) : Int32 × xV := if firstN (fun k => stepsG (touchG (s 0) (byK k)) q 10 = s 0 10) 101 < 101 then (byK (firstN (fun k => stepsG (touchG (s 0) (byK k)) q 10 = s 0 10) 101), s) else noneF s
def sp_holds (n : Int32) (s : xV) : Int32 × xV := if rng n 1 400 then holdS n.toNatClampNeg s else bad s
abbrev holdQ (g : Nat → Int32) (q k : Nat) : Prop := stepsG (touchG g (byK k)) q 10 = g 10
theorem hold_at {s : xV} {q k : Nat} (h : ∀ i, i < k → ¬ holdQ (s 0) q i) (hk : holdQ (s 0) q k) (hn : k < 101) : holdS q s = (byK k, s) := by
  unfold holdS
  rw [first_at (P := fun k => stepsG (touchG (s 0) (byK k)) q 10 = s 0 10) h hk 101 hn, if_pos hn]
theorem hold_no {s : xV} {q k : Nat} (h : ∀ i, i < k → ¬ holdQ (s 0) q i) (hk : k = 101) : holdS q s = noneF s := by
  subst hk
  unfold holdS
  rw [first_no (P := fun k => stepsG (touchG (s 0) (byK k)) q 10 = s 0 10) 101 h, if_neg (Nat.lt_irrefl _)]
theorem byK_0 : byK 0 = nI 0 := by decide
theorem byK_odd (k : Nat) : byK (2 * k + 1) = nI (k + 1) := by
  unfold byK
  rw [if_pos (by omega), show (2 * k + 1 + 1) / 2 = k + 1 by omega]
theorem byK_even (k : Nat) : byK (2 * k) = -nI k := by
  unfold byK
  rw [if_neg (by omega), show 2 * k / 2 = k by omega]
theorem byK_1 {k : Nat} (h : k % 2 = 1) : nI ((k + 1) / 2) = byK k := (if_pos h).symm
theorem byK_in {k : Nat} (h : k ≤ 100) : -200 ≤ (byK k).toInt ∧ (byK k).toInt ≤ 200 := by
  unfold byK
  split
  · rw [nI_toInt (by omega)]
    omega
  · rw [tI_neg (by rw [nI_toInt (by omega)]; omega), nI_toInt (by omega)]
    omega
theorem hold_s1 {g : Nat → Int32} {q k : Nat} (h : ∀ i, i < 2 * k - 1 → ¬ holdQ g q i) (hk : ¬ stepsG (touchG g (nI k)) q 10 = g 10) (h0 : nI k = 0) (hk2 : k < 100) : ∀ i, i < 2 * (k + 1) - 1 → ¬ holdQ g q i := by
  have e : k = 0 := (nI_eq (by omega) (by omega)).mp h0
  subst e
  intro i hi
  have e : i = 0 := by omega
  subst e
  unfold holdQ
  rw [byK_0]
  exact hk
theorem hold_a {g : Nat → Int32} {q k : Nat} (h : ∀ i, i < 2 * k - 1 → ¬ holdQ g q i) (hk : ¬ stepsG (touchG g (nI k)) q 10 = g 10) (h0 : ¬ nI k = 0) : ∀ i, i < 2 * k → ¬ holdQ g q i := by
  have e : k ≠ 0 := fun z => h0 (by rw [z]; rfl)
  intro i hi
  by_cases e2 : i = 2 * k - 1
  · subst e2
    unfold holdQ
    rw [show 2 * k - 1 = 2 * (k - 1) + 1 by omega, byK_odd, show k - 1 + 1 = k by omega]
    exact hk
  · exact h i (by omega)
theorem hold_s2 {g : Nat → Int32} {q k : Nat} (h : ∀ i, i < 2 * k - 1 → ¬ holdQ g q i) (hk : ¬ stepsG (touchG g (nI k)) q 10 = g 10) (h0 : ¬ nI k = 0) (h2 : ¬ stepsG (touchG g (-nI k)) q 10 = g 10) : ∀ i, i < 2 * (k + 1) - 1 → ¬ holdQ g q i := by
  intro i hi
  by_cases e2 : i = 2 * k
  · subst e2
    unfold holdQ
    rw [byK_even]
    exact h2
  · exact hold_a h hk h0 i (by omega)
theorem hold_r1 {s : xV} {q k : Nat} (h : ∀ i, i < 2 * k - 1 → ¬ holdQ (s 0) q i) (hk : stepsG (touchG (s 0) (nI k)) q 10 = s 0 10) (hn : k ≤ 50) : holdS q s = (nI k, s) := by
  by_cases e : k = 0
  · subst e
    have := hold_at (k := 0) (fun i hi => absurd hi (Nat.not_lt_zero _)) (by unfold holdQ; rw [byK_0]; exact hk) (by decide)
    rw [this, byK_0]
  · have e2 : byK (2 * k - 1) = nI k := by rw [show 2 * k - 1 = 2 * (k - 1) + 1 by omega, byK_odd, show k - 1 + 1 = k by omega]
    rw [hold_at (k := 2 * k - 1) h (by unfold holdQ; rw [e2]; exact hk) (by omega), e2]
theorem hold_r2 {s : xV} {q k : Nat} (h : ∀ i, i < 2 * k - 1 → ¬ holdQ (s 0) q i) (hk : ¬ stepsG (touchG (s 0) (nI k)) q 10 = s 0 10) (h0 : ¬ nI k = 0) (h2 : stepsG (touchG (s 0) (-nI k)) q 10 = s 0 10) (hn : k ≤ 50) : holdS q s = (-nI k, s) := by
  rw [hold_at (k := 2 * k) (hold_a h hk h0) (by unfold holdQ; rw [byK_even]; exact h2) (by omega), byK_even]
/-! chance -/
def drawZ (z : Int32) : Int32 := z * 1103515245 + 12345
def shr8 (z : Int32) : Int32 := ((z).toUInt32 >>> ((8 : Int32).toUInt32 &&& Int32.toUInt32 31)).toInt32
def byZ (z : Int32) : Int32 := xrem (shr8 z) 21 - 10
theorem shr8_nI (z : Int32) : ∃ m : Nat, m < 2 ^ 24 ∧ shr8 z = nI m := by
  have hlt : (z.toUInt32 >>> ((8 : Int32).toUInt32 &&& Int32.toUInt32 31)).toNat < 2 ^ 24 := by
    rw [UInt32.toNat_shiftRight, show (((8 : Int32).toUInt32 &&& Int32.toUInt32 31)).toNat % 32 = 8 from by decide, Nat.shiftRight_eq_div_pow]
    have := z.toUInt32.toNat_lt
    omega
  have h1 : (shr8 z).toInt = ((z.toUInt32 >>> ((8 : Int32).toUInt32 &&& Int32.toUInt32 31)).toNat : Int) := BitVec.toInt_eq_toNat_of_lt (show 2 * (z.toUInt32 >>> ((8 : Int32).toUInt32 &&& Int32.toUInt32 31)).toNat < 2 ^ 32 by omega)
  refine ⟨_, hlt, ?_⟩
  exact Int32.toInt_inj.mp (by rw [h1, nI_toInt (by omega)])
theorem byZ_in (z : Int32) : -200 ≤ (byZ z).toInt ∧ (byZ z).toInt ≤ 200 := by
  obtain ⟨m, hm, e⟩ := shr8_nI z
  unfold byZ
  rw [e, show xrem (nI m) 21 = nI (m % 21) from pk_rem (by omega) (by decide) (by decide)]
  have h1 : (nI (m % 21)).toInt = ((m % 21 : Nat) : Int) := nI_toInt (by omega)
  have h2 : (10 : Int32).toInt = 10 := by decide
  rw [tI_sub (by rw [h1, h2]; omega) (by rw [h1, h2]; omega), h1, h2]
  omega
def zN (z : Int32) : Nat → Int32
  | 0 => z
  | k + 1 => drawZ (zN z k)
def chF (g : Nat → Int32) (n : Nat) (z : Int32) : Nat → Int32 := stepsG (touchG (upd g 12 z) (byZ z)) n
def chN (g : Nat → Int32) (n : Nat) : Nat → Int32
  | 0 => 0
  | k + 1 => if 0 < chF g n (zN (g 12) (k + 1)) 4 then chN g n k + 1 else chN g n k
def chanceS (q n : Nat) (s : xV) : Int32 × xV := (chN (s 0) n q, u2 s 0 12 (zN (s 0 12) q))
def sp_chance (tries n : Int32) (s : xV) : Int32 × xV := if rng tries 1 20 ∧ rng n 1 200 then chanceS tries.toNatClampNeg n.toNatClampNeg s else bad s
theorem gI_12 {g : Nat → Int32} (hg : gI g) (z : Int32) : gI (upd g 12 z) := by
  refine hg.upd (fun _ => ?_)
  have := i32_cases z
  unfold glo ghi
  simp
  omega
theorem gT_12 {g : Nat → Int32} {T : Nat} (h : gT g T) (z : Int32) : gT (upd g 12 z) T := by
  unfold gT at h ⊢
  rw [upd_ne (by omega)]
  exact h
theorem ch_w {σ : xV} {b c i : Nat} {g h : Nat → Int32} {x y : Int32} (hb : b ≠ c) : va_up (u2 (va_up (u2 σ b i x) c g) b i y) c h = va_up (u2 σ b i y) c h := by
  funext a
  by_cases h1 : a = c
  · subst h1
    rw [va_up_self, va_up_self]
  · rw [va_up_ne _ _ h1, va_up_ne _ _ h1]
    unfold u2
    by_cases h2 : a = b
    · subst h2
      rw [va_up_self, va_up_self, va_up_ne _ _ h1, va_up_self, upd_upd]
    · rw [va_up_ne _ _ h2, va_up_ne _ _ h2, va_up_ne _ _ h1, va_up_ne _ _ h2]
theorem ch_0 (σ : xV) (b i c : Nat) (h : Nat → Int32) : va_up σ c h = va_up (u2 σ b i (σ b i)) c h := by
  unfold u2
  rw [upd_self, xself]
theorem ch_u {σ : xV} {b c i : Nat} {g : Nat → Int32} {x y : Int32} (hb : b ≠ c) : u2 (va_up (u2 σ b i x) c g) b i y = va_up (u2 σ b i y) c g := by
  funext a
  unfold u2
  by_cases h2 : a = b
  · subst h2
    rw [va_up_self, va_up_ne _ _ hb, va_up_self, va_up_ne _ _ hb, va_up_self, upd_upd]
  · rw [va_up_ne _ _ h2]
    by_cases h1 : a = c
    · subst h1
      rw [va_up_self, va_up_self]
    · rw [va_up_ne _ _ h1, va_up_ne _ _ h1, va_up_ne _ _ h2, va_up_ne _ _ h2]
theorem ch_alter {E : xE} {S : xV} {τ : Nat → Int64} {g : Nat → Int32} {z z2 : Int32} : ∀ j, j < 94 → xce E (va_up S 2 (upd g 12 z2)) τ (xd j) = xce E (va_up S 2 (upd g 12 z)) τ (xd j) := by
  refine run_alter [(0, 12), (20, 124)] chk_2 ?_
  intro i hi
  obtain ⟨r, hr, h1, h2⟩ := hi
  simp only [List.mem_cons, List.not_mem_nil, or_false] at hr
  rcases hr with rfl | rfl
  · rw [upd_ne (show i ≠ 12 by have : i < 12 := h2; omega), upd_ne (show i ≠ 12 by have : i < 12 := h2; omega)]
  · rw [upd_ne (show i ≠ 12 by have : 20 ≤ i := h1; omega), upd_ne (show i ≠ 12 by have : 20 ≤ i := h1; omega)]
theorem byK_2 {k : Nat} (h : ¬ k % 2 = 1) (hk : k ≤ 100) : -nI k / 2 = byK k := by
  unfold byK
  rw [if_neg h, tI_eq]
  have e2 : (2 : Int32).toInt = 2 := by decide
  have e1 : (nI k).toInt = (k : Int) := nI_toInt (by omega)
  have e3 : (nI (k / 2)).toInt = ((k / 2 : Nat) : Int) := nI_toInt (by omega)
  rw [tI_div (by rw [e2]; omega), tI_neg (by rw [e1]; omega), tI_neg (by rw [e3]; omega), e1, e2, e3, Int.neg_tdiv, Int.tdiv_eq_ediv_of_nonneg (by omega)]
  omega
set_option maxHeartbeats 4000000 in
set_option maxRecDepth 100000 in
theorem c_isHeldBy (l : Launch) (E : xE) (σ : Nat → Nat → Int32) (τ : Nat → Int64) (hrow : Nat → Int32) (y : Int32) (n T : Nat) (hn1 : 1 ≤ n) (hn : n ≤ 400) (hg : gI (σ 0)) (hT : gT (σ 0) T) (hTn : T + n < 2147483647) : xMi l yX7_isHeldBy cX7_isHeldBy 4 .boolean 4 90 E [.ref (xad E (0)), .int (y), .int (nI n)] (va_up σ 2 (hrow)) (τ) (if stepsG (touchG (σ 0) y) n 10 = σ 0 10 then 1 else 0) (va_up σ 2 (heldRun (σ 0) y n)) (τ) := by
  refine xMi_of (own := RX7) (by decide +kernel) rfl (Nat.le_of_ble_eq_true rfl) ?_
  intro zp ze zs zm za zb zh zc C
  refine WM.to (lv1 := [(0, .ref (xad E (0))), (1, .int (y)), (2, .int (nI n))]) (st1 := []) (σ1 := va_up σ 2 (hrow)) (τ1 := τ) ?_ rfl rfl rfl rfl
  refine x_aload_n C 0 dX7_isHeldBy_0 rfl rfl ?_
  refine x_get C (Nat.le_of_ble_eq_true rfl) xd_0 fl_X7_40 (q := (0, 59, 0)) (v := .ref (xad E (59))) rfl rfl dX7_isHeldBy_1 ?_
  refine x_aload_n C 0 dX7_isHeldBy_4 rfl rfl ?_
  refine x_get C (Nat.le_of_ble_eq_true rfl) xd_0 fl_X7_12 (q := (0, 1, 0)) (v := .ref (xad E (1))) rfl rfl dX7_isHeldBy_5 ?_
  refine x_get C (Nat.le_of_ble_eq_true rfl) xd_1 fl_X7_68 (q := (0, 2, 0)) (v := .ref (xad E (2))) rfl rfl dX7_isHeldBy_8 ?_
  refine x_callVv C (As := [.ref (xad E (2))]) (rest := []) (cW_become l E (va_up σ 2 (hrow)) τ 2 0 (by decide) (by decide) (by decide)) kv_X7_190 (x_recv C (Nat.le_of_ble_eq_true rfl) xd_59 rfl) ⟨Nat.le_of_ble_eq_true rfl, Nat.le_of_ble_eq_true rfl⟩ rfl rfl (Nat.le_of_ble_eq_true rfl) dX7_isHeldBy_11 ?_
  refine WM.alter (σ' := va_up (va_up σ 2 (hrow)) 2 ((va_up σ 2 (hrow)) 0)) (mix_run (by decide)) ?_
  refine WM.to (σ1 := va_up σ 2 (σ 0)) ?_ (Eq.trans (xupup _ _ _ _) (congrArg (va_up _ _) (va_up_ne _ (j := 0) (k := 2) _ (by decide)))) rfl rfl rfl
  refine x_aload_n C 0 dX7_isHeldBy_14 rfl rfl ?_
  refine x_get C (Nat.le_of_ble_eq_true rfl) xd_0 fl_X7_40 (q := (0, 59, 0)) (v := .ref (xad E (59))) rfl rfl dX7_isHeldBy_15 ?_
  refine x_iload_n C 1 dX7_isHeldBy_18 rfl rfl ?_
  refine x_callVv C (As := [.int (y)]) (rest := []) (cW_nudge l E σ τ 2 (by decide) (σ 0) y) kv_X7_100 (x_recv C (Nat.le_of_ble_eq_true rfl) xd_59 rfl) ⟨Nat.le_of_ble_eq_true rfl, Nat.le_of_ble_eq_true rfl⟩ rfl rfl (Nat.le_of_ble_eq_true rfl) dX7_isHeldBy_19 ?_
  refine x_iconst C (v := 1) dX7_isHeldBy_22 (by decide) ?_
  refine x_istore_n C (lv1 := [(3, .int (1)), (0, .ref (xad E (0))), (1, .int (y)), (2, .int (nI n))]) dX7_isHeldBy_23 rfl (by decide) rfl ?_
  have loop : ∀ (j k : Nat), j + k = n → (∀ i, i < k → ¬ heldQ (σ 0) y i) → WM zp l ze { frames := 4, cells := 0, slots := 0, locals := 90 } zs zm za zb zh zc 0 0 (MQ zb (va_Qi (fun r (_ : Unit) => r = (if stepsG (touchG (σ 0) y) n 10 = σ 0 10 then 1 else 0)) (fun _ t => xP E (va_up σ 2 (heldRun (σ 0) y n)) (τ) t.heap) (xA E)) za zs 0 0 (xA E)) E (xA E) 4 (va_up σ 2 (stepsG (touchG (σ 0) y) k)) (τ) 24 [(0, .ref (xad E (0))), (1, .int (y)), (2, .int (nI n)), (3, .int (nI (k + 1)))] [] := by
    intro j
    induction j with
    | zero =>
      intro k hk hnf
      refine x_iload_n C 3 dX7_isHeldBy_24 rfl rfl ?_
      refine x_iload_n C 2 dX7_isHeldBy_25 rfl rfl ?_
      refine x_icmp_gt C (tgt := 64) dX7_isHeldBy_26 (by decide) (fun h1 => ?_) (fun h1 => absurd (nI_lt (a := n) (b := k + 1) (by omega) (by omega)) h1)
      refine x_iconst C (v := 1) dX7_isHeldBy_64 (by decide) ?_
      exact x_zret C rfl (if_pos (held_y (fun i hi => hnf i (by omega)) (by omega))).symm (congrArg (va_up _ _) (heldRun_y hnf (by omega))) rfl dX7_isHeldBy_65
    | succ j ih =>
      intro k hk hnf
      refine x_iload_n C 3 dX7_isHeldBy_24 rfl rfl ?_
      refine x_iload_n C 2 dX7_isHeldBy_25 rfl rfl ?_
      refine x_icmp_gt C (tgt := 64) dX7_isHeldBy_26 (by decide) (fun h2 => absurd h2 (nI_nlt (a := n) (b := k + 1) (by omega) (by omega))) (fun h2 => ?_)
      refine x_aload_n C 0 dX7_isHeldBy_29 rfl rfl ?_
      refine x_get C (Nat.le_of_ble_eq_true rfl) xd_0 fl_X7_40 (q := (0, 59, 0)) (v := .ref (xad E (59))) rfl rfl dX7_isHeldBy_30 ?_
      refine x_callVv C (As := []) (rest := []) (cW_step l E σ τ 2 (by decide) (stepsG (touchG (σ 0) y) k) (gI_steps (gI_touch hg _) k) (gT_steps (gT_touch hT _) k (by omega)).1) kv_X7_203 (x_recv C (Nat.le_of_ble_eq_true rfl) xd_59 rfl) ⟨Nat.le_of_ble_eq_true rfl, Nat.le_of_ble_eq_true rfl⟩ rfl rfl (Nat.le_of_ble_eq_true rfl) dX7_isHeldBy_33 ?_
      refine x_aload_n C 0 dX7_isHeldBy_36 rfl rfl ?_
      refine x_get C (Nat.le_of_ble_eq_true rfl) xd_0 fl_X7_40 (q := (0, 59, 0)) (v := .ref (xad E (59))) rfl rfl dX7_isHeldBy_37 ?_
      refine x_get C (Nat.le_of_ble_eq_true rfl) xd_59 fl_X7_194 (q := (1, 2, 10)) (v := .int ((stepG (stepsG (touchG (σ 0) y) k)) 10)) rfl (congrArg Value.int (congrFun (va_up_self _ _ _) _)) dX7_isHeldBy_40 ?_
      refine x_aload_n C 0 dX7_isHeldBy_43 rfl rfl ?_
      refine x_get C (Nat.le_of_ble_eq_true rfl) xd_0 fl_X7_12 (q := (0, 1, 0)) (v := .ref (xad E (1))) rfl rfl dX7_isHeldBy_44 ?_
      refine x_get C (Nat.le_of_ble_eq_true rfl) xd_1 fl_X7_68 (q := (0, 2, 0)) (v := .ref (xad E (2))) rfl rfl dX7_isHeldBy_47 ?_
      refine x_get C (Nat.le_of_ble_eq_true rfl) xd_2 fl_X7_194 (q := (1, 0, 10)) (v := .int (σ 0 10)) rfl (congrArg Value.int (congrFun (va_up_ne _ (j := 0) (k := 2) _ (by decide)) _)) dX7_isHeldBy_50 ?_
      refine x_icmp_eq C (tgt := 58) dX7_isHeldBy_53 (by decide) (fun h3 => ?_) (fun h3 => ?_)
      · refine x_iinc C (v := nI (k + 1 + 1)) (lv1 := [(3, .int (nI (k + 1 + 1))), (0, .ref (xad E (0))), (1, .int (y)), (2, .int (nI n))]) 3 dX7_isHeldBy_58 rfl (nI_add (k + 1) 1) (by decide) rfl ?_
        refine x_goto2 C (tgt := 24) dX7_isHeldBy_61 (by decide) ?_
        refine WM.keep [1, 2, 3, 0] (lv' := [(0, .ref (xad E (0))), (1, .int (y)), (2, .int (nI n)), (3, .int (nI (k + 1 + 1)))]) rfl ?_
        exact WM.to (ih (k + 1) (by omega) (hyp_s hnf (Decidable.not_not.mpr h3))) rfl rfl rfl rfl
      · refine x_iconst C (v := 0) dX7_isHeldBy_56 (by decide) ?_
        exact x_zret C rfl (if_neg (held_n hT (by omega) (by omega) h3)).symm (congrArg (va_up _ _) (heldRun_n hnf (by omega) h3)) rfl dX7_isHeldBy_57
  refine WM.keep [1, 2, 3, 0] rfl ?_
  exact WM.to (loop (n) 0 (by omega) (fun i hi => absurd hi (Nat.not_lt_zero i))) rfl rfl rfl rfl
set_option maxHeartbeats 4000000 in
set_option maxRecDepth 100000 in
theorem k_holds (l : Launch) (E : xE) (σ : Nat → Nat → Int32) (τ : Nat → Int64) (T : Nat) (hT : T < 1073741824) (n : Int32) (hI : Inv (cv σ) T) : xOi l yX7_holds cX7_holds 3 .int 5 113 E [.ref (xad E (0)), .int (n)] σ τ (cpost (sp_holds n (cv σ)) σ) := by
  refine xOi_of (own := RX7) (by decide +kernel) rfl (Nat.le_of_ble_eq_true rfl) ?_
  intro zp ze zs zm za zb zh zc C
  refine WM.to (lv1 := [(0, .ref (xad E (0))), (1, .int (n))]) (st1 := []) (σ1 := σ) (τ1 := τ) ?_ rfl rfl rfl rfl
  have hg : gI (σ 0) := hI.g
  have hgT : gT (σ 0) T := hI.t
  have h0 : 0 ≤ (σ 0 10).toInt := hI.h0
  refine x_iload_n C 1 dX7_holds_0 rfl rfl ?_
  refine x_iconst C (v := 1) dX7_holds_1 (by decide) ?_
  refine x_sipush C (v := 400) dX7_holds_2 (by decide) ?_
  refine x_callSi C (As := [.int (n), .int (1), .int (400)]) (rest := []) (c_within l E σ τ n 1 400) ks_X7_59 ⟨Nat.le_of_ble_eq_true rfl, Nat.le_of_ble_eq_true rfl⟩ rfl rfl (Nat.le_of_ble_eq_true rfl) dX7_holds_5 ?_
  refine x_ifneB C (tgt := 18) dX7_holds_8 (by decide) (fun h1 => ?_) (fun h1 => ?_)
  · obtain ⟨q, hqa, hqb, rfl⟩ := rngN (a := 1) (b := 400) h1 (by decide) (by decide) (by decide)
    refine x_iconst C (v := 0) dX7_holds_18 (by decide) ?_
    refine x_istore_n C (lv1 := [(2, .int (0)), (0, .ref (xad E (0))), (1, .int (nI q))]) dX7_holds_19 rfl (by decide) rfl ?_
    have loop : ∀ (j k : Nat) (hB : Nat → Int32), j + k = 51 → (∀ i, i < 2 * k - 1 → ¬ holdQ (σ 0) q i) → WM zp l ze { frames := 5, cells := 0, slots := 0, locals := 113 } zs zm za zb zh zc 0 0 (MQ zb (va_Qi (fun r (u : xV × (Nat → Int64)) => (cpost (sp_holds (nI q) (cv σ)) σ) r u.1) (fun u t => xP E u.1 u.2 t.heap) (xA E)) za zs 0 0 (xA E)) E (xA E) 3 (va_up σ 2 hB) (τ) 20 [(0, .ref (xad E (0))), (1, .int (nI q)), (2, .int (nI k))] [] := by
      intro j
      induction j with
      | zero =>
        intro k hB hk hnf
        refine x_iload_n C 2 dX7_holds_20 rfl rfl ?_
        refine x_bipush C (v := 50) dX7_holds_21 (by decide) ?_
        refine x_icmp_gt C (tgt := 60) dX7_holds_23 (by decide) (fun h2 => ?_) (fun h2 => absurd (nI_lt (a := 50) (b := k) (by omega) (by omega)) h2)
        refine x_aload_n C 0 dX7_holds_60 rfl rfl ?_
        refine x_ldc C dX7_holds_61 kc_X7_145 ?_
        refine x_callVi C (As := [.int ((-1000004))]) (rest := []) (c_finding l E (va_up σ 2 hB) τ 3 (by decide) (-1000004) (by decide)) kv_X7_64 (x_recv C (Nat.le_of_ble_eq_true rfl) xd_0 rfl) ⟨Nat.le_of_ble_eq_true rfl, Nat.le_of_ble_eq_true rfl⟩ rfl rfl (Nat.le_of_ble_eq_true rfl) dX7_holds_63 ?_
        exact x_oret C (cpost_of (V := u2 (cv σ) 2 3 ((va_up σ 2 hB) 4 3 + 1)) (Eq.trans (if_pos (by first | assumption | ((try simp only [rng, mayQ, tI_lt, tI_eq, cvr_0, mvr_0, cvr_c, mvr_c, tl_0, tl_1, tl_2, tl_3, tl_4, tl_5, tl_6, tl_7, tl_8, tl_9, tl_10, tl_11, tl_12, tl_13, tl_50, tl_99, tl_400] at h1 ⊢) <;> omega))) (Eq.trans (congrArg (fun z => holdS z (cv σ)) (nI_clamp (by omega))) (hold_no (k := 101) (fun i hi => hnf i (by omega)) rfl))) (by rw [cv_u4, cv_v2]) (by rw [mv_u4, mv_v2]) rfl) dX7_holds_66
      | succ j ih =>
        intro k hB hk hnf
        refine x_iload_n C 2 dX7_holds_20 rfl rfl ?_
        refine x_bipush C (v := 50) dX7_holds_21 (by decide) ?_
        refine x_icmp_gt C (tgt := 60) dX7_holds_23 (by decide) (fun h3 => absurd h3 (nI_nlt (a := 50) (b := k) (by omega) (by omega))) (fun h3 => ?_)
        refine x_aload_n C 0 dX7_holds_26 rfl rfl ?_
        refine x_iload_n C 2 dX7_holds_27 rfl rfl ?_
        refine x_iload_n C 1 dX7_holds_28 rfl rfl ?_
        refine x_callVi C (As := [.int (nI k), .int (nI q)]) (rest := []) (c_isHeldBy l E σ τ hB (nI k) q T (by omega) (by omega) hg hgT (by omega)) kv_X7_215 (x_recv C (Nat.le_of_ble_eq_true rfl) xd_0 rfl) ⟨Nat.le_of_ble_eq_true rfl, Nat.le_of_ble_eq_true rfl⟩ rfl rfl (Nat.le_of_ble_eq_true rfl) dX7_holds_29 ?_
        refine x_ifeqB C (tgt := 37) dX7_holds_32 (by decide) (fun h4 => ?_) (fun h4 => ?_)
        · refine x_iload_n C 2 dX7_holds_37 rfl rfl ?_
          refine x_if_eq C (tgt := 54) dX7_holds_38 (by decide) (fun h5 => ?_) (fun h5 => ?_)
          · refine x_iinc C (v := nI (k + 1)) (lv1 := [(2, .int (nI (k + 1))), (0, .ref (xad E (0))), (1, .int (nI q))]) 2 dX7_holds_54 rfl (nI_add k 1) (by decide) rfl ?_
            refine x_goto2 C (tgt := 20) dX7_holds_57 (by decide) ?_
            refine WM.keep [1, 2, 0] (lv' := [(0, .ref (xad E (0))), (1, .int (nI q)), (2, .int (nI (k + 1)))]) rfl ?_
            exact WM.to (ih (k + 1) (heldRun (σ 0) (nI k) q) (by omega) (hold_s1 hnf h4 h5 (by omega))) rfl rfl rfl rfl
          · refine x_aload_n C 0 dX7_holds_41 rfl rfl ?_
            refine x_iload_n C 2 dX7_holds_42 rfl rfl ?_
            refine x_ineg C dX7_holds_43 ?_
            refine x_iload_n C 1 dX7_holds_44 rfl rfl ?_
            refine x_callVi C (As := [.int (-(nI k)), .int (nI q)]) (rest := []) (c_isHeldBy l E σ τ (heldRun (σ 0) (nI k) q) (-(nI k)) q T (by omega) (by omega) hg hgT (by omega)) kv_X7_215 (x_recv C (Nat.le_of_ble_eq_true rfl) xd_0 rfl) ⟨Nat.le_of_ble_eq_true rfl, Nat.le_of_ble_eq_true rfl⟩ rfl rfl (Nat.le_of_ble_eq_true rfl) dX7_holds_45 ?_
            refine x_ifeqB C (tgt := 54) dX7_holds_48 (by decide) (fun h6 => ?_) (fun h6 => ?_)
            · refine x_iinc C (v := nI (k + 1)) (lv1 := [(2, .int (nI (k + 1))), (0, .ref (xad E (0))), (1, .int (nI q))]) 2 dX7_holds_54 rfl (nI_add k 1) (by decide) rfl ?_
              refine x_goto2 C (tgt := 20) dX7_holds_57 (by decide) ?_
              refine WM.keep [1, 2, 0] (lv' := [(0, .ref (xad E (0))), (1, .int (nI q)), (2, .int (nI (k + 1)))]) rfl ?_
              exact WM.to (ih (k + 1) (heldRun (σ 0) (-(nI k)) q) (by omega) (hold_s2 hnf h4 h5 h6)) rfl rfl rfl rfl
            · refine x_iload_n C 2 dX7_holds_51 rfl rfl ?_
              refine x_ineg C dX7_holds_52 ?_
              exact x_oret C (cpost_of (V := cv σ) (Eq.trans (if_pos (by first | assumption | ((try simp only [rng, mayQ, tI_lt, tI_eq, cvr_0, mvr_0, cvr_c, mvr_c, tl_0, tl_1, tl_2, tl_3, tl_4, tl_5, tl_6, tl_7, tl_8, tl_9, tl_10, tl_11, tl_12, tl_13, tl_50, tl_99, tl_400] at h1 ⊢) <;> omega))) (Eq.trans (congrArg (fun z => holdS z (cv σ)) (nI_clamp (by omega))) (hold_r2 hnf h4 h5 h6 (by omega)))) (by rw [cv_v2]) (by rw [mv_v2]) rfl) dX7_holds_53
        · refine x_iload_n C 2 dX7_holds_35 rfl rfl ?_
          exact x_oret C (cpost_of (V := cv σ) (Eq.trans (if_pos (by first | assumption | ((try simp only [rng, mayQ, tI_lt, tI_eq, cvr_0, mvr_0, cvr_c, mvr_c, tl_0, tl_1, tl_2, tl_3, tl_4, tl_5, tl_6, tl_7, tl_8, tl_9, tl_10, tl_11, tl_12, tl_13, tl_50, tl_99, tl_400] at h1 ⊢) <;> omega))) (Eq.trans (congrArg (fun z => holdS z (cv σ)) (nI_clamp (by omega))) (hold_r1 hnf h4 (by omega)))) (by rw [cv_v2]) (by rw [mv_v2]) rfl) dX7_holds_36
    refine WM.keep [1, 2, 0] rfl ?_
    refine WM.to (σ1 := va_up σ 2 (σ 2)) ?_ (xself _ _).symm rfl rfl rfl
    exact WM.to (loop (51) 0 (σ 2) (by omega) (fun i hi => absurd hi (by omega))) rfl rfl rfl rfl
  · refine x_aload_n C 0 dX7_holds_11 rfl rfl ?_
    refine x_ldc C dX7_holds_12 kc_X7_63 ?_
    refine x_callVi C (As := [.int ((-1000001))]) (rest := []) (c_finding l E σ τ 0 (by decide) (-1000001) (by decide)) kv_X7_64 (x_recv C (Nat.le_of_ble_eq_true rfl) xd_0 rfl) ⟨Nat.le_of_ble_eq_true rfl, Nat.le_of_ble_eq_true rfl⟩ rfl rfl (Nat.le_of_ble_eq_true rfl) dX7_holds_14 ?_
    exact x_oret C (cpost_of (V := u2 (cv σ) 2 0 (σ 4 0 + 1)) (if_neg (by first | assumption | ((try simp only [rng, mayQ, tI_lt, tI_eq, cvr_0, mvr_0, cvr_c, mvr_c, tl_0, tl_1, tl_2, tl_3, tl_4, tl_5, tl_6, tl_7, tl_8, tl_9, tl_10, tl_11, tl_12, tl_13, tl_50, tl_99, tl_400] at h1 ⊢) <;> omega))) (by rw [cv_u4]) (by rw [mv_u4]) rfl) dX7_holds_17
set_option maxHeartbeats 4000000 in
set_option maxRecDepth 100000 in
theorem m_holds (l : Launch) (E : xE) (σ : Nat → Nat → Int32) (τ : Nat → Int64) (T : Nat) (hT : T < 1073741824) (n : Int32) (hI : Inv (mv σ) T) (hlv : ∀ j, j < 12 → σ 15 j = (xzl 1).getD j 0) : xOi l yX8_holds cX8_holds 4 .int 4 92 E [.ref (xad E (81)), .int (n)] σ τ (mpost (sp_holds n (mv σ)) σ) := by
  refine xOi_of (own := RX8) (by decide +kernel) rfl (Nat.le_of_ble_eq_true rfl) ?_
  intro zp ze zs zm za zb zh zc C
  refine WM.to (lv1 := [(0, .ref (xad E (81))), (1, .int (n))]) (st1 := []) (σ1 := σ) (τ1 := τ) ?_ rfl rfl rfl rfl
  have hg : gI (σ 10) := hI.g
  have hgT : gT (σ 10) T := hI.t
  have h0 : 0 ≤ (σ 10 10).toInt := hI.h0
  refine x_iload_n C 1 dX8_holds_0 rfl rfl ?_
  refine x_i2l C dX8_holds_1 ?_
  refine x_lconst C (v := 1) dX8_holds_2 (by decide) ?_
  refine x_ldc2 C dX8_holds_3 kc_X8_231 ?_
  refine x_callSi C (As := [.long (Int32.toInt64 n), .long (1), .long (400)]) (rest := []) (c_in l E σ τ (Int32.toInt64 n) 1 400) ks_X8_49 ⟨Nat.le_of_ble_eq_true rfl, Nat.le_of_ble_eq_true rfl⟩ rfl rfl (Nat.le_of_ble_eq_true rfl) dX8_holds_6 ?_
  refine WM.topi (y := if rng n 1 400 then 1 else 0) (in_eq n 1 400 (by decide) (by decide)) ?_
  refine x_ifneB C (tgt := 19) dX8_holds_9 (by decide) (fun h1 => ?_) (fun h1 => ?_)
  · obtain ⟨q, hqa, hqb, rfl⟩ := rngN (a := 1) (b := 400) h1 (by decide) (by decide) (by decide)
    refine x_iconst C (v := 0) dX8_holds_19 (by decide) ?_
    refine x_istore_n C (lv1 := [(2, .int (0)), (0, .ref (xad E (81))), (1, .int (nI q))]) dX8_holds_20 rfl (by decide) rfl ?_
    have loop : ∀ (j k : Nat) (hB : Nat → Int32), j + k = 101 → (∀ i, i < k → ¬ holdQ (σ 10) q i) → WM zp l ze { frames := 4, cells := 0, slots := 0, locals := 92 } zs zm za zb zh zc 0 0 (MQ zb (va_Qi (fun r (u : xV × (Nat → Int64)) => (mpost (sp_holds (nI q) (mv σ)) σ) r u.1) (fun u t => xP E u.1 u.2 t.heap) (xA E)) za zs 0 0 (xA E)) E (xA E) 4 (va_up σ 11 hB) (τ) 21 [(0, .ref (xad E (81))), (1, .int (nI q)), (2, .int (nI k))] [] := by
      intro j
      induction j with
      | zero =>
        intro k hB hk hnf
        refine x_iload_n C 2 dX8_holds_21 rfl rfl ?_
        refine x_bipush C (v := 100) dX8_holds_22 (by decide) ?_
        refine x_icmp_gt C (tgt := 100) dX8_holds_24 (by decide) (fun h2 => ?_) (fun h2 => absurd (nI_lt (a := 100) (b := k) (by omega) (by omega)) h2)
        refine x_aload_n C 0 dX8_holds_100 rfl rfl ?_
        refine x_ldc C dX8_holds_101 kc_X8_125 ?_
        refine x_callVi C (As := [.int ((-1000004))]) (rest := []) (c_finds l E (va_up σ 11 hB) τ 3 (by decide) (-1000004) (by decide)) kv_X8_61 (x_recv C (Nat.le_of_ble_eq_true rfl) xd_81 rfl) ⟨Nat.le_of_ble_eq_true rfl, Nat.le_of_ble_eq_true rfl⟩ rfl rfl (Nat.le_of_ble_eq_true rfl) dX8_holds_103 ?_
        exact x_oret C (mpost_of (V := u2 (mv σ) 2 3 ((va_up σ 11 hB) 14 3 + 1)) (Eq.trans (if_pos (by first | assumption | ((try simp only [rng, mayQ, tI_lt, tI_eq, cvr_0, mvr_0, cvr_c, mvr_c, tl_0, tl_1, tl_2, tl_3, tl_4, tl_5, tl_6, tl_7, tl_8, tl_9, tl_10, tl_11, tl_12, tl_13, tl_99, tl_100, tl_400] at h1 ⊢) <;> omega))) (Eq.trans (congrArg (fun z => holdS z (mv σ)) (nI_clamp (by omega))) (hold_no hnf (by omega)))) (by rw [mv_u14, mv_v11]) (by rw [cv_u14, cv_v11]) rfl) dX8_holds_106
      | succ j ih =>
        intro k hB hk hnf
        refine x_iload_n C 2 dX8_holds_21 rfl rfl ?_
        refine x_bipush C (v := 100) dX8_holds_22 (by decide) ?_
        refine x_icmp_gt C (tgt := 100) dX8_holds_24 (by decide) (fun h3 => absurd h3 (nI_nlt (a := 100) (b := k) (by omega) (by omega))) (fun h3 => ?_)
        refine x_iload_n C 2 dX8_holds_27 rfl rfl ?_
        refine x_iconst C (v := 2) dX8_holds_28 (by decide) ?_
        refine x_irem C dX8_holds_29 (by decide) ?_
        refine WM.topi (y := nI (k % 2)) (pk_rem (by omega) (by decide) (by decide)) ?_
        refine x_iconst C (v := 1) dX8_holds_30 (by decide) ?_
        refine x_icmp_ne C (tgt := 42) dX8_holds_31 (by decide) (fun h4 => ?_) (fun h4 => ?_)
        · refine x_iload_n C 2 dX8_holds_42 rfl rfl ?_
          refine x_ineg C dX8_holds_43 ?_
          refine x_iconst C (v := 2) dX8_holds_44 (by decide) ?_
          refine x_idiv C dX8_holds_45 (by decide) ?_
          refine WM.topi (y := byK k) (byK_2 (fun z => h4 (congrArg nI z)) (by omega)) ?_
          refine x_istore_n C (lv1 := [(3, .int (byK k)), (0, .ref (xad E (81))), (1, .int (nI q)), (2, .int (nI k))]) dX8_holds_46 rfl (by decide) rfl ?_
          refine x_aload_n C 1 dX8_holds_47 rfl rfl ?_
          refine x_get C (Nat.le_of_ble_eq_true rfl) xd_81 fl_X8_9 (q := (0, 82, 0)) (v := .ref (xad E (82))) rfl rfl dX8_holds_48 ?_
          refine x_aload_n C 1 dX8_holds_51 rfl rfl ?_
          refine x_get C (Nat.le_of_ble_eq_true rfl) xd_81 fl_X8_13 (q := (0, 83, 0)) (v := .ref (xad E (83))) rfl rfl dX8_holds_52 ?_
          refine x_callSv C (As := [.ref (xad E (82)), .ref (xad E (83))]) (rest := []) (cM_copies l E (va_up σ 11 hB) τ 10 11 (by decide) (by decide) (by decide)) ks_X8_235 ⟨Nat.le_of_ble_eq_true rfl, Nat.le_of_ble_eq_true rfl⟩ rfl rfl (Nat.le_of_ble_eq_true rfl) dX8_holds_55 ?_
          refine WM.to (σ1 := va_up σ 11 (σ 10)) ?_ (Eq.trans (xupup _ _ _ _) (congrArg (va_up _ _) (va_up_ne _ (j := 10) (k := 11) _ (by decide)))) rfl rfl rfl
          refine x_aload_n C 1 dX8_holds_58 rfl rfl ?_
          refine x_get C (Nat.le_of_ble_eq_true rfl) xd_81 fl_X8_13 (q := (0, 83, 0)) (v := .ref (xad E (83))) rfl rfl dX8_holds_59 ?_
          refine x_iload_n C 0 dX8_holds_62 rfl rfl ?_
          refine x_callSv C (As := [.ref (xad E (83)), .int (byK k)]) (rest := []) (cM_touches l E σ τ 11 (by decide) (σ 10) (byK k) hg (byK_in (by omega))) ks_X8_94 ⟨Nat.le_of_ble_eq_true rfl, Nat.le_of_ble_eq_true rfl⟩ rfl rfl (Nat.le_of_ble_eq_true rfl) dX8_holds_63 ?_
          refine x_aload_n C 1 dX8_holds_66 rfl rfl ?_
          refine x_aload_n C 1 dX8_holds_67 rfl rfl ?_
          refine x_get C (Nat.le_of_ble_eq_true rfl) xd_81 fl_X8_13 (q := (0, 83, 0)) (v := .ref (xad E (83))) rfl rfl dX8_holds_68 ?_
          refine x_iload_n C 2 dX8_holds_71 rfl rfl ?_
          refine x_callVv C (As := [.ref (xad E (83)), .int (nI q)]) (rest := []) (cM_goesOn l E σ τ 11 (by decide) (touchG (σ 10) (byK k)) q T (by omega) (gI_touch hg _) (gT_touch hgT _) (by omega) hlv) kv_X8_113 (x_recv C (Nat.le_of_ble_eq_true rfl) xd_81 rfl) ⟨Nat.le_of_ble_eq_true rfl, Nat.le_of_ble_eq_true rfl⟩ rfl rfl (Nat.le_of_ble_eq_true rfl) dX8_holds_72 ?_
          refine x_aload_n C 1 dX8_holds_75 rfl rfl ?_
          refine x_get C (Nat.le_of_ble_eq_true rfl) xd_81 fl_X8_13 (q := (0, 83, 0)) (v := .ref (xad E (83))) rfl rfl dX8_holds_76 ?_
          refine x_bipush C (v := 10) dX8_holds_79 (by decide) ?_
          refine x_ald C (Nat.le_of_ble_eq_true rfl) xd_83 (v := (stepsG (touchG (σ 10) (byK k)) q) 10) (vp_in_nI (show 10 < 284 by omega) (by decide)) (by rw [(show (10 : Int32).toNatClampNeg = 10 from by decide), Nat.zero_add, Nat.one_mul]; exact (congrFun (va_up_self _ _ _) _)) dX8_holds_81 ?_
          refine x_aload_n C 1 dX8_holds_82 rfl rfl ?_
          refine x_get C (Nat.le_of_ble_eq_true rfl) xd_81 fl_X8_9 (q := (0, 82, 0)) (v := .ref (xad E (82))) rfl rfl dX8_holds_83 ?_
          refine x_bipush C (v := 10) dX8_holds_86 (by decide) ?_
          refine x_ald C (Nat.le_of_ble_eq_true rfl) xd_82 (v := σ 10 10) (vp_in_nI (show 10 < 284 by omega) (by decide)) (by rw [(show (10 : Int32).toNatClampNeg = 10 from by decide), Nat.zero_add, Nat.one_mul]; exact (congrFun (va_up_ne _ (j := 10) (k := 11) _ (by decide)) _)) dX8_holds_88 ?_
          refine x_icmp_ne C (tgt := 94) dX8_holds_89 (by decide) (fun h5 => ?_) (fun h5 => ?_)
          · refine x_iinc C (v := nI (k + 1)) (lv1 := [(2, .int (nI (k + 1))), (3, .int (byK k)), (0, .ref (xad E (81))), (1, .int (nI q))]) 3 dX8_holds_94 rfl (nI_add k 1) (by decide) rfl ?_
            refine x_goto2 C (tgt := 21) dX8_holds_97 (by decide) ?_
            refine WM.keep [2, 3, 0] (lv' := [(0, .ref (xad E (81))), (1, .int (nI q)), (2, .int (nI (k + 1)))]) rfl ?_
            exact WM.to (ih (k + 1) (stepsG (touchG (σ 10) (byK k)) q) (by omega) (hyp_s (P := fun i => holdQ (σ 10) q i) hnf h5)) rfl rfl rfl rfl
          · refine x_iload_n C 0 dX8_holds_92 rfl rfl ?_
            exact x_oret C (mpost_of (V := mv σ) (Eq.trans (if_pos (by first | assumption | ((try simp only [rng, mayQ, tI_lt, tI_eq, cvr_0, mvr_0, cvr_c, mvr_c, tl_0, tl_1, tl_2, tl_3, tl_4, tl_5, tl_6, tl_7, tl_8, tl_9, tl_10, tl_11, tl_12, tl_13, tl_99, tl_100, tl_400] at h1 ⊢) <;> omega))) (Eq.trans (congrArg (fun z => holdS z (mv σ)) (nI_clamp (by omega))) (hold_at hnf h5 (by omega)))) (by rw [mv_v11]) (by rw [cv_v11]) rfl) dX8_holds_93
        · refine x_iload_n C 2 dX8_holds_34 rfl rfl ?_
          refine x_iconst C (v := 1) dX8_holds_35 (by decide) ?_
          refine x_iadd C dX8_holds_36 ?_
          refine WM.topi (y := nI (k + 1)) (nI_add k 1) ?_
          refine x_iconst C (v := 2) dX8_holds_37 (by decide) ?_
          refine x_idiv C dX8_holds_38 (by decide) ?_
          refine WM.topi (y := nI ((k + 1) / 2)) (pk_div (by omega) (by decide) (by decide)) ?_
          refine x_goto2 C (tgt := 46) dX8_holds_39 (by decide) ?_
          refine WM.topi (y := byK k) (byK_1 ((nI_eq (by omega) (by decide)).mp h4)) ?_
          refine x_istore_n C (lv1 := [(3, .int (byK k)), (0, .ref (xad E (81))), (1, .int (nI q)), (2, .int (nI k))]) dX8_holds_46 rfl (by decide) rfl ?_
          refine x_aload_n C 1 dX8_holds_47 rfl rfl ?_
          refine x_get C (Nat.le_of_ble_eq_true rfl) xd_81 fl_X8_9 (q := (0, 82, 0)) (v := .ref (xad E (82))) rfl rfl dX8_holds_48 ?_
          refine x_aload_n C 1 dX8_holds_51 rfl rfl ?_
          refine x_get C (Nat.le_of_ble_eq_true rfl) xd_81 fl_X8_13 (q := (0, 83, 0)) (v := .ref (xad E (83))) rfl rfl dX8_holds_52 ?_
          refine x_callSv C (As := [.ref (xad E (82)), .ref (xad E (83))]) (rest := []) (cM_copies l E (va_up σ 11 hB) τ 10 11 (by decide) (by decide) (by decide)) ks_X8_235 ⟨Nat.le_of_ble_eq_true rfl, Nat.le_of_ble_eq_true rfl⟩ rfl rfl (Nat.le_of_ble_eq_true rfl) dX8_holds_55 ?_
          refine WM.to (σ1 := va_up σ 11 (σ 10)) ?_ (Eq.trans (xupup _ _ _ _) (congrArg (va_up _ _) (va_up_ne _ (j := 10) (k := 11) _ (by decide)))) rfl rfl rfl
          refine x_aload_n C 1 dX8_holds_58 rfl rfl ?_
          refine x_get C (Nat.le_of_ble_eq_true rfl) xd_81 fl_X8_13 (q := (0, 83, 0)) (v := .ref (xad E (83))) rfl rfl dX8_holds_59 ?_
          refine x_iload_n C 0 dX8_holds_62 rfl rfl ?_
          refine x_callSv C (As := [.ref (xad E (83)), .int (byK k)]) (rest := []) (cM_touches l E σ τ 11 (by decide) (σ 10) (byK k) hg (byK_in (by omega))) ks_X8_94 ⟨Nat.le_of_ble_eq_true rfl, Nat.le_of_ble_eq_true rfl⟩ rfl rfl (Nat.le_of_ble_eq_true rfl) dX8_holds_63 ?_
          refine x_aload_n C 1 dX8_holds_66 rfl rfl ?_
          refine x_aload_n C 1 dX8_holds_67 rfl rfl ?_
          refine x_get C (Nat.le_of_ble_eq_true rfl) xd_81 fl_X8_13 (q := (0, 83, 0)) (v := .ref (xad E (83))) rfl rfl dX8_holds_68 ?_
          refine x_iload_n C 2 dX8_holds_71 rfl rfl ?_
          refine x_callVv C (As := [.ref (xad E (83)), .int (nI q)]) (rest := []) (cM_goesOn l E σ τ 11 (by decide) (touchG (σ 10) (byK k)) q T (by omega) (gI_touch hg _) (gT_touch hgT _) (by omega) hlv) kv_X8_113 (x_recv C (Nat.le_of_ble_eq_true rfl) xd_81 rfl) ⟨Nat.le_of_ble_eq_true rfl, Nat.le_of_ble_eq_true rfl⟩ rfl rfl (Nat.le_of_ble_eq_true rfl) dX8_holds_72 ?_
          refine x_aload_n C 1 dX8_holds_75 rfl rfl ?_
          refine x_get C (Nat.le_of_ble_eq_true rfl) xd_81 fl_X8_13 (q := (0, 83, 0)) (v := .ref (xad E (83))) rfl rfl dX8_holds_76 ?_
          refine x_bipush C (v := 10) dX8_holds_79 (by decide) ?_
          refine x_ald C (Nat.le_of_ble_eq_true rfl) xd_83 (v := (stepsG (touchG (σ 10) (byK k)) q) 10) (vp_in_nI (show 10 < 284 by omega) (by decide)) (by rw [(show (10 : Int32).toNatClampNeg = 10 from by decide), Nat.zero_add, Nat.one_mul]; exact (congrFun (va_up_self _ _ _) _)) dX8_holds_81 ?_
          refine x_aload_n C 1 dX8_holds_82 rfl rfl ?_
          refine x_get C (Nat.le_of_ble_eq_true rfl) xd_81 fl_X8_9 (q := (0, 82, 0)) (v := .ref (xad E (82))) rfl rfl dX8_holds_83 ?_
          refine x_bipush C (v := 10) dX8_holds_86 (by decide) ?_
          refine x_ald C (Nat.le_of_ble_eq_true rfl) xd_82 (v := σ 10 10) (vp_in_nI (show 10 < 284 by omega) (by decide)) (by rw [(show (10 : Int32).toNatClampNeg = 10 from by decide), Nat.zero_add, Nat.one_mul]; exact (congrFun (va_up_ne _ (j := 10) (k := 11) _ (by decide)) _)) dX8_holds_88 ?_
          refine x_icmp_ne C (tgt := 94) dX8_holds_89 (by decide) (fun h6 => ?_) (fun h6 => ?_)
          · refine x_iinc C (v := nI (k + 1)) (lv1 := [(2, .int (nI (k + 1))), (3, .int (byK k)), (0, .ref (xad E (81))), (1, .int (nI q))]) 3 dX8_holds_94 rfl (nI_add k 1) (by decide) rfl ?_
            refine x_goto2 C (tgt := 21) dX8_holds_97 (by decide) ?_
            refine WM.keep [2, 3, 0] (lv' := [(0, .ref (xad E (81))), (1, .int (nI q)), (2, .int (nI (k + 1)))]) rfl ?_
            exact WM.to (ih (k + 1) (stepsG (touchG (σ 10) (byK k)) q) (by omega) (hyp_s (P := fun i => holdQ (σ 10) q i) hnf h6)) rfl rfl rfl rfl
          · refine x_iload_n C 0 dX8_holds_92 rfl rfl ?_
            exact x_oret C (mpost_of (V := mv σ) (Eq.trans (if_pos (by first | assumption | ((try simp only [rng, mayQ, tI_lt, tI_eq, cvr_0, mvr_0, cvr_c, mvr_c, tl_0, tl_1, tl_2, tl_3, tl_4, tl_5, tl_6, tl_7, tl_8, tl_9, tl_10, tl_11, tl_12, tl_13, tl_99, tl_100, tl_400] at h1 ⊢) <;> omega))) (Eq.trans (congrArg (fun z => holdS z (mv σ)) (nI_clamp (by omega))) (hold_at hnf h6 (by omega)))) (by rw [mv_v11]) (by rw [cv_v11]) rfl) dX8_holds_93
    refine WM.keep [1, 2, 0] rfl ?_
    refine WM.to (σ1 := va_up σ 11 (σ 11)) ?_ (xself _ _).symm rfl rfl rfl
    exact WM.to (loop (101) 0 (σ 11) (by omega) (fun i hi => absurd hi (Nat.not_lt_zero i))) rfl rfl rfl rfl
  · refine x_aload_n C 0 dX8_holds_12 rfl rfl ?_
    refine x_ldc C dX8_holds_13 kc_X8_46 ?_
    refine x_callVi C (As := [.int ((-1000001))]) (rest := []) (c_finds l E σ τ 0 (by decide) (-1000001) (by decide)) kv_X8_61 (x_recv C (Nat.le_of_ble_eq_true rfl) xd_81 rfl) ⟨Nat.le_of_ble_eq_true rfl, Nat.le_of_ble_eq_true rfl⟩ rfl rfl (Nat.le_of_ble_eq_true rfl) dX8_holds_15 ?_
    exact x_oret C (mpost_of (V := u2 (mv σ) 2 0 (σ 14 0 + 1)) (if_neg (by first | assumption | ((try simp only [rng, mayQ, tI_lt, tI_eq, cvr_0, mvr_0, cvr_c, mvr_c, tl_0, tl_1, tl_2, tl_3, tl_4, tl_5, tl_6, tl_7, tl_8, tl_9, tl_10, tl_11, tl_12, tl_13, tl_99, tl_100, tl_400] at h1 ⊢) <;> omega))) (by rw [mv_u14]) (by rw [cv_u14]) rfl) dX8_holds_18
set_option maxHeartbeats 4000000 in
set_option maxRecDepth 100000 in
theorem c_draw (l : Launch) (E : xE) (σ : Nat → Nat → Int32) (τ : Nat → Int64) (z : Int32) (hz : σ 0 12 = z) : xMi l yX3_draw cX3_draw 1 .int 0 0 E [.ref (xad E (1))] (σ) (τ) (shr8 (drawZ z)) (u2 σ 0 12 (drawZ z)) (τ) := by
  refine xMi_of (own := RX3) (by decide +kernel) rfl (Nat.le_of_ble_eq_true rfl) ?_
  intro zp ze zs zm za zb zh zc C
  refine WM.to (lv1 := [(0, .ref (xad E (1)))]) (st1 := []) (σ1 := σ) (τ1 := τ) ?_ rfl rfl rfl rfl
  subst hz
  refine x_aload_n C 0 dX3_draw_0 rfl rfl ?_
  refine x_aload_n C 0 dX3_draw_1 rfl rfl ?_
  refine x_get C (Nat.le_of_ble_eq_true rfl) xd_1 fl_X3_28 (q := (1, 0, 12)) (v := .int (σ 0 12)) rfl rfl dX3_draw_2 ?_
  refine x_ldc C dX3_draw_5 kc_X3_49 ?_
  refine x_imul C dX3_draw_7 ?_
  refine x_sipush C (v := 12345) dX3_draw_8 (by decide) ?_
  refine x_iadd C dX3_draw_11 ?_
  refine x_put C (σ' := u2 σ 0 12 (((σ 0 12) * 1103515245) + 12345)) (Nat.le_of_ble_eq_true rfl) xd_1 fp_X3_28 rfl rfl rfl rfl dX3_draw_12 ?_
  refine x_aload_n C 0 dX3_draw_15 rfl rfl ?_
  refine x_get C (Nat.le_of_ble_eq_true rfl) xd_1 fl_X3_28 (q := (1, 0, 12)) (v := .int (((σ 0 12) * 1103515245) + 12345)) rfl (congrArg Value.int (u2_at _ _ _ _)) dX3_draw_16 ?_
  refine x_bipush C (v := 8) dX3_draw_19 (by decide) ?_
  refine x_iushr C dX3_draw_21 ?_
  exact x_iret C rfl rfl rfl dX3_draw_22
set_option maxHeartbeats 4000000 in
set_option maxRecDepth 100000 in
theorem c_mdrawn (l : Launch) (E : xE) (σ : Nat → Nat → Int32) (τ : Nat → Int64) (z : Int32) (hz : σ 10 12 = z) : xMi l yX8_drawn cX8_drawn 1 .int 0 0 E [.ref (xad E (81))] (σ) (τ) (shr8 (drawZ z)) (u2 σ 10 12 (drawZ z)) (τ) := by
  refine xMi_of (own := RX8) (by decide +kernel) rfl (Nat.le_of_ble_eq_true rfl) ?_
  intro zp ze zs zm za zb zh zc C
  refine WM.to (lv1 := [(0, .ref (xad E (81)))]) (st1 := []) (σ1 := σ) (τ1 := τ) ?_ rfl rfl rfl rfl
  subst hz
  refine x_aload_n C 0 dX8_drawn_0 rfl rfl ?_
  refine x_get C (Nat.le_of_ble_eq_true rfl) xd_81 fl_X8_9 (q := (0, 82, 0)) (v := .ref (xad E (82))) rfl rfl dX8_drawn_1 ?_
  refine x_bipush C (v := 12) dX8_drawn_4 (by decide) ?_
  refine x_aload_n C 0 dX8_drawn_6 rfl rfl ?_
  refine x_get C (Nat.le_of_ble_eq_true rfl) xd_81 fl_X8_9 (q := (0, 82, 0)) (v := .ref (xad E (82))) rfl rfl dX8_drawn_7 ?_
  refine x_bipush C (v := 12) dX8_drawn_10 (by decide) ?_
  refine x_ald C (Nat.le_of_ble_eq_true rfl) xd_82 (v := σ 10 12) (vp_in_nI (show 12 < 284 by omega) (by decide)) (by rw [(show (12 : Int32).toNatClampNeg = 12 from by decide), Nat.zero_add, Nat.one_mul]) dX8_drawn_12 ?_
  refine x_ldc C dX8_drawn_13 kc_X8_253 ?_
  refine x_imul C dX8_drawn_15 ?_
  refine x_sipush C (v := 12345) dX8_drawn_16 (by decide) ?_
  refine x_iadd C dX8_drawn_19 ?_
  refine x_ast C (σ' := u2 σ 10 12 (((σ 10 12) * 1103515245) + 12345)) (Nat.le_of_ble_eq_true rfl) xd_82 (by decide) (vp_in_nI (show 12 < 284 by omega) (by decide)) (by rw [(show (12 : Int32).toNatClampNeg = 12 from by decide), Nat.zero_add, Nat.one_mul]) dX8_drawn_20 ?_
  refine x_aload_n C 0 dX8_drawn_21 rfl rfl ?_
  refine x_get C (Nat.le_of_ble_eq_true rfl) xd_81 fl_X8_9 (q := (0, 82, 0)) (v := .ref (xad E (82))) rfl rfl dX8_drawn_22 ?_
  refine x_bipush C (v := 12) dX8_drawn_25 (by decide) ?_
  refine x_ald C (Nat.le_of_ble_eq_true rfl) xd_82 (v := ((σ 10 12) * 1103515245) + 12345) (vp_in_nI (show 12 < 284 by omega) (by decide)) (by rw [(show (12 : Int32).toNatClampNeg = 12 from by decide), Nat.zero_add, Nat.one_mul]; exact (u2_at _ _ _ _)) dX8_drawn_27 ?_
  refine x_bipush C (v := 8) dX8_drawn_28 (by decide) ?_
  refine x_iushr C dX8_drawn_30 ?_
  exact x_iret C rfl rfl rfl dX8_drawn_31
set_option maxHeartbeats 4000000 in
set_option maxRecDepth 100000 in
theorem k_chance (l : Launch) (E : xE) (σ : Nat → Nat → Int32) (τ : Nat → Int64) (T : Nat) (hT : T < 1073741824) (tries n : Int32) (hI : Inv (cv σ) T) : xOi l yX7_chance cX7_chance 5 .int 5 112 E [.ref (xad E (0)), .int (tries), .int (n)] σ τ (cpost (sp_chance tries n (cv σ)) σ) := by
  refine xOi_of (own := RX7) (by decide +kernel) rfl (Nat.le_of_ble_eq_true rfl) ?_
  intro zp ze zs zm za zb zh zc C
  refine WM.to (lv1 := [(0, .ref (xad E (0))), (1, .int (tries)), (2, .int (n))]) (st1 := []) (σ1 := σ) (τ1 := τ) ?_ rfl rfl rfl rfl
  have hg : gI (σ 0) := hI.g
  have hgT : gT (σ 0) T := hI.t
  have h0 : 0 ≤ (σ 0 10).toInt := hI.h0
  refine x_iload_n C 1 dX7_chance_0 rfl rfl ?_
  refine x_iconst C (v := 1) dX7_chance_1 (by decide) ?_
  refine x_bipush C (v := 20) dX7_chance_2 (by decide) ?_
  refine x_callSi C (As := [.int (tries), .int (1), .int (20)]) (rest := []) (c_within l E σ τ tries 1 20) ks_X7_59 ⟨Nat.le_of_ble_eq_true rfl, Nat.le_of_ble_eq_true rfl⟩ rfl rfl (Nat.le_of_ble_eq_true rfl) dX7_chance_4 ?_
  refine x_ifeqB C (tgt := 21) dX7_chance_7 (by decide) (fun h1 => ?_) (fun h1 => ?_)
  · refine x_aload_n C 0 dX7_chance_21 rfl rfl ?_
    refine x_ldc C dX7_chance_22 kc_X7_63 ?_
    refine x_callVi C (As := [.int ((-1000001))]) (rest := []) (c_finding l E σ τ 0 (by decide) (-1000001) (by decide)) kv_X7_64 (x_recv C (Nat.le_of_ble_eq_true rfl) xd_0 rfl) ⟨Nat.le_of_ble_eq_true rfl, Nat.le_of_ble_eq_true rfl⟩ rfl rfl (Nat.le_of_ble_eq_true rfl) dX7_chance_24 ?_
    exact x_oret C (cpost_of (V := u2 (cv σ) 2 0 (σ 4 0 + 1)) (if_neg (by first | assumption | ((try simp only [rng, mayQ, tI_lt, tI_eq, cvr_0, mvr_0, cvr_c, mvr_c, tl_0, tl_1, tl_2, tl_3, tl_4, tl_5, tl_6, tl_7, tl_8, tl_9, tl_10, tl_11, tl_12, tl_13, tl_20, tl_99, tl_200] at h1 ⊢) <;> omega))) (by rw [cv_u4]) (by rw [mv_u4]) rfl) dX7_chance_27
  · refine x_iload_n C 2 dX7_chance_10 rfl rfl ?_
    refine x_iconst C (v := 1) dX7_chance_11 (by decide) ?_
    refine x_sipush C (v := 200) dX7_chance_12 (by decide) ?_
    refine x_callSi C (As := [.int (n), .int (1), .int (200)]) (rest := []) (c_within l E σ τ n 1 200) ks_X7_59 ⟨Nat.le_of_ble_eq_true rfl, Nat.le_of_ble_eq_true rfl⟩ rfl rfl (Nat.le_of_ble_eq_true rfl) dX7_chance_15 ?_
    refine x_ifneB C (tgt := 28) dX7_chance_18 (by decide) (fun h2 => ?_) (fun h2 => ?_)
    · obtain ⟨q, hqa, hqb, rfl⟩ := rngN (a := 1) (b := 20) h1 (by decide) (by decide) (by decide)
      obtain ⟨qn, hqna, hqnb, rfl⟩ := rngN (a := 1) (b := 200) h2 (by decide) (by decide) (by decide)
      refine x_iconst C (v := 0) dX7_chance_28 (by decide) ?_
      refine x_istore_n C (lv1 := [(3, .int (0)), (0, .ref (xad E (0))), (1, .int (nI q)), (2, .int (nI qn))]) dX7_chance_29 rfl (by decide) rfl ?_
      refine x_iconst C (v := 0) dX7_chance_30 (by decide) ?_
      refine x_istore C (lv1 := [(4, .int (0)), (3, .int (0)), (0, .ref (xad E (0))), (1, .int (nI q)), (2, .int (nI qn))]) dX7_chance_31 (by decide) rfl ?_
      have loop : ∀ (j k : Nat) (hB : Nat → Int32), j + k = q → WM zp l ze { frames := 5, cells := 0, slots := 0, locals := 112 } zs zm za zb zh zc 0 0 (MQ zb (va_Qi (fun r (u : xV × (Nat → Int64)) => (cpost (sp_chance (nI q) (nI qn) (cv σ)) σ) r u.1) (fun u t => xP E u.1 u.2 t.heap) (xA E)) za zs 0 0 (xA E)) E (xA E) 5 (va_up (u2 σ 0 12 (zN (σ 0 12) k)) 2 hB) (τ) 33 [(0, .ref (xad E (0))), (1, .int (nI q)), (2, .int (nI qn)), (3, .int (chN (σ 0) qn k)), (4, .int (nI k))] [] := by
        intro j
        induction j with
        | zero =>
          intro k hB hk
          refine x_iload C 4 dX7_chance_33 rfl ?_
          refine x_iload_n C 1 dX7_chance_35 rfl rfl ?_
          refine x_icmp_ge C (tgt := 100) dX7_chance_36 (by decide) (fun h3 => ?_) (fun h3 => absurd h3 (nI_nlt (a := k) (b := q) (by omega) (by omega)))
          refine x_iload_n C 3 dX7_chance_100 rfl rfl ?_
          exact x_oret C (cpost_of (V := u2 (cv σ) 0 12 (zN (σ 0 12) k)) (Eq.trans (if_pos (by first | assumption | ((try simp only [rng, mayQ, tI_lt, tI_eq, cvr_0, mvr_0, cvr_c, mvr_c, tl_0, tl_1, tl_2, tl_3, tl_4, tl_5, tl_6, tl_7, tl_8, tl_9, tl_10, tl_11, tl_12, tl_13, tl_20, tl_99, tl_200] at h1 h2 ⊢) <;> omega))) (by rw [nI_clamp (by omega), nI_clamp (by omega)]; obtain rfl : k = q := (by omega); rfl)) (by rw [cv_v2, cv_u0]) (by rw [mv_v2, mv_u0]) rfl) dX7_chance_101
        | succ j ih =>
          intro k hB hk
          refine x_iload C 4 dX7_chance_33 rfl ?_
          refine x_iload_n C 1 dX7_chance_35 rfl rfl ?_
          refine x_icmp_ge C (tgt := 100) dX7_chance_36 (by decide) (fun h4 => absurd (nI_lt (a := k) (b := q) (by omega) (by omega)) h4) (fun h4 => ?_)
          refine x_aload_n C 0 dX7_chance_39 rfl rfl ?_
          refine x_get C (Nat.le_of_ble_eq_true rfl) xd_0 fl_X7_40 (q := (0, 59, 0)) (v := .ref (xad E (59))) rfl rfl dX7_chance_40 ?_
          refine x_aload_n C 0 dX7_chance_43 rfl rfl ?_
          refine x_get C (Nat.le_of_ble_eq_true rfl) xd_0 fl_X7_12 (q := (0, 1, 0)) (v := .ref (xad E (1))) rfl rfl dX7_chance_44 ?_
          refine x_get C (Nat.le_of_ble_eq_true rfl) xd_1 fl_X7_68 (q := (0, 2, 0)) (v := .ref (xad E (2))) rfl rfl dX7_chance_47 ?_
          refine x_callVv C (As := [.ref (xad E (2))]) (rest := []) (cW_become l E (va_up (u2 σ 0 12 (zN (σ 0 12) k)) 2 hB) τ 2 0 (by decide) (by decide) (by decide)) kv_X7_190 (x_recv C (Nat.le_of_ble_eq_true rfl) xd_59 rfl) ⟨Nat.le_of_ble_eq_true rfl, Nat.le_of_ble_eq_true rfl⟩ rfl rfl (Nat.le_of_ble_eq_true rfl) dX7_chance_50 ?_
          refine WM.alter (σ' := va_up (va_up (u2 σ 0 12 (zN (σ 0 12) k)) 2 hB) 2 ((va_up (u2 σ 0 12 (zN (σ 0 12) k)) 2 hB) 0)) (mix_run (by decide)) ?_
          refine WM.to (σ1 := va_up (u2 σ 0 12 (zN (σ 0 12) k)) 2 (upd (σ 0) 12 (zN (σ 0 12) k))) ?_ (Eq.trans (xupup _ _ _ _) (congrArg (va_up _ _) (Eq.trans (va_up_ne _ (j := 0) (k := 2) _ (by decide)) (u2_bk _ _ _ _)))) rfl rfl rfl
          refine WM.alter (σ' := va_up (u2 σ 0 12 (zN (σ 0 12) k)) 2 (upd (σ 0) 12 (zN (σ 0 12) (k + 1)))) ch_alter ?_
          refine x_aload_n C 0 dX7_chance_53 rfl rfl ?_
          refine x_get C (Nat.le_of_ble_eq_true rfl) xd_0 fl_X7_40 (q := (0, 59, 0)) (v := .ref (xad E (59))) rfl rfl dX7_chance_54 ?_
          refine x_aload_n C 0 dX7_chance_57 rfl rfl ?_
          refine x_get C (Nat.le_of_ble_eq_true rfl) xd_0 fl_X7_12 (q := (0, 1, 0)) (v := .ref (xad E (1))) rfl rfl dX7_chance_58 ?_
          refine x_callVi C (As := []) (rest := [.ref (xad E (59))]) (c_draw l E (va_up (u2 σ 0 12 (zN (σ 0 12) k)) 2 (upd (σ 0) 12 (zN (σ 0 12) (k + 1)))) τ (zN (σ 0 12) k) (Eq.trans (congrFun (va_up_ne _ (j := 0) (k := 2) _ (by decide)) _) (u2_at _ _ _ _))) kv_X7_219 (x_recv C (Nat.le_of_ble_eq_true rfl) xd_1 rfl) ⟨Nat.le_of_ble_eq_true rfl, Nat.le_of_ble_eq_true rfl⟩ rfl rfl (Nat.le_of_ble_eq_true rfl) dX7_chance_61 ?_
          refine WM.to (σ1 := va_up (u2 σ 0 12 (zN (σ 0 12) (k + 1))) 2 (upd (σ 0) 12 (zN (σ 0 12) (k + 1)))) ?_ (ch_u (by decide)) rfl rfl rfl
          refine x_bipush C (v := 21) dX7_chance_64 (by decide) ?_
          refine x_irem C dX7_chance_66 (by decide) ?_
          refine WM.topi (y := xrem (shr8 (zN (σ 0 12) (k + 1))) 21) rfl ?_
          refine x_bipush C (v := 10) dX7_chance_67 (by decide) ?_
          refine x_isub C dX7_chance_69 ?_
          refine WM.topi (y := byZ (zN (σ 0 12) (k + 1))) rfl ?_
          refine x_callVv C (As := [.int (byZ (zN (σ 0 12) (k + 1)))]) (rest := []) (cW_nudge l E (u2 σ 0 12 (zN (σ 0 12) (k + 1))) τ 2 (by decide) (upd (σ 0) 12 (zN (σ 0 12) (k + 1))) (byZ (zN (σ 0 12) (k + 1)))) kv_X7_100 (x_recv C (Nat.le_of_ble_eq_true rfl) xd_59 rfl) ⟨Nat.le_of_ble_eq_true rfl, Nat.le_of_ble_eq_true rfl⟩ rfl rfl (Nat.le_of_ble_eq_true rfl) dX7_chance_70 ?_
          refine x_aload_n C 0 dX7_chance_73 rfl rfl ?_
          refine x_get C (Nat.le_of_ble_eq_true rfl) xd_0 fl_X7_40 (q := (0, 59, 0)) (v := .ref (xad E (59))) rfl rfl dX7_chance_74 ?_
          refine x_iload_n C 2 dX7_chance_77 rfl rfl ?_
          refine x_callVv C (As := [.int (nI qn)]) (rest := []) (cW_steps l E (u2 σ 0 12 (zN (σ 0 12) (k + 1))) τ 2 (by decide) (touchG (upd (σ 0) 12 (zN (σ 0 12) (k + 1))) (byZ (zN (σ 0 12) (k + 1)))) qn T (by omega) (gI_touch (gI_12 hg _) _) (gT_touch (gT_12 hgT _) _) (by omega)) kv_X7_111 (x_recv C (Nat.le_of_ble_eq_true rfl) xd_59 rfl) ⟨Nat.le_of_ble_eq_true rfl, Nat.le_of_ble_eq_true rfl⟩ rfl rfl (Nat.le_of_ble_eq_true rfl) dX7_chance_78 ?_
          refine x_aload_n C 0 dX7_chance_81 rfl rfl ?_
          refine x_get C (Nat.le_of_ble_eq_true rfl) xd_0 fl_X7_40 (q := (0, 59, 0)) (v := .ref (xad E (59))) rfl rfl dX7_chance_82 ?_
          refine x_get C (Nat.le_of_ble_eq_true rfl) xd_59 fl_X7_104 (q := (1, 2, 4)) (v := .int ((stepsG (touchG (upd (σ 0) 12 (zN (σ 0 12) (k + 1))) (byZ (zN (σ 0 12) (k + 1)))) qn) 4)) rfl (congrArg Value.int (congrFun (va_up_self _ _ _) _)) dX7_chance_85 ?_
          refine x_if_le C (tgt := 94) dX7_chance_88 (by decide) (fun h5 => ?_) (fun h5 => ?_)
          · refine x_iinc C (v := nI (k + 1)) (lv1 := [(4, .int (nI (k + 1))), (0, .ref (xad E (0))), (1, .int (nI q)), (2, .int (nI qn)), (3, .int (chN (σ 0) qn k))]) 4 dX7_chance_94 rfl (nI_add k 1) (by decide) rfl ?_
            refine x_goto2 C (tgt := 33) dX7_chance_97 (by decide) ?_
            refine WM.keep [1, 2, 3, 4, 0] (lv' := [(0, .ref (xad E (0))), (1, .int (nI q)), (2, .int (nI qn)), (3, .int (chN (σ 0) qn k)), (4, .int (nI (k + 1)))]) rfl ?_
            exact WM.to (ih (k + 1) (stepsG (touchG (upd (σ 0) 12 (zN (σ 0 12) (k + 1))) (byZ (zN (σ 0 12) (k + 1)))) qn) (by omega)) rfl rfl (by rw [show chN (σ 0) qn (k + 1) = chN (σ 0) qn k from if_neg h5]) rfl
          · refine x_iinc C (v := (chN (σ 0) qn k) + 1) (lv1 := [(3, .int ((chN (σ 0) qn k) + 1)), (0, .ref (xad E (0))), (1, .int (nI q)), (2, .int (nI qn)), (4, .int (nI k))]) 3 dX7_chance_91 rfl rfl (by decide) rfl ?_
            refine x_iinc C (v := nI (k + 1)) (lv1 := [(4, .int (nI (k + 1))), (3, .int ((chN (σ 0) qn k) + 1)), (0, .ref (xad E (0))), (1, .int (nI q)), (2, .int (nI qn))]) 4 dX7_chance_94 rfl (nI_add k 1) (by decide) rfl ?_
            refine x_goto2 C (tgt := 33) dX7_chance_97 (by decide) ?_
            refine WM.keep [2, 3, 4, 1, 0] (lv' := [(0, .ref (xad E (0))), (1, .int (nI q)), (2, .int (nI qn)), (3, .int ((chN (σ 0) qn k) + 1)), (4, .int (nI (k + 1)))]) rfl ?_
            exact WM.to (ih (k + 1) (stepsG (touchG (upd (σ 0) 12 (zN (σ 0 12) (k + 1))) (byZ (zN (σ 0 12) (k + 1)))) qn) (by omega)) rfl rfl (by rw [show chN (σ 0) qn (k + 1) = chN (σ 0) qn k + 1 from if_pos h5]) rfl
      refine WM.keep [2, 3, 4, 1, 0] rfl ?_
      refine WM.to (σ1 := va_up σ 2 (σ 2)) ?_ (xself _ _).symm rfl rfl rfl
      exact WM.to (loop (q) 0 (σ 2) (by omega)) (ch_0 σ 0 12 2 _) rfl rfl rfl
    · refine x_aload_n C 0 dX7_chance_21 rfl rfl ?_
      refine x_ldc C dX7_chance_22 kc_X7_63 ?_
      refine x_callVi C (As := [.int ((-1000001))]) (rest := []) (c_finding l E σ τ 0 (by decide) (-1000001) (by decide)) kv_X7_64 (x_recv C (Nat.le_of_ble_eq_true rfl) xd_0 rfl) ⟨Nat.le_of_ble_eq_true rfl, Nat.le_of_ble_eq_true rfl⟩ rfl rfl (Nat.le_of_ble_eq_true rfl) dX7_chance_24 ?_
      exact x_oret C (cpost_of (V := u2 (cv σ) 2 0 (σ 4 0 + 1)) (if_neg (by first | assumption | ((try simp only [rng, mayQ, tI_lt, tI_eq, cvr_0, mvr_0, cvr_c, mvr_c, tl_0, tl_1, tl_2, tl_3, tl_4, tl_5, tl_6, tl_7, tl_8, tl_9, tl_10, tl_11, tl_12, tl_13, tl_20, tl_99, tl_200] at h1 h2 ⊢) <;> omega))) (by rw [cv_u4]) (by rw [mv_u4]) rfl) dX7_chance_27
set_option maxHeartbeats 4000000 in
set_option maxRecDepth 100000 in
theorem m_chance (l : Launch) (E : xE) (σ : Nat → Nat → Int32) (τ : Nat → Int64) (T : Nat) (hT : T < 1073741824) (tries n : Int32) (hI : Inv (mv σ) T) (hlv : ∀ j, j < 12 → σ 15 j = (xzl 1).getD j 0) : xOi l yX8_chance cX8_chance 6 .int 4 92 E [.ref (xad E (81)), .int (tries), .int (n)] σ τ (mpost (sp_chance tries n (mv σ)) σ) := by
  refine xOi_of (own := RX8) (by decide +kernel) rfl (Nat.le_of_ble_eq_true rfl) ?_
  intro zp ze zs zm za zb zh zc C
  refine WM.to (lv1 := [(0, .ref (xad E (81))), (1, .int (tries)), (2, .int (n))]) (st1 := []) (σ1 := σ) (τ1 := τ) ?_ rfl rfl rfl rfl
  have hg : gI (σ 10) := hI.g
  have hgT : gT (σ 10) T := hI.t
  have h0 : 0 ≤ (σ 10 10).toInt := hI.h0
  refine x_iload_n C 1 dX8_chance_0 rfl rfl ?_
  refine x_i2l C dX8_chance_1 ?_
  refine x_lconst C (v := 1) dX8_chance_2 (by decide) ?_
  refine x_ldc2 C dX8_chance_3 kc_X8_254 ?_
  refine x_callSi C (As := [.long (Int32.toInt64 tries), .long (1), .long (20)]) (rest := []) (c_in l E σ τ (Int32.toInt64 tries) 1 20) ks_X8_49 ⟨Nat.le_of_ble_eq_true rfl, Nat.le_of_ble_eq_true rfl⟩ rfl rfl (Nat.le_of_ble_eq_true rfl) dX8_chance_6 ?_
  refine WM.topi (y := if rng tries 1 20 then 1 else 0) (in_eq tries 1 20 (by decide) (by decide)) ?_
  refine x_ifeqB C (tgt := 24) dX8_chance_9 (by decide) (fun h1 => ?_) (fun h1 => ?_)
  · refine x_aload_n C 0 dX8_chance_24 rfl rfl ?_
    refine x_ldc C dX8_chance_25 kc_X8_46 ?_
    refine x_callVi C (As := [.int ((-1000001))]) (rest := []) (c_finds l E σ τ 0 (by decide) (-1000001) (by decide)) kv_X8_61 (x_recv C (Nat.le_of_ble_eq_true rfl) xd_81 rfl) ⟨Nat.le_of_ble_eq_true rfl, Nat.le_of_ble_eq_true rfl⟩ rfl rfl (Nat.le_of_ble_eq_true rfl) dX8_chance_27 ?_
    exact x_oret C (mpost_of (V := u2 (mv σ) 2 0 (σ 14 0 + 1)) (if_neg (by first | assumption | ((try simp only [rng, mayQ, tI_lt, tI_eq, cvr_0, mvr_0, cvr_c, mvr_c, tl_0, tl_1, tl_2, tl_3, tl_4, tl_5, tl_6, tl_7, tl_8, tl_9, tl_10, tl_11, tl_12, tl_13, tl_20, tl_99, tl_200] at h1 ⊢) <;> omega))) (by rw [mv_u14]) (by rw [cv_u14]) rfl) dX8_chance_30
  · refine x_iload_n C 2 dX8_chance_12 rfl rfl ?_
    refine x_i2l C dX8_chance_13 ?_
    refine x_lconst C (v := 1) dX8_chance_14 (by decide) ?_
    refine x_ldc2 C dX8_chance_15 kc_X8_92 ?_
    refine x_callSi C (As := [.long (Int32.toInt64 n), .long (1), .long (200)]) (rest := []) (c_in l E σ τ (Int32.toInt64 n) 1 200) ks_X8_49 ⟨Nat.le_of_ble_eq_true rfl, Nat.le_of_ble_eq_true rfl⟩ rfl rfl (Nat.le_of_ble_eq_true rfl) dX8_chance_18 ?_
    refine WM.topi (y := if rng n 1 200 then 1 else 0) (in_eq n 1 200 (by decide) (by decide)) ?_
    refine x_ifneB C (tgt := 31) dX8_chance_21 (by decide) (fun h2 => ?_) (fun h2 => ?_)
    · obtain ⟨q, hqa, hqb, rfl⟩ := rngN (a := 1) (b := 20) h1 (by decide) (by decide) (by decide)
      obtain ⟨qn, hqna, hqnb, rfl⟩ := rngN (a := 1) (b := 200) h2 (by decide) (by decide) (by decide)
      refine x_iconst C (v := 0) dX8_chance_31 (by decide) ?_
      refine x_istore_n C (lv1 := [(3, .int (0)), (0, .ref (xad E (81))), (1, .int (nI q)), (2, .int (nI qn))]) dX8_chance_32 rfl (by decide) rfl ?_
      refine x_iconst C (v := 0) dX8_chance_33 (by decide) ?_
      refine x_istore C (lv1 := [(4, .int (0)), (3, .int (0)), (0, .ref (xad E (81))), (1, .int (nI q)), (2, .int (nI qn))]) dX8_chance_34 (by decide) rfl ?_
      have loop : ∀ (j k : Nat) (hB : Nat → Int32), j + k = q → WM zp l ze { frames := 4, cells := 0, slots := 0, locals := 92 } zs zm za zb zh zc 0 0 (MQ zb (va_Qi (fun r (u : xV × (Nat → Int64)) => (mpost (sp_chance (nI q) (nI qn) (mv σ)) σ) r u.1) (fun u t => xP E u.1 u.2 t.heap) (xA E)) za zs 0 0 (xA E)) E (xA E) 6 (va_up (u2 σ 10 12 (zN (σ 10 12) k)) 11 hB) (τ) 36 [(0, .ref (xad E (81))), (1, .int (nI q)), (2, .int (nI qn)), (3, .int (chN (σ 10) qn k)), (4, .int (nI k))] [] := by
        intro j
        induction j with
        | zero =>
          intro k hB hk
          refine x_iload C 4 dX8_chance_36 rfl ?_
          refine x_iload_n C 1 dX8_chance_38 rfl rfl ?_
          refine x_icmp_ge C (tgt := 106) dX8_chance_39 (by decide) (fun h3 => ?_) (fun h3 => absurd h3 (nI_nlt (a := k) (b := q) (by omega) (by omega)))
          refine x_iload_n C 3 dX8_chance_106 rfl rfl ?_
          exact x_oret C (mpost_of (V := u2 (mv σ) 0 12 (zN (σ 10 12) k)) (Eq.trans (if_pos (by first | assumption | ((try simp only [rng, mayQ, tI_lt, tI_eq, cvr_0, mvr_0, cvr_c, mvr_c, tl_0, tl_1, tl_2, tl_3, tl_4, tl_5, tl_6, tl_7, tl_8, tl_9, tl_10, tl_11, tl_12, tl_13, tl_20, tl_99, tl_200] at h1 h2 ⊢) <;> omega))) (by rw [nI_clamp (by omega), nI_clamp (by omega)]; obtain rfl : k = q := (by omega); rfl)) (by rw [mv_v11, mv_u10]) (by rw [cv_v11, cv_u10]) rfl) dX8_chance_107
        | succ j ih =>
          intro k hB hk
          refine x_iload C 4 dX8_chance_36 rfl ?_
          refine x_iload_n C 1 dX8_chance_38 rfl rfl ?_
          refine x_icmp_ge C (tgt := 106) dX8_chance_39 (by decide) (fun h4 => absurd (nI_lt (a := k) (b := q) (by omega) (by omega)) h4) (fun h4 => ?_)
          refine x_aload_n C 0 dX8_chance_42 rfl rfl ?_
          refine x_callVi C (As := []) (rest := []) (c_mdrawn l E (va_up (u2 σ 10 12 (zN (σ 10 12) k)) 11 hB) τ (zN (σ 10 12) k) (Eq.trans (congrFun (va_up_ne _ (j := 10) (k := 11) _ (by decide)) _) (u2_at _ _ _ _))) kv_X8_256 (x_recv C (Nat.le_of_ble_eq_true rfl) xd_81 rfl) ⟨Nat.le_of_ble_eq_true rfl, Nat.le_of_ble_eq_true rfl⟩ rfl rfl (Nat.le_of_ble_eq_true rfl) dX8_chance_43 ?_
          refine WM.to (σ1 := va_up (u2 σ 10 12 (zN (σ 10 12) (k + 1))) 11 hB) ?_ (ch_u (by decide)) rfl rfl rfl
          refine x_bipush C (v := 21) dX8_chance_46 (by decide) ?_
          refine x_irem C dX8_chance_48 (by decide) ?_
          refine WM.topi (y := xrem (shr8 (zN (σ 10 12) (k + 1))) 21) rfl ?_
          refine x_bipush C (v := 10) dX8_chance_49 (by decide) ?_
          refine x_isub C dX8_chance_51 ?_
          refine WM.topi (y := byZ (zN (σ 10 12) (k + 1))) rfl ?_
          refine x_istore C (lv1 := [(5, .int (byZ (zN (σ 10 12) (k + 1)))), (0, .ref (xad E (81))), (1, .int (nI q)), (2, .int (nI qn)), (3, .int (chN (σ 10) qn k)), (4, .int (nI k))]) dX8_chance_52 (by decide) rfl ?_
          refine x_aload_n C 1 dX8_chance_54 rfl rfl ?_
          refine x_get C (Nat.le_of_ble_eq_true rfl) xd_81 fl_X8_9 (q := (0, 82, 0)) (v := .ref (xad E (82))) rfl rfl dX8_chance_55 ?_
          refine x_aload_n C 1 dX8_chance_58 rfl rfl ?_
          refine x_get C (Nat.le_of_ble_eq_true rfl) xd_81 fl_X8_13 (q := (0, 83, 0)) (v := .ref (xad E (83))) rfl rfl dX8_chance_59 ?_
          refine x_callSv C (As := [.ref (xad E (82)), .ref (xad E (83))]) (rest := []) (cM_copies l E (va_up (u2 σ 10 12 (zN (σ 10 12) (k + 1))) 11 hB) τ 10 11 (by decide) (by decide) (by decide)) ks_X8_235 ⟨Nat.le_of_ble_eq_true rfl, Nat.le_of_ble_eq_true rfl⟩ rfl rfl (Nat.le_of_ble_eq_true rfl) dX8_chance_62 ?_
          refine WM.to (σ1 := va_up (u2 σ 10 12 (zN (σ 10 12) (k + 1))) 11 (upd (σ 10) 12 (zN (σ 10 12) (k + 1)))) ?_ (Eq.trans (xupup _ _ _ _) (congrArg (va_up _ _) (Eq.trans (va_up_ne _ (j := 10) (k := 11) _ (by decide)) (u2_bk _ _ _ _)))) rfl rfl rfl
          refine x_aload_n C 1 dX8_chance_65 rfl rfl ?_
          refine x_get C (Nat.le_of_ble_eq_true rfl) xd_81 fl_X8_13 (q := (0, 83, 0)) (v := .ref (xad E (83))) rfl rfl dX8_chance_66 ?_
          refine x_iload C 0 dX8_chance_69 rfl ?_
          refine x_callSv C (As := [.ref (xad E (83)), .int (byZ (zN (σ 10 12) (k + 1)))]) (rest := []) (cM_touches l E (u2 σ 10 12 (zN (σ 10 12) (k + 1))) τ 11 (by decide) (upd (σ 10) 12 (zN (σ 10 12) (k + 1))) (byZ (zN (σ 10 12) (k + 1))) (gI_12 hg _) (byZ_in _)) ks_X8_94 ⟨Nat.le_of_ble_eq_true rfl, Nat.le_of_ble_eq_true rfl⟩ rfl rfl (Nat.le_of_ble_eq_true rfl) dX8_chance_71 ?_
          refine x_aload_n C 1 dX8_chance_74 rfl rfl ?_
          refine x_aload_n C 1 dX8_chance_75 rfl rfl ?_
          refine x_get C (Nat.le_of_ble_eq_true rfl) xd_81 fl_X8_13 (q := (0, 83, 0)) (v := .ref (xad E (83))) rfl rfl dX8_chance_76 ?_
          refine x_iload_n C 3 dX8_chance_79 rfl rfl ?_
          refine x_callVv C (As := [.ref (xad E (83)), .int (nI qn)]) (rest := []) (cM_goesOn l E (u2 σ 10 12 (zN (σ 10 12) (k + 1))) τ 11 (by decide) (touchG (upd (σ 10) 12 (zN (σ 10 12) (k + 1))) (byZ (zN (σ 10 12) (k + 1)))) qn T (by omega) (gI_touch (gI_12 hg _) _) (gT_touch (gT_12 hgT _) _) (by omega) hlv) kv_X8_113 (x_recv C (Nat.le_of_ble_eq_true rfl) xd_81 rfl) ⟨Nat.le_of_ble_eq_true rfl, Nat.le_of_ble_eq_true rfl⟩ rfl rfl (Nat.le_of_ble_eq_true rfl) dX8_chance_80 ?_
          refine x_iload_n C 4 dX8_chance_83 rfl rfl ?_
          refine x_aload_n C 1 dX8_chance_84 rfl rfl ?_
          refine x_get C (Nat.le_of_ble_eq_true rfl) xd_81 fl_X8_13 (q := (0, 83, 0)) (v := .ref (xad E (83))) rfl rfl dX8_chance_85 ?_
          refine x_iconst C (v := 4) dX8_chance_88 (by decide) ?_
          refine x_ald C (Nat.le_of_ble_eq_true rfl) xd_83 (v := (stepsG (touchG (upd (σ 10) 12 (zN (σ 10 12) (k + 1))) (byZ (zN (σ 10 12) (k + 1)))) qn) 4) (vp_in_nI (show 4 < 284 by omega) (by decide)) (by rw [(show (4 : Int32).toNatClampNeg = 4 from by decide), Nat.zero_add, Nat.one_mul]; exact (congrFun (va_up_self _ _ _) _)) dX8_chance_89 ?_
          refine x_if_le C (tgt := 97) dX8_chance_90 (by decide) (fun h5 => ?_) (fun h5 => ?_)
          · refine x_iconst C (v := 0) dX8_chance_97 (by decide) ?_
            refine x_iadd C dX8_chance_98 ?_
            refine x_istore_n C (lv1 := [(3, .int ((chN (σ 10) qn k) + 0)), (5, .int (byZ (zN (σ 10 12) (k + 1)))), (0, .ref (xad E (81))), (1, .int (nI q)), (2, .int (nI qn)), (4, .int (nI k))]) dX8_chance_99 rfl (by decide) rfl ?_
            refine x_iinc C (v := nI (k + 1)) (lv1 := [(4, .int (nI (k + 1))), (3, .int ((chN (σ 10) qn k) + 0)), (5, .int (byZ (zN (σ 10 12) (k + 1)))), (0, .ref (xad E (81))), (1, .int (nI q)), (2, .int (nI qn))]) 5 dX8_chance_100 rfl (nI_add k 1) (by decide) rfl ?_
            refine x_goto2 C (tgt := 36) dX8_chance_103 (by decide) ?_
            refine WM.keep [3, 4, 5, 1, 0] (lv' := [(0, .ref (xad E (81))), (1, .int (nI q)), (2, .int (nI qn)), (3, .int ((chN (σ 10) qn k) + 0)), (4, .int (nI (k + 1)))]) rfl ?_
            exact WM.to (ih (k + 1) (stepsG (touchG (upd (σ 10) 12 (zN (σ 10 12) (k + 1))) (byZ (zN (σ 10 12) (k + 1)))) qn) (by omega)) rfl rfl (by rw [show chN (σ 10) qn (k + 1) = chN (σ 10) qn k from if_neg h5]; simp) rfl
          · refine x_iconst C (v := 1) dX8_chance_93 (by decide) ?_
            refine x_goto2 C (tgt := 98) dX8_chance_94 (by decide) ?_
            refine x_iadd C dX8_chance_98 ?_
            refine x_istore_n C (lv1 := [(3, .int ((chN (σ 10) qn k) + 1)), (5, .int (byZ (zN (σ 10 12) (k + 1)))), (0, .ref (xad E (81))), (1, .int (nI q)), (2, .int (nI qn)), (4, .int (nI k))]) dX8_chance_99 rfl (by decide) rfl ?_
            refine x_iinc C (v := nI (k + 1)) (lv1 := [(4, .int (nI (k + 1))), (3, .int ((chN (σ 10) qn k) + 1)), (5, .int (byZ (zN (σ 10 12) (k + 1)))), (0, .ref (xad E (81))), (1, .int (nI q)), (2, .int (nI qn))]) 5 dX8_chance_100 rfl (nI_add k 1) (by decide) rfl ?_
            refine x_goto2 C (tgt := 36) dX8_chance_103 (by decide) ?_
            refine WM.keep [3, 4, 5, 1, 0] (lv' := [(0, .ref (xad E (81))), (1, .int (nI q)), (2, .int (nI qn)), (3, .int ((chN (σ 10) qn k) + 1)), (4, .int (nI (k + 1)))]) rfl ?_
            exact WM.to (ih (k + 1) (stepsG (touchG (upd (σ 10) 12 (zN (σ 10 12) (k + 1))) (byZ (zN (σ 10 12) (k + 1)))) qn) (by omega)) rfl rfl (by rw [show chN (σ 10) qn (k + 1) = chN (σ 10) qn k + 1 from if_pos h5]) rfl
      refine WM.keep [2, 3, 4, 1, 0] rfl ?_
      refine WM.to (σ1 := va_up σ 11 (σ 11)) ?_ (xself _ _).symm rfl rfl rfl
      exact WM.to (loop (q) 0 (σ 11) (by omega)) (ch_0 σ 10 12 11 _) rfl rfl rfl
    · refine x_aload_n C 0 dX8_chance_24 rfl rfl ?_
      refine x_ldc C dX8_chance_25 kc_X8_46 ?_
      refine x_callVi C (As := [.int ((-1000001))]) (rest := []) (c_finds l E σ τ 0 (by decide) (-1000001) (by decide)) kv_X8_61 (x_recv C (Nat.le_of_ble_eq_true rfl) xd_81 rfl) ⟨Nat.le_of_ble_eq_true rfl, Nat.le_of_ble_eq_true rfl⟩ rfl rfl (Nat.le_of_ble_eq_true rfl) dX8_chance_27 ?_
      exact x_oret C (mpost_of (V := u2 (mv σ) 2 0 (σ 14 0 + 1)) (if_neg (by first | assumption | ((try simp only [rng, mayQ, tI_lt, tI_eq, cvr_0, mvr_0, cvr_c, mvr_c, tl_0, tl_1, tl_2, tl_3, tl_4, tl_5, tl_6, tl_7, tl_8, tl_9, tl_10, tl_11, tl_12, tl_13, tl_20, tl_99, tl_200] at h1 h2 ⊢) <;> omega))) (by rw [mv_u14]) (by rw [cv_u14]) rfl) dX8_chance_30
