/-! runs: what is copied, what goes on from it -/
def inRs (rs : List (Nat × Nat)) (a z : Nat) : Bool := rs.any (fun r => decide (r.1 ≤ a) && decide (z < r.2))
def chkB (b : Nat) (rs : List (Nat × Nat)) (d : xDs) : Bool := if d.1 < 9 then d.2.all (fun q => !(q.1 == 1 && q.2.1 == b) || inRs rs q.2.2 q.2.2) else if d.1 = 9 then (!((xq d 0).2.1 == b) || inRs rs (xq d 0).2.2 ((xq d 0).2.2 + (xq d 1).1 * ((xq d 0).1 - 1))) else true
theorem inRs_of {rs : List (Nat × Nat)} {a z i : Nat} (h : inRs rs a z = true) (h1 : a ≤ i) (h2 : i ≤ z) : ∃ r, r ∈ rs ∧ r.1 ≤ i ∧ i < r.2 := by
  obtain ⟨r, hr, h3⟩ := List.any_eq_true.mp h
  simp only [Bool.and_eq_true, decide_eq_true_eq] at h3
  exact ⟨r, hr, by omega, by omega⟩
theorem chk_in {b : Nat} {rs : List (Nat × Nat)} {d : xDs} {i : Nat} (h : chkB b rs d = true) (hx : xin d b i = true) : ∃ r, r ∈ rs ∧ r.1 ≤ i ∧ i < r.2 := by
  unfold chkB at h
  unfold xin at hx
  by_cases h1 : d.1 < 9
  · rw [if_pos h1] at h hx
    obtain ⟨q, hq, hq2⟩ := List.any_eq_true.mp hx
    have h3 := List.all_eq_true.mp h q hq
    simp only [Bool.and_eq_true, beq_iff_eq] at hq2
    obtain ⟨e1, e2, e3⟩ := hq2
    rw [e1, e2, e3] at h3
    simp only [BEq.rfl, Bool.and_self, Bool.not_true, Bool.false_or] at h3
    exact inRs_of h3 (Nat.le_refl _) (Nat.le_refl _)
  · rw [if_neg h1] at h hx
    by_cases h2 : d.1 = 9
    · rw [if_pos h2] at h hx
      simp only [Bool.and_eq_true, beq_iff_eq, decide_eq_true_eq] at hx
      obtain ⟨e1, e2, e3, e4⟩ := hx
      rw [e1] at h
      simp only [BEq.rfl, Bool.not_true, Bool.false_or] at h
      refine inRs_of h e2 ?_
      have h5 := Nat.div_add_mod (i - (xq d 0).2.2) (xq d 1).1
      have h6 : (xq d 1).1 * ((i - (xq d 0).2.2) / (xq d 1).1) ≤ (xq d 1).1 * ((xq d 0).1 - 1) := Nat.mul_le_mul_left _ (by omega)
      omega
    · rw [if_neg h2] at hx
      exact absurd hx (by decide)
theorem run_alter {E : xE} {S : xV} {τ : Nat → Int64} {b : Nat} {f g : Nat → Int32} (rs : List (Nat × Nat)) (hc : ∀ j, j < 94 → chkB b rs (xd j) = true) (hfg : ∀ i, (∃ r, r ∈ rs ∧ r.1 ≤ i ∧ i < r.2) → f i = g i) : ∀ j, j < 94 → xce E (va_up S b f) τ (xd j) = xce E (va_up S b g) τ (xd j) := by
  intro j hj
  refine xce_agree (fun c i hx => ?_) (fun _ _ => rfl)
  by_cases e : c = b
  · subst e
    rw [va_up_self, va_up_self]
    exact hfg i (chk_in (hc j hj) hx)
  · rw [va_up_ne _ _ e, va_up_ne _ _ e]
theorem chk_2 : ∀ j, j < 94 → chkB 2 [(0, 12), (20, 124)] (xd j) = true := by decide +kernel
theorem chk_3 : ∀ j, j < 94 → chkB 3 [(0, 12), (20, 124)] (xd j) = true := by decide +kernel
theorem chk_10 : ∀ j, j < 94 → chkB 10 [(0, 284)] (xd j) = true := by decide +kernel
theorem chk_11 : ∀ j, j < 94 → chkB 11 [(0, 284)] (xd j) = true := by decide +kernel
theorem chk_12 : ∀ j, j < 94 → chkB 12 [(0, 284)] (xd j) = true := by decide +kernel
theorem chk_13 : ∀ j, j < 94 → chkB 13 [(0, 284)] (xd j) = true := by decide +kernel
theorem mix_run {E : xE} {S : xV} {τ : Nat → Int64} {w : Nat} (hw : w = 2 ∨ w = 3) {a h : Nat → Int32} : ∀ j, j < 94 → xce E (va_up S w a) τ (xd j) = xce E (va_up S w (mixG a h)) τ (xd j) := by
  refine run_alter [(0, 12), (20, 124)] (by rcases hw with rfl | rfl; exact chk_2; exact chk_3) ?_
  intro i hi
  unfold mixG
  rw [if_pos]
  obtain ⟨r, hr, h1, h2⟩ := hi
  simp only [List.mem_cons, List.not_mem_nil, or_false] at hr
  rcases hr with rfl | rfl
  · exact Or.inl h2
  · exact Or.inr ⟨h1, h2⟩
/-! the reference's copies -/
def cpN (a b : Nat → Int32) (k : Nat) : Nat → Int32 := fun i => if i < k then a i else b i
theorem cpN_0 (a b : Nat → Int32) : cpN a b 0 = b := by
  funext i
  exact if_neg (Nat.not_lt_zero _)
theorem cpN_s (a b : Nat → Int32) (k : Nat) : upd (cpN a b k) k (a k) = cpN a b (k + 1) := by
  funext i
  by_cases h : i = k
  · subst h
    rw [upd_at]
    exact (if_pos (Nat.lt_succ_self _)).symm
  · rw [upd_ne h]
    unfold cpN
    by_cases h2 : i < k
    · rw [if_pos h2, if_pos (by omega)]
    · rw [if_neg h2, if_neg (by omega)]
theorem cp_alter {E : xE} {S : xV} {τ : Nat → Int64} {b2 : Nat} (hb : b2 = 10 ∨ b2 = 11 ∨ b2 = 12 ∨ b2 = 13) {a h : Nat → Int32} : ∀ j, j < 94 → xce E (va_up S b2 a) τ (xd j) = xce E (va_up S b2 (cpN a h 284)) τ (xd j) := by
  refine run_alter [(0, 284)] (by rcases hb with rfl | rfl | rfl | rfl; exact chk_10; exact chk_11; exact chk_12; exact chk_13) ?_
  intro i hi
  obtain ⟨r, hr, h1, h2⟩ := hi
  simp only [List.mem_cons, List.not_mem_nil, or_false] at hr
  subst hr
  exact (if_pos h2).symm
theorem xm_lt4 {b : Nat} (hb : b = 10 ∨ b = 11 ∨ b = 12 ∨ b = 13) : 72 + b < 94 := by omega
theorem xm_d4 {b : Nat} (hb : b = 10 ∨ b = 11 ∨ b = 12 ∨ b = 13) : xd (72 + b) = (9, [(284, b, 0), (1, 0, 0)]) := by
  rcases hb with rfl | rfl | rfl | rfl <;> rfl
/-! the search for the first -/
def firstN (P : Nat → Prop) [DecidablePred P] : Nat → Nat
  | 0 => 0
  | n + 1 => if firstN P n < n then firstN P n else if P n then n else n + 1
theorem first_no {P : Nat → Prop} [DecidablePred P] : ∀ n, (∀ i, i < n → ¬ P i) → firstN P n = n
  | 0, _ => rfl
  | n + 1, h => by
    unfold firstN
    rw [first_no n (fun i hi => h i (by omega)), if_neg (Nat.lt_irrefl _), if_neg (h n (by omega))]
theorem first_at {P : Nat → Prop} [DecidablePred P] {k : Nat} (h : ∀ i, i < k → ¬ P i) (hk : P k) : ∀ n, k < n → firstN P n = k
  | 0, hn => absurd hn (Nat.not_lt_zero _)
  | n + 1, hn => by
    unfold firstN
    by_cases e : k = n
    · subst e
      rw [first_no k h, if_neg (Nat.lt_irrefl _), if_pos hk]
    · rw [first_at h hk n (by omega), if_pos (by omega)]
theorem first_hit {P : Nat → Prop} [DecidablePred P] : ∀ n, firstN P n < n → P (firstN P n)
  | 0, hn => absurd hn (Nat.not_lt_zero _)
  | n + 1, hn => by
    unfold firstN at hn ⊢
    by_cases e : firstN P n < n
    · rw [if_pos e]
      exact first_hit n e
    · rw [if_neg e] at hn ⊢
      by_cases e2 : P n
      · rw [if_pos e2]
        exact e2
      · rw [if_neg e2] at hn
        exact absurd hn (Nat.lt_irrefl _)
def findS (P : Nat → Prop) [DecidablePred P] (N : Nat) (s : xV) : Int32 × xV := if firstN P N < N then (nI (firstN P N), s) else noneF s
theorem find_at {P : Nat → Prop} [DecidablePred P] {N k : Nat} {s : xV} (h : ∀ i, i < k → ¬ P i) (hk : P k) (hn : k < N) : findS P N s = (nI k, s) := by
  unfold findS
  rw [first_at h hk N hn, if_pos hn]
theorem find_no {P : Nat → Prop} [DecidablePred P] {N k : Nat} {s : xV} (h : ∀ i, i < k → ¬ P i) (hk : k = N) : findS P N s = noneF s := by
  subst hk
  unfold findS
  rw [first_no k h, if_neg (Nat.lt_irrefl _)]
theorem hyp_s {P : Nat → Prop} {k : Nat} (h : ∀ i, i < k → ¬ P i) (hk : ¬ P k) : ∀ i, i < k + 1 → ¬ P i := by
  intro i hi
  by_cases e : i = k
  · subst e
    exact hk
  · exact h i (by omega)
/-! what the runs are asked -/
def aheadS (q : Nat) (what : Int32) (g : Nat → Int32) : Int32 := if what = 0 then stepsG g q 4 else if what = 1 then stepsG g q 5 else if what = 2 then waterN (stepsG g q) 12 else stepsG g q 10 - g 10
def sp_ahead (n what : Int32) (s : xV) : Int32 × xV := if rng n 0 400 ∧ rng what 0 3 then (aheadS n.toNatClampNeg what (s 0), s) else bad s
def apartS (g : Nat → Int32) (y : Int32) (q : Nat) : Int32 := absG (stepsG g q 4 - stepsG (touchG g y) q 4)
def sp_apart (y n : Int32) (s : xV) : Int32 × xV := if rng y (-200) 200 ∧ rng n 0 400 then (apartS (s 0) y n.toNatClampNeg, s) else bad s
def sp_parts (y most : Int32) (s : xV) : Int32 × xV := if rng y (-200) 200 ∧ rng most 1 1200 then findS (fun t => ¬ apartS (s 0) y t < most) 401 s else bad s
def sp_going (n : Int32) (s : xV) : Int32 × xV := if rng n 10 400 then (goesG (s 0) n.toNatClampNeg, s) else bad s
def tapS (q : Nat) (y : Int32) (s : xV) : Int32 × xV := findS (fun t => goesG (upd (s 0) 0 (nI t)) q = y) 100 s
def sp_tapFor (y n : Int32) (s : xV) : Int32 × xV := if rng y 0 3 ∧ rng n 10 400 then tapS n.toNatClampNeg y s else bad s
def minP (g : Nat → Int32) : Nat → Int32
  | 0 => g 4
  | k + 1 => if stepsG g (k + 1) 4 < minP g k then stepsG g (k + 1) 4 else minP g k
def maxP (g : Nat → Int32) : Nat → Int32
  | 0 => g 4
  | k + 1 => if maxP g k < stepsG g (k + 1) 4 then stepsG g (k + 1) 4 else maxP g k
def bndP (g : Nat → Int32) (what : Int32) (k : Nat) : Int32 := if what = 0 then minP g k else maxP g k
def sp_bounds (n what : Int32) (s : xV) : Int32 × xV := if rng n 0 400 ∧ rng what 0 1 then (bndP (s 0) what n.toNatClampNeg, s) else bad s
def oftP (g : Nat → Int32) : Nat → Int32
  | 0 => 0
  | k + 1 => if 0 < stepsG g (k + 1) 4 then oftP g k + 1 else oftP g k
def sp_often (n : Int32) (s : xV) : Int32 × xV := if rng n 1 400 then (oftP (s 0) n.toNatClampNeg, s) else bad s
theorem absI_eq (x : Int32) : (if 0 ≤ x then x else 0 - x) = absG x := by
  unfold absG
  by_cases h : x < 0
  · rw [if_pos h, if_neg (by rw [Int32.not_le]; exact h), Int32.zero_sub]
  · rw [if_neg h, if_pos (Int32.not_lt.mp h)]
theorem half_y {g : Nat → Int32} {k h : Nat} (h1 : k + 1 ≤ h) : stepG (stepsG g k) 10 = stepsG g (min (k + 1) h) 10 := by
  rw [Nat.min_eq_left h1]
  rfl
theorem half_n {g : Nat → Int32} {k h : Nat} (h1 : ¬ k + 1 ≤ h) : stepsG g (min k h) 10 = stepsG g (min (k + 1) h) 10 := by
  rw [Nat.min_eq_right (by omega), Nat.min_eq_right (by omega)]
theorem still_a {g : Nat → Int32} {k h : Nat} (h1 : stillI g h (k - h) = 0) : 0 = stillI g h (k + 1 - h) := by
  have h2 : ¬ k - h = 0 := by
    intro e
    rw [e] at h1
    exact absurd (show (1 : Int32) = 0 from h1) (by decide)
  rw [show k + 1 - h = (k - h) + 1 by omega]
  unfold stillI
  rw [if_neg (fun q => q.1 h1)]
theorem still_b {g : Nat → Int32} {k h : Nat} (h1 : k + 1 ≤ h) : 1 = stillI g h (k + 1 - h) := by
  rw [show k + 1 - h = 0 by omega]
  rfl
theorem still_c {g : Nat → Int32} {k h : Nat} (h0 : ¬ stillI g h (k - h) = 0) (h1 : ¬ k + 1 ≤ h) (h2 : stepG (stepsG g k) 4 = 0) : 1 = stillI g h (k + 1 - h) := by
  rw [show k + 1 - h = (k - h) + 1 by omega]
  unfold stillI
  rw [if_pos ⟨h0, by rw [show h + (k - h) + 1 = k + 1 by omega]; exact h2⟩]
theorem still_d {g : Nat → Int32} {k h : Nat} (h1 : ¬ k + 1 ≤ h) (h2 : ¬ stepG (stepsG g k) 4 = 0) : 0 = stillI g h (k + 1 - h) := by
  rw [show k + 1 - h = (k - h) + 1 by omega]
  unfold stillI
  rw [if_neg (fun q => h2 (by have := q.2; rw [show h + (k - h) + 1 = k + 1 by omega] at this; exact this))]
theorem le_nI {a b : Nat} (ha : a < 2 ^ 31) (hb : b < 2 ^ 31) : ¬ nI b < nI a ↔ a ≤ b := by
  rw [nI_ltI hb ha]
  omega
theorem gI_tap {g : Nat → Int32} (hg : gI g) {k : Nat} (h : k < 100) : gI (upd g 0 (nI k)) := by
  refine hg.upd (fun _ => ?_)
  rw [nI_toInt (by omega)]
  unfold glo ghi
  rw [if_pos (by omega), if_pos (by omega)]
  omega
theorem gT_tap {g : Nat → Int32} {T : Nat} (h : gT g T) (x : Int32) : gT (upd g 0 x) T := by
  unfold gT at h ⊢
  rw [upd_ne (by omega)]
  exact h
theorem bnd_a {g : Nat → Int32} {what : Int32} {k : Nat} (h : what = 0) (c : stepG (stepsG g k) 4 < bndP g what k) : stepG (stepsG g k) 4 = bndP g what (k + 1) := by
  unfold bndP at c ⊢
  rw [if_pos h] at c ⊢
  exact (if_pos c).symm
theorem bnd_b {g : Nat → Int32} {what : Int32} {k : Nat} (h : what = 0) (c : ¬ stepG (stepsG g k) 4 < bndP g what k) : bndP g what k = bndP g what (k + 1) := by
  unfold bndP at c ⊢
  rw [if_pos h] at c ⊢
  rw [if_pos h]
  exact (if_neg c).symm
theorem bnd_c {g : Nat → Int32} {what : Int32} {k : Nat} (h : ¬ what = 0) (c : bndP g what k < stepG (stepsG g k) 4) : stepG (stepsG g k) 4 = bndP g what (k + 1) := by
  unfold bndP at c ⊢
  rw [if_neg h] at c ⊢
  exact (if_pos c).symm
theorem bnd_d {g : Nat → Int32} {what : Int32} {k : Nat} (h : ¬ what = 0) (c : ¬ bndP g what k < stepG (stepsG g k) 4) : bndP g what k = bndP g what (k + 1) := by
  unfold bndP at c ⊢
  rw [if_neg h] at c ⊢
  rw [if_neg h]
  exact (if_neg c).symm
set_option maxHeartbeats 4000000 in
set_option maxRecDepth 100000 in
theorem cM_copies (l : Launch) (E : xE) (σ : Nat → Nat → Int32) (τ : Nat → Int64) (b1 b2 : Nat) (hb1 : b1 = 10 ∨ b1 = 11 ∨ b1 = 12 ∨ b1 = 13) (hb2 : b2 = 10 ∨ b2 = 11 ∨ b2 = 12 ∨ b2 = 13) (hne : b1 ≠ b2) : xMv l yX8_copies cX8_copies 3 0 0 E [.ref (xad E (72 + b1)), .ref (xad E (72 + b2))] (σ) (τ) (va_up σ b2 (σ b1)) (τ) := by
  refine xMv_of (own := RX8) (by decide +kernel) rfl (Nat.le_of_ble_eq_true rfl) ?_
  intro zp ze zs zm za zb zh zc C
  refine WM.to (lv1 := [(0, .ref (xad E (72 + b1))), (1, .ref (xad E (72 + b2)))]) (st1 := []) (σ1 := σ) (τ1 := τ) ?_ rfl rfl rfl rfl
  refine x_iconst C (v := 0) dX8_copies_0 (by decide) ?_
  refine x_istore_n C (lv1 := [(2, .int (0)), (0, .ref (xad E (72 + b1))), (1, .ref (xad E (72 + b2)))]) dX8_copies_1 rfl (by decide) rfl ?_
  have loop : ∀ (j k : Nat), j + k = 284 → WM zp l ze { frames := 0, cells := 0, slots := 0, locals := 0 } zs zm za zb zh zc 0 0 (MQ zb (va_Qv (fun _ : Unit => True) (fun _ t => xP E (va_up σ b2 (σ b1)) (τ) t.heap) (xA E)) za zs 0 0 (xA E)) E (xA E) 3 (va_up σ b2 (cpN (σ b1) (σ b2) k)) (τ) 2 [(0, .ref (xad E (72 + b1))), (1, .ref (xad E (72 + b2))), (2, .int (nI k))] [] := by
    intro j
    induction j with
    | zero =>
      intro k hk
      refine x_iload_n C 2 dX8_copies_2 rfl rfl ?_
      refine x_sipush C (v := 284) dX8_copies_3 (by decide) ?_
      refine x_icmp_ge C (tgt := 21) dX8_copies_6 (by decide) (fun h1 => ?_) (fun h1 => absurd h1 (nI_nlt (a := k) (b := 284) (by omega) (by omega)))
      obtain rfl : k = 284 := by omega
      refine WM.alter (σ' := va_up σ b2 (σ b1)) (cp_alter hb2) ?_
      exact x_vret C rfl rfl dX8_copies_21
    | succ j ih =>
      intro k hk
      refine x_iload_n C 2 dX8_copies_2 rfl rfl ?_
      refine x_sipush C (v := 284) dX8_copies_3 (by decide) ?_
      refine x_icmp_ge C (tgt := 21) dX8_copies_6 (by decide) (fun h2 => absurd (nI_lt (a := k) (b := 284) (by omega) (by omega)) h2) (fun h2 => ?_)
      refine x_aload_n C 1 dX8_copies_9 rfl rfl ?_
      refine x_iload_n C 2 dX8_copies_10 rfl rfl ?_
      refine x_aload_n C 0 dX8_copies_11 rfl rfl ?_
      refine x_iload_n C 2 dX8_copies_12 rfl rfl ?_
      refine x_ald C (xm_lt4 hb1) (xm_d4 hb1) (v := σ b1 k) (vp_in_nI (show k < 284 by omega) (by decide)) (by rw [(nI_clamp (show k < 2 ^ 31 by omega)), Nat.zero_add, Nat.one_mul]; exact (congrFun (va_up_ne _ (j := b1) (k := b2) _ (by omega)) _)) dX8_copies_13 ?_
      refine x_ast C (σ' := va_up σ b2 (upd (cpN (σ b1) (σ b2) k) k (σ b1 k))) (xm_lt4 hb2) (xm_d4 hb2) (by decide) (vp_in_nI (show k < 284 by omega) (by decide)) (by rw [(nI_clamp (show k < 2 ^ 31 by omega)), Nat.zero_add, Nat.one_mul]; exact (u2_bank _ _ _ _ _)) dX8_copies_14 ?_
      refine x_iinc C (v := nI (k + 1)) (lv1 := [(2, .int (nI (k + 1))), (0, .ref (xad E (72 + b1))), (1, .ref (xad E (72 + b2)))]) 2 dX8_copies_15 rfl (nI_add k 1) (by decide) rfl ?_
      refine x_goto2 C (tgt := 2) dX8_copies_18 (by decide) ?_
      refine WM.keep [1, 2, 0] (lv' := [(0, .ref (xad E (72 + b1))), (1, .ref (xad E (72 + b2))), (2, .int (nI (k + 1)))]) rfl ?_
      exact WM.to (ih (k + 1) (by omega)) (congrArg (va_up _ _) (cpN_s _ _ _)) rfl rfl rfl
  refine WM.keep [1, 2, 0] rfl ?_
  exact WM.to (loop (284) 0 (by omega)) (Eq.trans (xself _ _).symm (congrArg (va_up _ _) (cpN_0 _ _).symm)) rfl rfl rfl
set_option maxHeartbeats 4000000 in
set_option maxRecDepth 100000 in
theorem c_twoBegin (l : Launch) (E : xE) (σ : Nat → Nat → Int32) (τ : Nat → Int64) (y : Int32) : xMv l yX7_beginTwoRuns cX7_beginTwoRuns 2 3 81 E [.ref (xad E (0)), .int (y)] (σ) (τ) (va_up (va_up σ 2 (σ 0)) 3 (touchG (σ 0) y)) (τ) := by
  refine xMv_of (own := RX7) (by decide +kernel) rfl (Nat.le_of_ble_eq_true rfl) ?_
  intro zp ze zs zm za zb zh zc C
  refine WM.to (lv1 := [(0, .ref (xad E (0))), (1, .int (y))]) (st1 := []) (σ1 := σ) (τ1 := τ) ?_ rfl rfl rfl rfl
  refine x_aload_n C 0 dX7_beginTwoRuns_0 rfl rfl ?_
  refine x_get C (Nat.le_of_ble_eq_true rfl) xd_0 fl_X7_40 (q := (0, 59, 0)) (v := .ref (xad E (59))) rfl rfl dX7_beginTwoRuns_1 ?_
  refine x_aload_n C 0 dX7_beginTwoRuns_4 rfl rfl ?_
  refine x_get C (Nat.le_of_ble_eq_true rfl) xd_0 fl_X7_12 (q := (0, 1, 0)) (v := .ref (xad E (1))) rfl rfl dX7_beginTwoRuns_5 ?_
  refine x_get C (Nat.le_of_ble_eq_true rfl) xd_1 fl_X7_68 (q := (0, 2, 0)) (v := .ref (xad E (2))) rfl rfl dX7_beginTwoRuns_8 ?_
  refine x_callVv C (As := [.ref (xad E (2))]) (rest := []) (cW_become l E σ τ 2 0 (by decide) (by decide) (by decide)) kv_X7_190 (x_recv C (Nat.le_of_ble_eq_true rfl) xd_59 rfl) ⟨Nat.le_of_ble_eq_true rfl, Nat.le_of_ble_eq_true rfl⟩ rfl rfl (Nat.le_of_ble_eq_true rfl) dX7_beginTwoRuns_11 ?_
  refine WM.alter (σ' := va_up σ 2 (σ 0)) (mix_run (by decide)) ?_
  refine WM.to (σ1 := va_up σ 2 (σ 0)) ?_ (congrArg (va_up _ _) rfl) rfl rfl rfl
  refine x_aload_n C 0 dX7_beginTwoRuns_14 rfl rfl ?_
  refine x_get C (Nat.le_of_ble_eq_true rfl) xd_0 fl_X7_44 (q := (0, 65, 0)) (v := .ref (xad E (65))) rfl rfl dX7_beginTwoRuns_15 ?_
  refine x_aload_n C 0 dX7_beginTwoRuns_18 rfl rfl ?_
  refine x_get C (Nat.le_of_ble_eq_true rfl) xd_0 fl_X7_12 (q := (0, 1, 0)) (v := .ref (xad E (1))) rfl rfl dX7_beginTwoRuns_19 ?_
  refine x_get C (Nat.le_of_ble_eq_true rfl) xd_1 fl_X7_68 (q := (0, 2, 0)) (v := .ref (xad E (2))) rfl rfl dX7_beginTwoRuns_22 ?_
  refine x_callVv C (As := [.ref (xad E (2))]) (rest := []) (cW_become l E (va_up σ 2 (σ 0)) τ 3 0 (by decide) (by decide) (by decide)) kv_X7_190 (x_recv C (Nat.le_of_ble_eq_true rfl) xd_65 rfl) ⟨Nat.le_of_ble_eq_true rfl, Nat.le_of_ble_eq_true rfl⟩ rfl rfl (Nat.le_of_ble_eq_true rfl) dX7_beginTwoRuns_25 ?_
  refine WM.alter (σ' := va_up (va_up σ 2 (σ 0)) 3 ((va_up σ 2 (σ 0)) 0)) (mix_run (by decide)) ?_
  refine WM.to (σ1 := va_up (va_up σ 2 (σ 0)) 3 (σ 0)) ?_ (congrArg (va_up _ _) (va_up_ne _ (j := 0) (k := 2) _ (by decide))) rfl rfl rfl
  refine x_aload_n C 0 dX7_beginTwoRuns_28 rfl rfl ?_
  refine x_get C (Nat.le_of_ble_eq_true rfl) xd_0 fl_X7_44 (q := (0, 65, 0)) (v := .ref (xad E (65))) rfl rfl dX7_beginTwoRuns_29 ?_
  refine x_iload_n C 1 dX7_beginTwoRuns_32 rfl rfl ?_
  refine x_callVv C (As := [.int (y)]) (rest := []) (cW_nudge l E (va_up σ 2 (σ 0)) τ 3 (by decide) (σ 0) y) kv_X7_100 (x_recv C (Nat.le_of_ble_eq_true rfl) xd_65 rfl) ⟨Nat.le_of_ble_eq_true rfl, Nat.le_of_ble_eq_true rfl⟩ rfl rfl (Nat.le_of_ble_eq_true rfl) dX7_beginTwoRuns_33 ?_
  exact x_vret C rfl rfl dX7_beginTwoRuns_36
set_option maxHeartbeats 4000000 in
set_option maxRecDepth 100000 in
theorem c_mtwo (l : Launch) (E : xE) (σ : Nat → Nat → Int32) (τ : Nat → Int64) (y : Int32) (hg : gI (σ 10)) (hy : -200 ≤ y.toInt ∧ y.toInt ≤ 200) : xMv l yX8_twoBegin cX8_twoBegin 2 2 44 E [.ref (xad E (81)), .int (y)] (σ) (τ) (va_up (va_up σ 11 (σ 10)) 12 (touchG (σ 10) y)) (τ) := by
  refine xMv_of (own := RX8) (by decide +kernel) rfl (Nat.le_of_ble_eq_true rfl) ?_
  intro zp ze zs zm za zb zh zc C
  refine WM.to (lv1 := [(0, .ref (xad E (81))), (1, .int (y))]) (st1 := []) (σ1 := σ) (τ1 := τ) ?_ rfl rfl rfl rfl
  refine x_aload_n C 0 dX8_twoBegin_0 rfl rfl ?_
  refine x_get C (Nat.le_of_ble_eq_true rfl) xd_81 fl_X8_9 (q := (0, 82, 0)) (v := .ref (xad E (82))) rfl rfl dX8_twoBegin_1 ?_
  refine x_aload_n C 0 dX8_twoBegin_4 rfl rfl ?_
  refine x_get C (Nat.le_of_ble_eq_true rfl) xd_81 fl_X8_13 (q := (0, 83, 0)) (v := .ref (xad E (83))) rfl rfl dX8_twoBegin_5 ?_
  refine x_callSv C (As := [.ref (xad E (82)), .ref (xad E (83))]) (rest := []) (cM_copies l E σ τ 10 11 (by decide) (by decide) (by decide)) ks_X8_235 ⟨Nat.le_of_ble_eq_true rfl, Nat.le_of_ble_eq_true rfl⟩ rfl rfl (Nat.le_of_ble_eq_true rfl) dX8_twoBegin_8 ?_
  refine WM.to (σ1 := va_up σ 11 (σ 10)) ?_ (congrArg (va_up _ _) rfl) rfl rfl rfl
  refine x_aload_n C 0 dX8_twoBegin_11 rfl rfl ?_
  refine x_get C (Nat.le_of_ble_eq_true rfl) xd_81 fl_X8_9 (q := (0, 82, 0)) (v := .ref (xad E (82))) rfl rfl dX8_twoBegin_12 ?_
  refine x_aload_n C 0 dX8_twoBegin_15 rfl rfl ?_
  refine x_get C (Nat.le_of_ble_eq_true rfl) xd_81 fl_X8_16 (q := (0, 84, 0)) (v := .ref (xad E (84))) rfl rfl dX8_twoBegin_16 ?_
  refine x_callSv C (As := [.ref (xad E (82)), .ref (xad E (84))]) (rest := []) (cM_copies l E (va_up σ 11 (σ 10)) τ 10 12 (by decide) (by decide) (by decide)) ks_X8_235 ⟨Nat.le_of_ble_eq_true rfl, Nat.le_of_ble_eq_true rfl⟩ rfl rfl (Nat.le_of_ble_eq_true rfl) dX8_twoBegin_19 ?_
  refine WM.to (σ1 := va_up (va_up σ 11 (σ 10)) 12 (σ 10)) ?_ (congrArg (va_up _ _) (va_up_ne _ (j := 10) (k := 11) _ (by decide))) rfl rfl rfl
  refine x_aload_n C 0 dX8_twoBegin_22 rfl rfl ?_
  refine x_get C (Nat.le_of_ble_eq_true rfl) xd_81 fl_X8_16 (q := (0, 84, 0)) (v := .ref (xad E (84))) rfl rfl dX8_twoBegin_23 ?_
  refine x_iload_n C 1 dX8_twoBegin_26 rfl rfl ?_
  refine x_callSv C (As := [.ref (xad E (84)), .int (y)]) (rest := []) (cM_touches l E (va_up σ 11 (σ 10)) τ 12 (by decide) (σ 10) y hg hy) ks_X8_94 ⟨Nat.le_of_ble_eq_true rfl, Nat.le_of_ble_eq_true rfl⟩ rfl rfl (Nat.le_of_ble_eq_true rfl) dX8_twoBegin_27 ?_
  exact x_vret C rfl rfl dX8_twoBegin_30
set_option maxHeartbeats 4000000 in
set_option maxRecDepth 100000 in
theorem c_diff (l : Launch) (E : xE) (σ : Nat → Nat → Int32) (τ : Nat → Int64) (x y : Int32) (hx : σ 2 4 = x) (hy : σ 3 4 = y) : xMi l yX7_differenceOfRuns cX7_differenceOfRuns 1 .int 1 23 E [.ref (xad E (0))] (σ) (τ) (absG (x - y)) (σ) (τ) := by
  refine xMi_of (own := RX7) (by decide +kernel) rfl (Nat.le_of_ble_eq_true rfl) ?_
  intro zp ze zs zm za zb zh zc C
  refine WM.to (lv1 := [(0, .ref (xad E (0)))]) (st1 := []) (σ1 := σ) (τ1 := τ) ?_ rfl rfl rfl rfl
  refine x_aload_n C 0 dX7_differenceOfRuns_0 rfl rfl ?_
  refine x_get C (Nat.le_of_ble_eq_true rfl) xd_0 fl_X7_40 (q := (0, 59, 0)) (v := .ref (xad E (59))) rfl rfl dX7_differenceOfRuns_1 ?_
  refine x_get C (Nat.le_of_ble_eq_true rfl) xd_59 fl_X7_104 (q := (1, 2, 4)) (v := .int (x)) rfl (congrArg Value.int hx) dX7_differenceOfRuns_4 ?_
  refine x_aload_n C 0 dX7_differenceOfRuns_7 rfl rfl ?_
  refine x_get C (Nat.le_of_ble_eq_true rfl) xd_0 fl_X7_44 (q := (0, 65, 0)) (v := .ref (xad E (65))) rfl rfl dX7_differenceOfRuns_8 ?_
  refine x_get C (Nat.le_of_ble_eq_true rfl) xd_65 fl_X7_104 (q := (1, 3, 4)) (v := .int (y)) rfl (congrArg Value.int hy) dX7_differenceOfRuns_11 ?_
  refine x_isub C dX7_differenceOfRuns_14 ?_
  refine x_mabs C km_X7_146 kM_abs ⟨Nat.le_of_ble_eq_true rfl, Nat.le_of_ble_eq_true rfl⟩ dX7_differenceOfRuns_15 ?_
  exact x_iret C (absI_eq _) rfl rfl dX7_differenceOfRuns_18
set_option maxHeartbeats 4000000 in
set_option maxRecDepth 100000 in
theorem c_mdiff (l : Launch) (E : xE) (σ : Nat → Nat → Int32) (τ : Nat → Int64) (x y : Int32) (hx : σ 11 4 = x) (hy : σ 12 4 = y) : xMi l yX8_differ cX8_differ 3 .int 0 0 E [.ref (xad E (83)), .ref (xad E (84))] (σ) (τ) (absG (x - y)) (σ) (τ) := by
  refine xMi_of (own := RX8) (by decide +kernel) rfl (Nat.le_of_ble_eq_true rfl) ?_
  intro zp ze zs zm za zb zh zc C
  refine WM.to (lv1 := [(0, .ref (xad E (83))), (1, .ref (xad E (84)))]) (st1 := []) (σ1 := σ) (τ1 := τ) ?_ rfl rfl rfl rfl
  refine x_aload_n C 0 dX8_differ_0 rfl rfl ?_
  refine x_iconst C (v := 4) dX8_differ_1 (by decide) ?_
  refine x_ald C (Nat.le_of_ble_eq_true rfl) xd_83 (v := x) (vp_in_nI (show 4 < 284 by omega) (by decide)) (by exact hx) dX8_differ_2 ?_
  refine x_aload_n C 1 dX8_differ_3 rfl rfl ?_
  refine x_iconst C (v := 4) dX8_differ_4 (by decide) ?_
  refine x_ald C (Nat.le_of_ble_eq_true rfl) xd_84 (v := y) (vp_in_nI (show 4 < 284 by omega) (by decide)) (by exact hy) dX8_differ_5 ?_
  refine x_isub C dX8_differ_6 ?_
  refine x_istore_n C (lv1 := [(2, .int (x - y)), (0, .ref (xad E (83))), (1, .ref (xad E (84)))]) dX8_differ_7 rfl (by decide) rfl ?_
  refine x_iload_n C 0 dX8_differ_8 rfl rfl ?_
  refine x_if_ge C (tgt := 17) dX8_differ_9 (by decide) (fun h1 => ?_) (fun h1 => ?_)
  · refine x_iload_n C 0 dX8_differ_17 rfl rfl ?_
    exact x_iret C (by unfold absG; rw [if_neg h1]) rfl rfl dX8_differ_18
  · refine x_iload_n C 0 dX8_differ_12 rfl rfl ?_
    refine x_ineg C dX8_differ_13 ?_
    refine x_goto2 C (tgt := 18) dX8_differ_14 (by decide) ?_
    exact x_iret C (by unfold absG; rw [if_pos h1]) rfl rfl dX8_differ_18
set_option maxHeartbeats 4000000 in
set_option maxRecDepth 100000 in
theorem cM_going (l : Launch) (E : xE) (σ : Nat → Nat → Int32) (τ : Nat → Int64) (g : Nat → Int32) (n T : Nat) (hn : n ≤ 1000) (hg : gI g) (hT : gT g T) (hTn : T + n < 2147483647) (hlv : ∀ j, j < 12 → σ 15 j = (xzl 1).getD j 0) : xMi l yX8_goingOf cX8_goingOf 6 .int 3 69 E [.ref (xad E (81)), .int (nI n)] (va_up σ 11 (g)) (τ) (goesG g n) (va_up σ 11 (stepsG g n)) (τ) := by
  refine xMi_of (own := RX8) (by decide +kernel) rfl (Nat.le_of_ble_eq_true rfl) ?_
  intro zp ze zs zm za zb zh zc C
  refine WM.to (lv1 := [(0, .ref (xad E (81))), (1, .int (nI n))]) (st1 := []) (σ1 := va_up σ 11 (g)) (τ1 := τ) ?_ rfl rfl rfl rfl
  refine x_aload_n C 0 dX8_goingOf_0 rfl rfl ?_
  refine x_get C (Nat.le_of_ble_eq_true rfl) xd_81 fl_X8_13 (q := (0, 83, 0)) (v := .ref (xad E (83))) rfl rfl dX8_goingOf_1 ?_
  refine x_bipush C (v := 10) dX8_goingOf_4 (by decide) ?_
  refine x_ald C (Nat.le_of_ble_eq_true rfl) xd_83 (v := g 10) (vp_in_nI (show 10 < 284 by omega) (by decide)) (by rw [(show (10 : Int32).toNatClampNeg = 10 from by decide), Nat.zero_add, Nat.one_mul]; exact (congrFun (va_up_self _ _ _) _)) dX8_goingOf_6 ?_
  refine x_istore_n C (lv1 := [(2, .int (g 10)), (0, .ref (xad E (81))), (1, .int (nI n))]) dX8_goingOf_7 rfl (by decide) rfl ?_
  refine x_aload_n C 1 dX8_goingOf_8 rfl rfl ?_
  refine x_get C (Nat.le_of_ble_eq_true rfl) xd_81 fl_X8_13 (q := (0, 83, 0)) (v := .ref (xad E (83))) rfl rfl dX8_goingOf_9 ?_
  refine x_bipush C (v := 10) dX8_goingOf_12 (by decide) ?_
  refine x_ald C (Nat.le_of_ble_eq_true rfl) xd_83 (v := g 10) (vp_in_nI (show 10 < 284 by omega) (by decide)) (by rw [(show (10 : Int32).toNatClampNeg = 10 from by decide), Nat.zero_add, Nat.one_mul]; exact (congrFun (va_up_self _ _ _) _)) dX8_goingOf_14 ?_
  refine x_istore_n C (lv1 := [(3, .int (g 10)), (2, .int (g 10)), (0, .ref (xad E (81))), (1, .int (nI n))]) dX8_goingOf_15 rfl (by decide) rfl ?_
  refine x_iconst C (v := 1) dX8_goingOf_16 (by decide) ?_
  refine x_istore C (lv1 := [(4, .int (1)), (3, .int (g 10)), (2, .int (g 10)), (0, .ref (xad E (81))), (1, .int (nI n))]) dX8_goingOf_17 (by decide) rfl ?_
  refine x_iconst C (v := 1) dX8_goingOf_19 (by decide) ?_
  refine x_istore C (lv1 := [(5, .int (1)), (4, .int (1)), (3, .int (g 10)), (2, .int (g 10)), (0, .ref (xad E (81))), (1, .int (nI n))]) dX8_goingOf_20 (by decide) rfl ?_
  have loop : ∀ (j k : Nat), j + k = n → WM zp l ze { frames := 3, cells := 0, slots := 0, locals := 69 } zs zm za zb zh zc 0 0 (MQ zb (va_Qi (fun r (_ : Unit) => r = (goesG g n)) (fun _ t => xP E (va_up σ 11 (stepsG g n)) (τ) t.heap) (xA E)) za zs 0 0 (xA E)) E (xA E) 6 (va_up σ 11 (stepsG g k)) (τ) 22 [(0, .ref (xad E (81))), (1, .int (nI n)), (2, .int (g 10)), (3, .int (stepsG g (min k (n / 2)) 10)), (4, .int (stillI g (n / 2) (k - n / 2))), (5, .int (nI (k + 1)))] [] := by
    intro j
    induction j with
    | zero =>
      intro k hk
      refine x_iload C 5 dX8_goingOf_22 rfl ?_
      refine x_iload_n C 1 dX8_goingOf_24 rfl rfl ?_
      refine x_icmp_gt C (tgt := 91) dX8_goingOf_25 (by decide) (fun h1 => ?_) (fun h1 => absurd (nI_lt (a := n) (b := k + 1) (by omega) (by omega)) h1)
      obtain rfl : k = n := by omega
      refine WM.to (lv1 := [(0, .ref (xad E (81))), (1, .int (nI k)), (2, .int (g 10)), (3, .int (stepsG g (k / 2) 10)), (4, .int (stillI g (k / 2) (k - k / 2))), (5, .int (nI (k + 1)))]) ?_ rfl rfl (by rw [Nat.min_eq_right (by omega)]) rfl
      refine x_iload C 4 dX8_goingOf_91 rfl ?_
      refine x_if_eq C (tgt := 100) dX8_goingOf_93 (by decide) (fun h2 => ?_) (fun h2 => ?_)
      · refine x_aload_n C 0 dX8_goingOf_100 rfl rfl ?_
        refine x_get C (Nat.le_of_ble_eq_true rfl) xd_81 fl_X8_13 (q := (0, 83, 0)) (v := .ref (xad E (83))) rfl rfl dX8_goingOf_101 ?_
        refine x_bipush C (v := 10) dX8_goingOf_104 (by decide) ?_
        refine x_ald C (Nat.le_of_ble_eq_true rfl) xd_83 (v := (stepsG g k) 10) (vp_in_nI (show 10 < 284 by omega) (by decide)) (by rw [(show (10 : Int32).toNatClampNeg = 10 from by decide), Nat.zero_add, Nat.one_mul]; exact (congrFun (va_up_self _ _ _) _)) dX8_goingOf_106 ?_
        refine x_iload_n C 2 dX8_goingOf_107 rfl rfl ?_
        refine x_icmp_ne C (tgt := 115) dX8_goingOf_108 (by decide) (fun h3 => ?_) (fun h3 => ?_)
        · refine x_aload_n C 0 dX8_goingOf_115 rfl rfl ?_
          refine x_get C (Nat.le_of_ble_eq_true rfl) xd_81 fl_X8_13 (q := (0, 83, 0)) (v := .ref (xad E (83))) rfl rfl dX8_goingOf_116 ?_
          refine x_bipush C (v := 10) dX8_goingOf_119 (by decide) ?_
          refine x_ald C (Nat.le_of_ble_eq_true rfl) xd_83 (v := (stepsG g k) 10) (vp_in_nI (show 10 < 284 by omega) (by decide)) (by rw [(show (10 : Int32).toNatClampNeg = 10 from by decide), Nat.zero_add, Nat.one_mul]; exact (congrFun (va_up_self _ _ _) _)) dX8_goingOf_121 ?_
          refine x_iload_n C 3 dX8_goingOf_122 rfl rfl ?_
          refine x_icmp_ne C (tgt := 130) dX8_goingOf_123 (by decide) (fun h4 => ?_) (fun h4 => ?_)
          · refine x_iconst C (v := 3) dX8_goingOf_130 (by decide) ?_
            exact x_iret C (by unfold goesG; rw [if_neg (fun q => q h2), if_neg h3, if_neg h4]) rfl rfl dX8_goingOf_131
          · refine x_iconst C (v := 2) dX8_goingOf_126 (by decide) ?_
            refine x_goto2 C (tgt := 131) dX8_goingOf_127 (by decide) ?_
            exact x_iret C (by unfold goesG; rw [if_neg (fun q => q h2), if_neg h3, if_pos h4]) rfl rfl dX8_goingOf_131
        · refine x_iconst C (v := 1) dX8_goingOf_111 (by decide) ?_
          refine x_goto2 C (tgt := 131) dX8_goingOf_112 (by decide) ?_
          exact x_iret C (by unfold goesG; rw [if_neg (fun q => q h2), if_pos h3]) rfl rfl dX8_goingOf_131
      · refine x_iconst C (v := 0) dX8_goingOf_96 (by decide) ?_
        refine x_goto2 C (tgt := 131) dX8_goingOf_97 (by decide) ?_
        exact x_iret C (by unfold goesG; rw [if_pos h2]) rfl rfl dX8_goingOf_131
    | succ j ih =>
      intro k hk
      refine x_iload C 5 dX8_goingOf_22 rfl ?_
      refine x_iload_n C 1 dX8_goingOf_24 rfl rfl ?_
      refine x_icmp_gt C (tgt := 91) dX8_goingOf_25 (by decide) (fun h5 => absurd h5 (nI_nlt (a := n) (b := k + 1) (by omega) (by omega))) (fun h5 => ?_)
      refine x_aload_n C 0 dX8_goingOf_28 rfl rfl ?_
      refine x_aload_n C 0 dX8_goingOf_29 rfl rfl ?_
      refine x_get C (Nat.le_of_ble_eq_true rfl) xd_81 fl_X8_13 (q := (0, 83, 0)) (v := .ref (xad E (83))) rfl rfl dX8_goingOf_30 ?_
      refine x_callVv C (As := [.ref (xad E (83))]) (rest := []) (cM_goesBy l E σ τ 11 (by decide) (stepsG g k) (gI_steps hg k) (gT_steps hT k (by omega)).1 hlv) kv_X8_108 (x_recv C (Nat.le_of_ble_eq_true rfl) xd_81 rfl) ⟨Nat.le_of_ble_eq_true rfl, Nat.le_of_ble_eq_true rfl⟩ rfl rfl (Nat.le_of_ble_eq_true rfl) dX8_goingOf_33 ?_
      refine x_iload C 5 dX8_goingOf_36 rfl ?_
      refine x_iload_n C 1 dX8_goingOf_38 rfl rfl ?_
      refine x_iconst C (v := 2) dX8_goingOf_39 (by decide) ?_
      refine x_idiv C dX8_goingOf_40 (by decide) ?_
      refine WM.topi (y := nI (n / 2)) (pk_div (by omega) (by decide) (by decide)) ?_
      refine x_icmp_gt C (tgt := 54) dX8_goingOf_41 (by decide) (fun h6 => ?_) (fun h6 => ?_)
      · refine x_iload_n C 3 dX8_goingOf_54 rfl rfl ?_
        refine WM.topi (y := stepsG g (min (k + 1) (n / 2)) 10) (half_n (fun z => (le_nI (by omega) (by omega)).mpr z h6)) ?_
        refine x_istore_n C (lv1 := [(3, .int (stepsG g (min (k + 1) (n / 2)) 10)), (0, .ref (xad E (81))), (1, .int (nI n)), (2, .int (g 10)), (4, .int (stillI g (n / 2) (k - n / 2))), (5, .int (nI (k + 1)))]) dX8_goingOf_55 rfl (by decide) rfl ?_
        refine x_iload C 4 dX8_goingOf_56 rfl ?_
        refine x_if_eq C (tgt := 82) dX8_goingOf_58 (by decide) (fun h7 => ?_) (fun h7 => ?_)
        · refine x_iconst C (v := 0) dX8_goingOf_82 (by decide) ?_
          refine WM.topi (y := stillI g (n / 2) (k + 1 - n / 2)) (still_a h7) ?_
          refine x_istore C (lv1 := [(4, .int (stillI g (n / 2) (k + 1 - n / 2))), (3, .int (stepsG g (min (k + 1) (n / 2)) 10)), (0, .ref (xad E (81))), (1, .int (nI n)), (2, .int (g 10)), (5, .int (nI (k + 1)))]) dX8_goingOf_83 (by decide) rfl ?_
          refine x_iinc C (v := nI (k + 1 + 1)) (lv1 := [(5, .int (nI (k + 1 + 1))), (4, .int (stillI g (n / 2) (k + 1 - n / 2))), (3, .int (stepsG g (min (k + 1) (n / 2)) 10)), (0, .ref (xad E (81))), (1, .int (nI n)), (2, .int (g 10))]) 5 dX8_goingOf_85 rfl (nI_add (k + 1) 1) (by decide) rfl ?_
          refine x_goto2 C (tgt := 22) dX8_goingOf_88 (by decide) ?_
          refine WM.keep [3, 4, 5, 2, 1, 0] (lv' := [(0, .ref (xad E (81))), (1, .int (nI n)), (2, .int (g 10)), (3, .int (stepsG g (min (k + 1) (n / 2)) 10)), (4, .int (stillI g (n / 2) (k + 1 - n / 2))), (5, .int (nI (k + 1 + 1)))]) rfl ?_
          exact WM.to (ih (k + 1) (by omega)) rfl rfl rfl rfl
        · refine x_iload C 5 dX8_goingOf_61 rfl ?_
          refine x_iload_n C 2 dX8_goingOf_63 rfl rfl ?_
          refine x_iconst C (v := 2) dX8_goingOf_64 (by decide) ?_
          refine x_idiv C dX8_goingOf_65 (by decide) ?_
          refine WM.topi (y := nI (n / 2)) (pk_div (by omega) (by decide) (by decide)) ?_
          refine x_icmp_le C (tgt := 78) dX8_goingOf_66 (by decide) (fun h8 => ?_) (fun h8 => ?_)
          · refine x_iconst C (v := 1) dX8_goingOf_78 (by decide) ?_
            refine x_goto2 C (tgt := 83) dX8_goingOf_79 (by decide) ?_
            refine WM.topi (y := stillI g (n / 2) (k + 1 - n / 2)) (still_b ((le_nI (by omega) (by omega)).mp h8)) ?_
            refine x_istore C (lv1 := [(4, .int (stillI g (n / 2) (k + 1 - n / 2))), (3, .int (stepsG g (min (k + 1) (n / 2)) 10)), (0, .ref (xad E (81))), (1, .int (nI n)), (2, .int (g 10)), (5, .int (nI (k + 1)))]) dX8_goingOf_83 (by decide) rfl ?_
            refine x_iinc C (v := nI (k + 1 + 1)) (lv1 := [(5, .int (nI (k + 1 + 1))), (4, .int (stillI g (n / 2) (k + 1 - n / 2))), (3, .int (stepsG g (min (k + 1) (n / 2)) 10)), (0, .ref (xad E (81))), (1, .int (nI n)), (2, .int (g 10))]) 5 dX8_goingOf_85 rfl (nI_add (k + 1) 1) (by decide) rfl ?_
            refine x_goto2 C (tgt := 22) dX8_goingOf_88 (by decide) ?_
            refine WM.keep [3, 4, 5, 2, 1, 0] (lv' := [(0, .ref (xad E (81))), (1, .int (nI n)), (2, .int (g 10)), (3, .int (stepsG g (min (k + 1) (n / 2)) 10)), (4, .int (stillI g (n / 2) (k + 1 - n / 2))), (5, .int (nI (k + 1 + 1)))]) rfl ?_
            exact WM.to (ih (k + 1) (by omega)) rfl rfl rfl rfl
          · refine x_aload_n C 1 dX8_goingOf_69 rfl rfl ?_
            refine x_get C (Nat.le_of_ble_eq_true rfl) xd_81 fl_X8_13 (q := (0, 83, 0)) (v := .ref (xad E (83))) rfl rfl dX8_goingOf_70 ?_
            refine x_iconst C (v := 4) dX8_goingOf_73 (by decide) ?_
            refine x_ald C (Nat.le_of_ble_eq_true rfl) xd_83 (v := (stepG (stepsG g k)) 4) (vp_in_nI (show 4 < 284 by omega) (by decide)) (by rw [(show (4 : Int32).toNatClampNeg = 4 from by decide), Nat.zero_add, Nat.one_mul]; exact (congrFun (va_up_self _ _ _) _)) dX8_goingOf_74 ?_
            refine x_if_ne C (tgt := 82) dX8_goingOf_75 (by decide) (fun h9 => ?_) (fun h9 => ?_)
            · refine x_iconst C (v := 0) dX8_goingOf_82 (by decide) ?_
              refine WM.topi (y := stillI g (n / 2) (k + 1 - n / 2)) (still_d (fun z => (le_nI (by omega) (by omega)).mpr z h8) h9) ?_
              refine x_istore C (lv1 := [(4, .int (stillI g (n / 2) (k + 1 - n / 2))), (3, .int (stepsG g (min (k + 1) (n / 2)) 10)), (0, .ref (xad E (81))), (1, .int (nI n)), (2, .int (g 10)), (5, .int (nI (k + 1)))]) dX8_goingOf_83 (by decide) rfl ?_
              refine x_iinc C (v := nI (k + 1 + 1)) (lv1 := [(5, .int (nI (k + 1 + 1))), (4, .int (stillI g (n / 2) (k + 1 - n / 2))), (3, .int (stepsG g (min (k + 1) (n / 2)) 10)), (0, .ref (xad E (81))), (1, .int (nI n)), (2, .int (g 10))]) 5 dX8_goingOf_85 rfl (nI_add (k + 1) 1) (by decide) rfl ?_
              refine x_goto2 C (tgt := 22) dX8_goingOf_88 (by decide) ?_
              refine WM.keep [3, 4, 5, 2, 1, 0] (lv' := [(0, .ref (xad E (81))), (1, .int (nI n)), (2, .int (g 10)), (3, .int (stepsG g (min (k + 1) (n / 2)) 10)), (4, .int (stillI g (n / 2) (k + 1 - n / 2))), (5, .int (nI (k + 1 + 1)))]) rfl ?_
              exact WM.to (ih (k + 1) (by omega)) rfl rfl rfl rfl
            · refine x_iconst C (v := 1) dX8_goingOf_78 (by decide) ?_
              refine x_goto2 C (tgt := 83) dX8_goingOf_79 (by decide) ?_
              refine WM.topi (y := stillI g (n / 2) (k + 1 - n / 2)) (still_c h7 (fun z => (le_nI (by omega) (by omega)).mpr z h8) h9) ?_
              refine x_istore C (lv1 := [(4, .int (stillI g (n / 2) (k + 1 - n / 2))), (3, .int (stepsG g (min (k + 1) (n / 2)) 10)), (0, .ref (xad E (81))), (1, .int (nI n)), (2, .int (g 10)), (5, .int (nI (k + 1)))]) dX8_goingOf_83 (by decide) rfl ?_
              refine x_iinc C (v := nI (k + 1 + 1)) (lv1 := [(5, .int (nI (k + 1 + 1))), (4, .int (stillI g (n / 2) (k + 1 - n / 2))), (3, .int (stepsG g (min (k + 1) (n / 2)) 10)), (0, .ref (xad E (81))), (1, .int (nI n)), (2, .int (g 10))]) 5 dX8_goingOf_85 rfl (nI_add (k + 1) 1) (by decide) rfl ?_
              refine x_goto2 C (tgt := 22) dX8_goingOf_88 (by decide) ?_
              refine WM.keep [3, 4, 5, 2, 1, 0] (lv' := [(0, .ref (xad E (81))), (1, .int (nI n)), (2, .int (g 10)), (3, .int (stepsG g (min (k + 1) (n / 2)) 10)), (4, .int (stillI g (n / 2) (k + 1 - n / 2))), (5, .int (nI (k + 1 + 1)))]) rfl ?_
              exact WM.to (ih (k + 1) (by omega)) rfl rfl rfl rfl
      · refine x_aload_n C 0 dX8_goingOf_44 rfl rfl ?_
        refine x_get C (Nat.le_of_ble_eq_true rfl) xd_81 fl_X8_13 (q := (0, 83, 0)) (v := .ref (xad E (83))) rfl rfl dX8_goingOf_45 ?_
        refine x_bipush C (v := 10) dX8_goingOf_48 (by decide) ?_
        refine x_ald C (Nat.le_of_ble_eq_true rfl) xd_83 (v := (stepG (stepsG g k)) 10) (vp_in_nI (show 10 < 284 by omega) (by decide)) (by rw [(show (10 : Int32).toNatClampNeg = 10 from by decide), Nat.zero_add, Nat.one_mul]; exact (congrFun (va_up_self _ _ _) _)) dX8_goingOf_50 ?_
        refine x_goto2 C (tgt := 55) dX8_goingOf_51 (by decide) ?_
        refine WM.topi (y := stepsG g (min (k + 1) (n / 2)) 10) (half_y ((le_nI (by omega) (by omega)).mp h6)) ?_
        refine x_istore_n C (lv1 := [(3, .int (stepsG g (min (k + 1) (n / 2)) 10)), (0, .ref (xad E (81))), (1, .int (nI n)), (2, .int (g 10)), (4, .int (stillI g (n / 2) (k - n / 2))), (5, .int (nI (k + 1)))]) dX8_goingOf_55 rfl (by decide) rfl ?_
        refine x_iload C 4 dX8_goingOf_56 rfl ?_
        refine x_if_eq C (tgt := 82) dX8_goingOf_58 (by decide) (fun h10 => ?_) (fun h10 => ?_)
        · refine x_iconst C (v := 0) dX8_goingOf_82 (by decide) ?_
          refine WM.topi (y := stillI g (n / 2) (k + 1 - n / 2)) (still_a h10) ?_
          refine x_istore C (lv1 := [(4, .int (stillI g (n / 2) (k + 1 - n / 2))), (3, .int (stepsG g (min (k + 1) (n / 2)) 10)), (0, .ref (xad E (81))), (1, .int (nI n)), (2, .int (g 10)), (5, .int (nI (k + 1)))]) dX8_goingOf_83 (by decide) rfl ?_
          refine x_iinc C (v := nI (k + 1 + 1)) (lv1 := [(5, .int (nI (k + 1 + 1))), (4, .int (stillI g (n / 2) (k + 1 - n / 2))), (3, .int (stepsG g (min (k + 1) (n / 2)) 10)), (0, .ref (xad E (81))), (1, .int (nI n)), (2, .int (g 10))]) 5 dX8_goingOf_85 rfl (nI_add (k + 1) 1) (by decide) rfl ?_
          refine x_goto2 C (tgt := 22) dX8_goingOf_88 (by decide) ?_
          refine WM.keep [3, 4, 5, 2, 1, 0] (lv' := [(0, .ref (xad E (81))), (1, .int (nI n)), (2, .int (g 10)), (3, .int (stepsG g (min (k + 1) (n / 2)) 10)), (4, .int (stillI g (n / 2) (k + 1 - n / 2))), (5, .int (nI (k + 1 + 1)))]) rfl ?_
          exact WM.to (ih (k + 1) (by omega)) rfl rfl rfl rfl
        · refine x_iload C 5 dX8_goingOf_61 rfl ?_
          refine x_iload_n C 2 dX8_goingOf_63 rfl rfl ?_
          refine x_iconst C (v := 2) dX8_goingOf_64 (by decide) ?_
          refine x_idiv C dX8_goingOf_65 (by decide) ?_
          refine WM.topi (y := nI (n / 2)) (pk_div (by omega) (by decide) (by decide)) ?_
          refine x_icmp_le C (tgt := 78) dX8_goingOf_66 (by decide) (fun h11 => ?_) (fun h11 => ?_)
          · refine x_iconst C (v := 1) dX8_goingOf_78 (by decide) ?_
            refine x_goto2 C (tgt := 83) dX8_goingOf_79 (by decide) ?_
            refine WM.topi (y := stillI g (n / 2) (k + 1 - n / 2)) (still_b ((le_nI (by omega) (by omega)).mp h11)) ?_
            refine x_istore C (lv1 := [(4, .int (stillI g (n / 2) (k + 1 - n / 2))), (3, .int (stepsG g (min (k + 1) (n / 2)) 10)), (0, .ref (xad E (81))), (1, .int (nI n)), (2, .int (g 10)), (5, .int (nI (k + 1)))]) dX8_goingOf_83 (by decide) rfl ?_
            refine x_iinc C (v := nI (k + 1 + 1)) (lv1 := [(5, .int (nI (k + 1 + 1))), (4, .int (stillI g (n / 2) (k + 1 - n / 2))), (3, .int (stepsG g (min (k + 1) (n / 2)) 10)), (0, .ref (xad E (81))), (1, .int (nI n)), (2, .int (g 10))]) 5 dX8_goingOf_85 rfl (nI_add (k + 1) 1) (by decide) rfl ?_
            refine x_goto2 C (tgt := 22) dX8_goingOf_88 (by decide) ?_
            refine WM.keep [3, 4, 5, 2, 1, 0] (lv' := [(0, .ref (xad E (81))), (1, .int (nI n)), (2, .int (g 10)), (3, .int (stepsG g (min (k + 1) (n / 2)) 10)), (4, .int (stillI g (n / 2) (k + 1 - n / 2))), (5, .int (nI (k + 1 + 1)))]) rfl ?_
            exact WM.to (ih (k + 1) (by omega)) rfl rfl rfl rfl
          · refine x_aload_n C 1 dX8_goingOf_69 rfl rfl ?_
            refine x_get C (Nat.le_of_ble_eq_true rfl) xd_81 fl_X8_13 (q := (0, 83, 0)) (v := .ref (xad E (83))) rfl rfl dX8_goingOf_70 ?_
            refine x_iconst C (v := 4) dX8_goingOf_73 (by decide) ?_
            refine x_ald C (Nat.le_of_ble_eq_true rfl) xd_83 (v := (stepG (stepsG g k)) 4) (vp_in_nI (show 4 < 284 by omega) (by decide)) (by rw [(show (4 : Int32).toNatClampNeg = 4 from by decide), Nat.zero_add, Nat.one_mul]; exact (congrFun (va_up_self _ _ _) _)) dX8_goingOf_74 ?_
            refine x_if_ne C (tgt := 82) dX8_goingOf_75 (by decide) (fun h12 => ?_) (fun h12 => ?_)
            · refine x_iconst C (v := 0) dX8_goingOf_82 (by decide) ?_
              refine WM.topi (y := stillI g (n / 2) (k + 1 - n / 2)) (still_d (fun z => (le_nI (by omega) (by omega)).mpr z h11) h12) ?_
              refine x_istore C (lv1 := [(4, .int (stillI g (n / 2) (k + 1 - n / 2))), (3, .int (stepsG g (min (k + 1) (n / 2)) 10)), (0, .ref (xad E (81))), (1, .int (nI n)), (2, .int (g 10)), (5, .int (nI (k + 1)))]) dX8_goingOf_83 (by decide) rfl ?_
              refine x_iinc C (v := nI (k + 1 + 1)) (lv1 := [(5, .int (nI (k + 1 + 1))), (4, .int (stillI g (n / 2) (k + 1 - n / 2))), (3, .int (stepsG g (min (k + 1) (n / 2)) 10)), (0, .ref (xad E (81))), (1, .int (nI n)), (2, .int (g 10))]) 5 dX8_goingOf_85 rfl (nI_add (k + 1) 1) (by decide) rfl ?_
              refine x_goto2 C (tgt := 22) dX8_goingOf_88 (by decide) ?_
              refine WM.keep [3, 4, 5, 2, 1, 0] (lv' := [(0, .ref (xad E (81))), (1, .int (nI n)), (2, .int (g 10)), (3, .int (stepsG g (min (k + 1) (n / 2)) 10)), (4, .int (stillI g (n / 2) (k + 1 - n / 2))), (5, .int (nI (k + 1 + 1)))]) rfl ?_
              exact WM.to (ih (k + 1) (by omega)) rfl rfl rfl rfl
            · refine x_iconst C (v := 1) dX8_goingOf_78 (by decide) ?_
              refine x_goto2 C (tgt := 83) dX8_goingOf_79 (by decide) ?_
              refine WM.topi (y := stillI g (n / 2) (k + 1 - n / 2)) (still_c h10 (fun z => (le_nI (by omega) (by omega)).mpr z h11) h12) ?_
              refine x_istore C (lv1 := [(4, .int (stillI g (n / 2) (k + 1 - n / 2))), (3, .int (stepsG g (min (k + 1) (n / 2)) 10)), (0, .ref (xad E (81))), (1, .int (nI n)), (2, .int (g 10)), (5, .int (nI (k + 1)))]) dX8_goingOf_83 (by decide) rfl ?_
              refine x_iinc C (v := nI (k + 1 + 1)) (lv1 := [(5, .int (nI (k + 1 + 1))), (4, .int (stillI g (n / 2) (k + 1 - n / 2))), (3, .int (stepsG g (min (k + 1) (n / 2)) 10)), (0, .ref (xad E (81))), (1, .int (nI n)), (2, .int (g 10))]) 5 dX8_goingOf_85 rfl (nI_add (k + 1) 1) (by decide) rfl ?_
              refine x_goto2 C (tgt := 22) dX8_goingOf_88 (by decide) ?_
              refine WM.keep [3, 4, 5, 2, 1, 0] (lv' := [(0, .ref (xad E (81))), (1, .int (nI n)), (2, .int (g 10)), (3, .int (stepsG g (min (k + 1) (n / 2)) 10)), (4, .int (stillI g (n / 2) (k + 1 - n / 2))), (5, .int (nI (k + 1 + 1)))]) rfl ?_
              exact WM.to (ih (k + 1) (by omega)) rfl rfl rfl rfl
  refine WM.keep [4, 5, 3, 2, 1, 0] rfl ?_
  exact WM.to (loop (n) 0 (by omega)) rfl rfl (by rw [Nat.zero_min, Nat.zero_sub]; rfl) rfl
