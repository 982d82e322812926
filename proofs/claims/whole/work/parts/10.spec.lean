/-! WHAT A WHEEL DOES: g is a row of numbers: 0-3 TAP LEAK RUB HEAVY, 4 PACE, 5 ANGLE, 6 WAY, 7 SPILT, 8 LOST, 9 TICKS, 10 TURNS, 11 the greatest PACE since; 20.. WATER, 32.. KINDS, 44.. THE LOG -/
theorem xcmp_ge {x y : Int64} : 0 ≤ lg_cmp x y ↔ ¬ x < y := by
  rw [← Int32.not_lt, xcmp_lt]
theorem xcmp_le {x y : Int64} : lg_cmp x y ≤ 0 ↔ ¬ y < x := by
  rw [← Int32.not_lt, xcmp_gt]
abbrev rng (v lo hi : Int32) : Prop := ¬ v < lo ∧ ¬ hi < v
abbrev rngL (v lo hi : Int64) : Prop := ¬ v < lo ∧ ¬ hi < v
theorem rng_iff {v lo hi : Int32} : rng v lo hi ↔ lo.toInt ≤ v.toInt ∧ v.toInt ≤ hi.toInt := by
  unfold rng
  rw [Int32.not_lt, Int32.not_lt, Int32.le_iff_toInt_le, Int32.le_iff_toInt_le]
theorem i32_cases (x : Int32) : -2147483648 ≤ x.toInt ∧ x.toInt ≤ 2147483647 := ⟨Int32.le_toInt x, by have := Int32.toInt_lt x; omega⟩
theorem toL (x : Int32) : x.toInt64.toInt = x.toInt := Int32.toInt_toInt64 x
theorem rngL_iff {v lo hi : Int32} : rngL v.toInt64 lo.toInt64 hi.toInt64 ↔ rng v lo hi := by
  unfold rngL rng
  rw [Int64.lt_iff_toInt_lt, Int64.lt_iff_toInt_lt, Int32.lt_iff_toInt_lt, Int32.lt_iff_toInt_lt, toL, toL, toL]
/-- a number within, as a count -/
theorem nI_is {x : Int32} {n : Nat} (h0 : 0 ≤ x.toInt) (h : x.toInt ≤ (n : Int)) (hn : n < 2 ^ 31) : ∃ j : Nat, j ≤ n ∧ x = nI j := by
  refine ⟨x.toInt.toNat, by omega, ?_⟩
  apply Int32.toInt_inj.mp
  rw [nI_toInt (by omega)]
  omega
theorem xvB (E : xE) (σ : Nat → Nat → Int32) (τ : Nat → Int64) (g : Nat → Int32) {w i : Nat} : xv E (va_up σ w g) τ (1, w, i) = .int (g i) := by
  show Value.int (va_up σ w g w i) = _
  rw [va_up_self]
theorem xself (σ : Nat → Nat → Int32) (w : Nat) : va_up σ w (σ w) = σ := by
  funext c
  by_cases hc : c = w
  · rw [hc, va_up_self]
  · rw [va_up_ne _ _ hc]
theorem xupup (σ : Nat → Nat → Int32) (w : Nat) (g h : Nat → Int32) : va_up (va_up σ w g) w h = va_up σ w h := by
  funext c
  by_cases hc : c = w
  · rw [hc, va_up_self, va_up_self]
  · rw [va_up_ne _ _ hc, va_up_ne _ _ hc, va_up_ne _ _ hc]
theorem upd_at (g : Nat → Int32) (k : Nat) (x : Int32) : upd g k x k = x := pk_us
theorem upd_ne {g : Nat → Int32} {k j : Nat} {x : Int32} (h : j ≠ k) : upd g k x j = g j := pk_un h
theorem upd_upd (g : Nat → Int32) (k : Nat) (x y : Int32) : upd (upd g k x) k y = upd g k y := by
  funext j
  by_cases h : j = k
  · subst h
    rw [upd_at, upd_at]
  · rw [upd_ne h, upd_ne h, upd_ne h]
theorem upd_self (g : Nat → Int32) (k : Nat) : upd g k (g k) = g := by
  funext j
  by_cases h : j = k
  · subst h
    rw [upd_at]
  · rw [upd_ne h]
theorem upd_comm (g : Nat → Int32) {k i : Nat} (x y : Int32) (h : k ≠ i) : upd (upd g k x) i y = upd (upd g i y) k x := by
  funext j
  by_cases h1 : j = i
  · subst h1
    rw [upd_at, upd_ne (Ne.symm h), upd_at]
  · rw [upd_ne h1]
    by_cases h2 : j = k
    · subst h2
      rw [upd_at, upd_at]
    · rw [upd_ne h2, upd_ne h2, upd_ne h1]
def xrem (x y : Int32) : Int32 := x - x / y * y
def placeG (g : Nat → Int32) (c : Nat) : Int32 := xrem (nI c + g 5 / 100) 12
def topG (g : Nat → Int32) : Int32 := xrem (12 - g 5 / 100) 12
def roomK (k : Int32) : Int32 := if k = 4 then 200 else if k = 6 then 200 else if k = 5 then 500 else 999
def roomG (g : Nat → Int32) (c : Nat) : Int32 := roomK (g (32 + c))
def plainG (g : Nat → Int32) (c : Nat) : Int32 := g (20 + c) * g 1 / 100
def deepG (g : Nat → Int32) (c : Nat) : Int32 := if 100 < g (20 + c) then (g (20 + c) - 100) * g 1 / 100 else 0
def twiceG (g : Nat → Int32) (c : Nat) : Int32 := if 2 * plainG g c < g (20 + c) then 2 * plainG g c else g (20 + c)
def leakG (g : Nat → Int32) (c : Nat) : Int32 :=
  if g (32 + c) = 1 then 0 else if g (32 + c) = 2 then twiceG g c else if g (32 + c) = 3 then deepG g c else if g (32 + c) = 4 then twiceG g c
  else if g (32 + c) = 5 then (if placeG g c = 6 then g (20 + c) else deepG g c) else if g (32 + c) = 6 then twiceG g c else plainG g c
def heldG (x : Int32) : Int32 := if x < -600 then -600 else if 600 < x then 600 else x
def sgn (x : Int32) : Int32 := if x < 0 then -1 else if x = 0 then 0 else 1
def touchG (g : Nat → Int32) (by_ : Int32) : Nat → Int32 := upd (upd g 4 (heldG (g 4 + by_))) 6 (if heldG (g 4 + by_) = 0 then g 6 else sgn (heldG (g 4 + by_)))
def spareG (g : Nat → Int32) (c : Nat) : Int32 := if roomG g c - g (20 + c) < 0 then 0 else roomG g c - g (20 + c)
def comesG (g : Nat → Int32) (c : Nat) : Int32 := if spareG g c < g 0 then spareG g c else g 0
def pourAt (g : Nat → Int32) (c : Nat) : Nat → Int32 := upd (upd g (20 + c) (g (20 + c) + comesG g c)) 7 (g 7 + (g 0 - comesG g c))
def placeN (g : Nat → Int32) (c : Nat) : Nat := (c + (g 5).toNatClampNeg / 100) % 12
def topN (g : Nat → Int32) : Nat := (12 - (g 5).toNatClampNeg / 100) % 12
def pourG (g : Nat → Int32) : Nat → Int32 := pourAt g (topN g)
def passG (g : Nat → Int32) (c : Nat) : Nat → Int32 := if g (20 + (c + 1) % 12) < g (20 + c) ∧ g (20 + (c + 1) % 12) < roomG g ((c + 1) % 12) then upd (upd g (20 + c) (g (20 + c) - 1)) (20 + (c + 1) % 12) (g (20 + (c + 1) % 12) + 1) else g
def lossG (g : Nat → Int32) (c : Nat) : Nat → Int32 := upd (upd g (20 + c) (g (20 + c) - leakG g c)) 8 (g 8 + leakG g c)
def drainG (g : Nat → Int32) (c : Nat) : Nat → Int32 := if g (32 + c) = 6 then passG (lossG g c) c else lossG g c
def drainsG (g : Nat → Int32) : Nat → (Nat → Int32)
  | 0 => g
  | n + 1 => drainG (drainsG g n) n
def levG (x : Int32) : Int32 := (xzl 1).getD x.toNatClampNeg 0
def pullN (g : Nat → Int32) : Nat → Int32
  | 0 => 0
  | n + 1 => pullN g n + g (20 + n) * levG (placeG g n)
def waterN (g : Nat → Int32) : Nat → Int32
  | 0 => 0
  | n + 1 => waterN g n + g (20 + n)
def fastG (g : Nat → Int32) : Int32 := g 4 + pullN g 12 / (100 * g 3)
def slowG (g : Nat → Int32) : Int32 := heldG (fastG g - fastG g * g 2 / 100)
def swingG (g : Nat → Int32) : Nat → Int32 := upd (upd g 4 (slowG g)) 5 (xrem (g 5 + slowG g + 1200) 1200)
abbrev turnsQ (g : Nat → Int32) : Prop := (0 < g 4 ∧ g 6 < 0) ∨ (g 4 < 0 ∧ 0 < g 6)
def logT (g : Nat → Int32) : Nat → Int32 := upd (if g 10 < 40 then upd (upd g (44 + 2 * (g 10).toNatClampNeg) (g 9)) (45 + 2 * (g 10).toNatClampNeg) (g 11) else g) 10 (g 10 + 1)
def logG (g : Nat → Int32) : Nat → Int32 := upd (logT g) 11 0
def absG (x : Int32) : Int32 := if x < 0 then -x else x
def noteG (g : Nat → Int32) : Nat → Int32 := upd (upd g 11 (if g 11 < absG (g 4) then absG (g 4) else g 11)) 6 (if g 4 = 0 then g 6 else sgn (g 4))
def watchG (g : Nat → Int32) : Nat → Int32 := noteG (if turnsQ g then logG g else g)
def tickG (g : Nat → Int32) : Nat → Int32 := upd g 9 (g 9 + 1)
def stepG (g : Nat → Int32) : Nat → Int32 := watchG (tickG (swingG (drainsG (pourG g) 12)))
def stepsG (g : Nat → Int32) : Nat → (Nat → Int32)
  | 0 => g
  | n + 1 => stepG (stepsG g n)
/-- what always holds of a wheel -/
def glo (i : Nat) : Int := if i < 3 then 0 else if i = 3 then 1 else if i = 4 then -600 else if i = 5 then 0 else if i = 6 then -1 else if i = 11 then 0 else if i < 20 then -2147483648 else 0
def ghi (i : Nat) : Int := if i < 4 then 99 else if i = 4 then 600 else if i = 5 then 1199 else if i = 6 then 1 else if i = 11 then 600 else if i < 20 then 2147483647 else if i < 32 then 999 else 6
def gI (g : Nat → Int32) : Prop := ∀ i, i < 44 → glo i ≤ (g i).toInt ∧ (g i).toInt ≤ ghi i
/-- TURNS so far, at most T -/
def gT (g : Nat → Int32) (T : Nat) : Prop := 0 ≤ (g 10).toInt ∧ (g 10).toInt ≤ (T : Int)
/-! which wheel: 0 what stands, 1 what is kept, 2, 3 the runs -/
def wc (w : Nat) : Nat := [2, 29, 59, 65].getD w 0
theorem wc_lt {w : Nat} (h : w < 4) : wc w < 88 := by
  match w, h with
  | 0, _ => decide
  | 1, _ => decide
  | 2, _ => decide
  | 3, _ => decide
theorem wd_0 {w : Nat} (h : w < 4) : xd (wc w) = (6, [(0, wc w + 1, 0), (0, wc w + 2, 0), (0, wc w + 3, 0), (0, wc w + 4, 0), (0, wc w + 5, 0), (1, w, 4), (1, w, 5), (1, w, 6), (1, w, 7), (1, w, 8), (1, w, 9), (1, w, 10), (1, w, 11)]) := by
  match w, h with
  | 0, _ => rfl
  | 1, _ => rfl
  | 2, _ => rfl
  | 3, _ => rfl
theorem wd_1 {w : Nat} (h : w < 4) : xd (wc w + 1) = (9, [(4, w, 0), (1, 0, 0)]) := by
  match w, h with
  | 0, _ => rfl
  | 1, _ => rfl
  | 2, _ => rfl
  | 3, _ => rfl
theorem wd_2 {w : Nat} (h : w < 4) : xd (wc w + 2) = (9, [(12, w, 32), (1, 0, 0)]) := by
  match w, h with
  | 0, _ => rfl
  | 1, _ => rfl
  | 2, _ => rfl
  | 3, _ => rfl
theorem wd_3 {w : Nat} (h : w < 4) : xd (wc w + 3) = (9, [(12, w, 20), (1, 0, 0)]) := by
  match w, h with
  | 0, _ => rfl
  | 1, _ => rfl
  | 2, _ => rfl
  | 3, _ => rfl
theorem wd_4 {w : Nat} (h : w < 4) : xd (wc w + 4) = (9, [(40, w, 44), (2, 0, 0)]) := by
  match w, h with
  | 0, _ => rfl
  | 1, _ => rfl
  | 2, _ => rfl
  | 3, _ => rfl
theorem wd_5 {w : Nat} (h : w < 4) : xd (wc w + 5) = (9, [(40, w, 45), (2, 0, 0)]) := by
  match w, h with
  | 0, _ => rfl
  | 1, _ => rfl
  | 2, _ => rfl
  | 3, _ => rfl
/-! Int32 by Int: what the machine's words are, as whole numbers -/
theorem tI_add {x y : Int32} (h1 : -2147483648 ≤ x.toInt + y.toInt) (h2 : x.toInt + y.toInt ≤ 2147483647) : (x + y).toInt = x.toInt + y.toInt := by
  rw [Int32.toInt_add]
  exact Int.bmod_eq_of_le (by omega) (by omega)
theorem tI_sub {x y : Int32} (h1 : -2147483648 ≤ x.toInt - y.toInt) (h2 : x.toInt - y.toInt ≤ 2147483647) : (x - y).toInt = x.toInt - y.toInt := by
  rw [Int32.toInt_sub]
  exact Int.bmod_eq_of_le (by omega) (by omega)
theorem tI_mul {x y : Int32} (h1 : -2147483648 ≤ x.toInt * y.toInt) (h2 : x.toInt * y.toInt ≤ 2147483647) : (x * y).toInt = x.toInt * y.toInt := by
  rw [Int32.toInt_mul]
  exact Int.bmod_eq_of_le (by omega) (by omega)
theorem tI_neg {x : Int32} (h : -2147483647 ≤ x.toInt) : (-x).toInt = -x.toInt := by
  rw [Int32.toInt_neg]
  have h2 := (i32_cases x).2
  exact Int.bmod_eq_of_le (by omega) (by omega)
theorem tI_div {x y : Int32} (hy : 1 ≤ y.toInt) : (x / y).toInt = x.toInt.tdiv y.toInt := by
  have h := i32_cases x
  rw [Int32.toInt_div]
  have h1 : -2147483648 ≤ x.toInt.tdiv y.toInt ∧ x.toInt.tdiv y.toInt ≤ 2147483647 := by
    by_cases h0 : x.toInt < 0
    · have e : x.toInt.tdiv y.toInt = -((-x.toInt) / y.toInt) := by
        rw [← Int.neg_neg x.toInt, Int.neg_tdiv, Int.neg_neg, Int.tdiv_eq_ediv_of_nonneg (by omega)]
      have h2 : (-x.toInt) / y.toInt ≤ -x.toInt := Int.ediv_le_self _ (by omega)
      have h3 : 0 ≤ (-x.toInt) / y.toInt := Int.ediv_nonneg (by omega) (by omega)
      omega
    · have h0 : 0 ≤ x.toInt := by omega
      rw [Int.tdiv_eq_ediv_of_nonneg h0]
      have h2 : x.toInt / y.toInt ≤ x.toInt := Int.ediv_le_self _ h0
      have h3 : 0 ≤ x.toInt / y.toInt := Int.ediv_nonneg h0 (by omega)
      omega
  exact Int.bmod_eq_of_le (by omega) (by omega)
theorem tI_lt {x y : Int32} : x < y ↔ x.toInt < y.toInt := Int32.lt_iff_toInt_lt
theorem tI_le {x y : Int32} : x ≤ y ↔ x.toInt ≤ y.toInt := Int32.le_iff_toInt_le
theorem tI_eq {x y : Int32} : x = y ↔ x.toInt = y.toInt := Int32.toInt_inj.symm
/-! what the numbers of a wheel can be -/
abbrev upX (g : Nat → Int32) (k : Nat) (x : Int32) : Nat → Int32 := upd g k x
theorem glo_w {j : Nat} (h : j < 12) : glo (20 + j) = 0 := by
  unfold glo
  rw [if_neg (by omega), if_neg (by omega), if_neg (by omega), if_neg (by omega), if_neg (by omega), if_neg (by omega), if_neg (by omega)]
theorem ghi_w {j : Nat} (h : j < 12) : ghi (20 + j) = 999 := by
  unfold ghi
  rw [if_neg (by omega), if_neg (by omega), if_neg (by omega), if_neg (by omega), if_neg (by omega), if_neg (by omega), if_pos (by omega)]
theorem glo_k {j : Nat} (h : j < 12) : glo (32 + j) = 0 := by
  unfold glo
  rw [if_neg (by omega), if_neg (by omega), if_neg (by omega), if_neg (by omega), if_neg (by omega), if_neg (by omega), if_neg (by omega)]
theorem ghi_k {j : Nat} (h : j < 12) : ghi (32 + j) = 6 := by
  unfold ghi
  rw [if_neg (by omega), if_neg (by omega), if_neg (by omega), if_neg (by omega), if_neg (by omega), if_neg (by omega), if_neg (by omega)]
theorem gI.w {g : Nat → Int32} (hg : gI g) {j : Nat} (h : j < 12) : 0 ≤ (g (20 + j)).toInt ∧ (g (20 + j)).toInt ≤ 999 := by
  have h1 := hg (20 + j) (by omega)
  rw [glo_w h, ghi_w h] at h1
  exact h1
theorem gI.k {g : Nat → Int32} (hg : gI g) {j : Nat} (h : j < 12) : 0 ≤ (g (32 + j)).toInt ∧ (g (32 + j)).toInt ≤ 6 := by
  have h1 := hg (32 + j) (by omega)
  rw [glo_k h, ghi_k h] at h1
  exact h1
theorem gI.h0 {g : Nat → Int32} (hg : gI g) : 0 ≤ (g 0).toInt ∧ (g 0).toInt ≤ 99 := hg 0 (by decide)
theorem gI.h1 {g : Nat → Int32} (hg : gI g) : 0 ≤ (g 1).toInt ∧ (g 1).toInt ≤ 99 := hg 1 (by decide)
theorem gI.h2 {g : Nat → Int32} (hg : gI g) : 0 ≤ (g 2).toInt ∧ (g 2).toInt ≤ 99 := hg 2 (by decide)
theorem gI.h3 {g : Nat → Int32} (hg : gI g) : 1 ≤ (g 3).toInt ∧ (g 3).toInt ≤ 99 := hg 3 (by decide)
theorem gI.h4 {g : Nat → Int32} (hg : gI g) : -600 ≤ (g 4).toInt ∧ (g 4).toInt ≤ 600 := hg 4 (by decide)
theorem gI.h5 {g : Nat → Int32} (hg : gI g) : 0 ≤ (g 5).toInt ∧ (g 5).toInt ≤ 1199 := hg 5 (by decide)
theorem gI.h6 {g : Nat → Int32} (hg : gI g) : -1 ≤ (g 6).toInt ∧ (g 6).toInt ≤ 1 := hg 6 (by decide)
theorem gI.h11 {g : Nat → Int32} (hg : gI g) : 0 ≤ (g 11).toInt ∧ (g 11).toInt ≤ 600 := hg 11 (by decide)
theorem gI.upd {g : Nat → Int32} (hg : gI g) {i : Nat} {x : Int32} (h : i < 44 → glo i ≤ x.toInt ∧ x.toInt ≤ ghi i) : gI (upd g i x) := by
  intro j hj
  by_cases e : j = i
  · subst e
    rw [upd_at]
    exact h hj
  · rw [upd_ne e]
    exact hg j hj
theorem gI.free {g : Nat → Int32} (hg : gI g) {i : Nat} {x : Int32} (h : (7 ≤ i ∧ i ≤ 10) ∨ 44 ≤ i) : gI (upX g i x) := by
  refine hg.upd (fun hi => ?_)
  have hc := i32_cases x
  rcases h with h | h
  · unfold glo ghi
    rw [if_neg (by omega), if_neg (by omega), if_neg (by omega), if_neg (by omega), if_neg (by omega), if_neg (by omega), if_pos (by omega), if_neg (by omega), if_neg (by omega), if_neg (by omega), if_neg (by omega), if_neg (by omega), if_pos (by omega)]
    omega
  · omega
theorem gI.updW {g : Nat → Int32} (hg : gI g) {j : Nat} {x : Int32} (hj : j < 12) (h : 0 ≤ x.toInt ∧ x.toInt ≤ 999) : gI (upX g (20 + j) x) := hg.upd (fun _ => by rw [glo_w hj, ghi_w hj]; exact h)
theorem gI.updK {g : Nat → Int32} (hg : gI g) {j : Nat} {x : Int32} (hj : j < 12) (h : 0 ≤ x.toInt ∧ x.toInt ≤ 6) : gI (upX g (32 + j) x) := hg.upd (fun _ => by rw [glo_k hj, ghi_k hj]; exact h)
theorem lit_toInt {n : Nat} (h : n < 2 ^ 31) : (OfNat.ofNat n : Int32).toInt = (n : Int) := nI_toInt h
