/-! the tape's tokens -/
theorem first_le {P : Nat → Prop} [DecidablePred P] : ∀ n, firstN P n ≤ n := by
  intro n
  induction n with
  | zero => exact Nat.le_refl _
  | succ n ih =>
    unfold firstN
    by_cases h1 : firstN P n < n
    · rw [if_pos h1]; omega
    · rw [if_neg h1]
      by_cases h2 : P n
      · rw [if_pos h2]; omega
      · rw [if_neg h2]; omega
/-- from e on, as long as P holds, up to n -/
def spN (P : Int32 → Prop) [DecidablePred P] (g : Nat → Int32) (n e : Nat) : Nat := e + firstN (fun i => ¬ P (g (e + i))) (n - e)
theorem spN_le {P : Int32 → Prop} [DecidablePred P] {g : Nat → Int32} {n e : Nat} (h : e ≤ n) : e ≤ spN P g n e ∧ spN P g n e ≤ n := by
  have := first_le (P := fun i => ¬ P (g (e + i))) (n - e)
  unfold spN
  omega
theorem spN_end {P : Int32 → Prop} [DecidablePred P] {g : Nat → Int32} {n e k : Nat} (h : ∀ i, i < k → ¬ ¬ P (g (e + i))) (hk : e + k = n) : e + k = spN P g n e := by
  unfold spN
  rw [show n - e = k by omega, first_no _ h]
theorem spN_at {P : Int32 → Prop} [DecidablePred P] {g : Nat → Int32} {n e k : Nat} (h : ∀ i, i < k → ¬ ¬ P (g (e + i))) (hk : e + k < n) (hp : ¬ P (g (e + k))) : e + k = spN P g n e := by
  unfold spN
  rw [first_at h hp _ (show k < n - e by omega)]
theorem spN_in {P : Int32 → Prop} [DecidablePred P] {g : Nat → Int32} {n e i : Nat} (h1 : e ≤ i) (h2 : i < spN P g n e) : P (g i) := by
  unfold spN at h2
  have h3 : ¬ ¬ P (g (e + (i - e))) := by
    intro hp
    by_cases hlt : i - e < firstN (fun i => ¬ P (g (e + i))) (n - e)
    · have hf : ∀ m, ∀ i, i < firstN (fun i => ¬ P (g (e + i))) m → ¬ ¬ P (g (e + i)) := by
        intro m
        induction m with
        | zero => intro i hi; exact absurd hi (Nat.not_lt_zero i)
        | succ m ih =>
          intro i hi
          unfold firstN at hi
          by_cases h4 : firstN (fun i => ¬ P (g (e + i))) m < m
          · rw [if_pos h4] at hi; exact ih i hi
          · rw [if_neg h4] at hi
            have hm : firstN (fun i => ¬ P (g (e + i))) m = m := Nat.le_antisymm (first_le m) (by omega)
            by_cases h5 : ¬ P (g (e + m))
            · rw [if_pos h5] at hi; exact ih i (by rw [hm]; exact hi)
            · rw [if_neg h5] at hi
              rcases Nat.lt_succ_iff_lt_or_eq.mp hi with h6 | h6
              · exact ih i (by rw [hm]; exact h6)
              · rw [h6]; exact h5
      exact hf _ _ hlt hp
    · omega
  rw [show e + (i - e) = i by omega] at h3
  exact Decidable.not_not.mp h3
abbrev isSp (x : Int32) : Prop := x = 32
abbrev isLt (x : Int32) : Prop := rng x 97 122
abbrev isDg (x : Int32) : Prop := rng x 48 57
def byB (g : Nat → Int32) (n i : Nat) : Int32 := if i < n then g i else -1
theorem byB_in {g : Nat → Int32} {n i : Nat} (h : i < n) : byB g n i = g i := if_pos h
theorem byB_out {g : Nat → Int32} {n i : Nat} (h : ¬ i < n) : byB g n i = -1 := if_neg h
abbrev mtQ (g : Nat → Int32) (b e i : Nat) : Prop := e - b = xsLn.getD i 0 ∧ ∀ j, j < xsLn.getD i 0 → g (b + j) = xch i j
/-- the last place below k that Q holds at -/
def wvN (Q : Nat → Prop) [DecidablePred Q] : Nat → Int32
  | 0 => -1
  | k + 1 => if Q k then nI k else wvN Q k
def dig (x : Int32) : Nat := x.toNatClampNeg - 48
theorem dig_of {x : Int32} (h : isDg x) : x = nI (48 + dig x) ∧ dig x ≤ 9 := by
  obtain ⟨q, h1, h2, rfl⟩ := rngN (a := 48) (b := 57) h (by decide) (by decide) (by decide)
  unfold dig
  rw [nI_clamp (by omega)]
  exact ⟨congrArg nI (by omega), by omega⟩
def cnN (g : Nat → Int32) (b : Nat) : Nat → Nat
  | 0 => 0
  | k + 1 => min (cnN g b k * 10 + dig (g (b + k))) 1000
theorem cnN_le (g : Nat → Int32) (b k : Nat) : cnN g b k ≤ 1000 := by
  cases k with
  | zero => exact Nat.zero_le _
  | succ k => exact Nat.min_le_right _ _
theorem cn_v {v : Nat} {x : Int32} (h : isDg x) (hv : v ≤ 1000) : nI (v * 10) + x - 48 = nI (v * 10 + dig x) := by
  obtain ⟨e, h9⟩ := dig_of h
  have e2 : nI (v * 10) + x - 48 = nI (v * 10) + nI (48 + dig x) - nI 48 := by rw [← e]; rfl
  rw [e2, nI_add, pk_sub (by omega)]
  exact congrArg nI (by omega)
theorem cn_m {y : Nat} (h : y < 2 ^ 31) : (if (1000 : Int32) < nI y then 1000 else nI y) = nI (min y 1000) := by
  by_cases h1 : 1000 < y
  · rw [if_pos (show (1000 : Int32) < nI y from nI_lt (a := 1000) h1 h), Nat.min_eq_right (by omega)]
    rfl
  · rw [if_neg (show ¬ (1000 : Int32) < nI y from nI_nlt (a := 1000) (b := y) (by omega) (by omega)), Nat.min_eq_left (by omega)]
/-- the token that begins at b: its end, its kind (0 a word, 1 a number, 2 a sign, 3 another), what it tells -/
def tkE (g : Nat → Int32) (n b : Nat) : Nat := if isLt (byB g n b) then spN isLt g n b else if isDg (byB g n b) then spN isDg g n b else if byB g n b = 59 ∨ byB g n b = 45 then b + 1 else b
def tkT (g : Nat → Int32) (n b : Nat) : Int32 := if isLt (byB g n b) then 0 else if isDg (byB g n b) then 1 else if byB g n b = 59 ∨ byB g n b = 45 then 2 else 3
def tkV (g : Nat → Int32) (n b : Nat) : Int32 := if isLt (byB g n b) then wvN (mtQ g b (spN isLt g n b)) 13 else if isDg (byB g n b) then nI (cnN g b (spN isDg g n b - b)) else byB g n b
def nB (g : Nat → Int32) (n e : Nat) : Nat := spN isSp g n e
def rd6 (h : Nat → Int32) (t b e v : Int32) : Nat → Int32 := fun j => if j = 2 then t else if j = 3 then b else if j = 4 then e else if j = 5 then v else h j
/-- the reader's places, the token from e on read -/
def rdT (g : Nat → Int32) (n e : Nat) (h : Nat → Int32) : Nat → Int32 := rd6 h (tkT g n (nB g n e)) (nI (nB g n e)) (nI (tkE g n (nB g n e))) (tkV g n (nB g n e))
theorem u2_self {σ : Nat → Nat → Int32} {b i : Nat} {x : Int32} (h : σ b i = x) : σ = u2 σ b i x := by
  unfold u2
  rw [← h, upd_self, xself]
theorem by_lt {g : Nat → Int32} {n b : Nat} (h : ¬ b < n) : ¬ isLt (byB g n b) ∧ ¬ isDg (byB g n b) ∧ ¬ (byB g n b = 59 ∨ byB g n b = 45) := by
  rw [byB_out h]
  decide
set_option maxHeartbeats 4000000 in
set_option maxRecDepth 100000 in
theorem c_byteAt (l : Launch) (E : xE) (σ : Nat → Nat → Int32) (τ : Nat → Int64) (i : Nat) (hi : i ≤ 200) (g : Nat → Int32) (n : Nat) (hn : n ≤ 100) (hg : σ 5 = g) (ht : σ 6 1 = nI n) : xMi l yX4_byteAt cX4_byteAt 2 .int 0 0 E [.ref (xad E (55)), .int (nI i)] (σ) (τ) (byB g n i) (σ) (τ) := by
  refine xMi_of (own := RX4) (by decide +kernel) rfl (Nat.le_of_ble_eq_true rfl) ?_
  intro zp ze zs zm za zb zh zc C
  refine WM.to (lv1 := [(0, .ref (xad E (55))), (1, .int (nI i))]) (st1 := []) (σ1 := σ) (τ1 := τ) ?_ rfl rfl rfl rfl
  refine x_iload_n C 1 dX4_byteAt_0 rfl rfl ?_
  refine x_if_lt C (tgt := 21) dX4_byteAt_1 (by decide) (fun h1 => absurd h1 (nI_nlt (a := i) (b := 0) (by omega) (by omega))) (fun h1 => ?_)
  refine x_iload_n C 1 dX4_byteAt_4 rfl rfl ?_
  refine x_aload_n C 0 dX4_byteAt_5 rfl rfl ?_
  refine x_get C (Nat.le_of_ble_eq_true rfl) xd_55 fl_X4_13 (q := (1, 6, 1)) (v := .int (nI n)) rfl (congrArg Value.int ht) dX4_byteAt_6 ?_
  refine x_icmp_ge C (tgt := 21) dX4_byteAt_9 (by decide) (fun h2 => ?_) (fun h2 => ?_)
  · refine x_iconst C (v := -1) dX4_byteAt_21 (by decide) ?_
    exact x_iret C (Eq.symm (byB_out (by rw [← nI_ltI (a := i) (b := n) (by omega) (by omega)]; exact h2))) rfl rfl dX4_byteAt_22
  · refine x_aload_n C 0 dX4_byteAt_12 rfl rfl ?_
    refine x_get C (Nat.le_of_ble_eq_true rfl) xd_55 fl_X4_9 (q := (0, 56, 0)) (v := .ref (xad E (56))) rfl rfl dX4_byteAt_13 ?_
    refine x_iload_n C 1 dX4_byteAt_16 rfl rfl ?_
    refine x_ald C (Nat.le_of_ble_eq_true rfl) xd_56 (v := σ 5 i) (vp_in_nI (show i < 100 by (have := (nI_ltI (a := i) (b := n) (by omega) (by omega)).mp h2; omega)) (by decide)) (by rw [(nI_clamp (show i < 2 ^ 31 by omega)), Nat.zero_add, Nat.one_mul]) dX4_byteAt_17 ?_
    refine x_goto2 C (tgt := 22) dX4_byteAt_18 (by decide) ?_
    exact x_iret C (by rw [byB_in ((nI_ltI (a := i) (b := n) (by omega) (by omega)).mp h2), ← hg]) rfl rfl dX4_byteAt_22
set_option maxHeartbeats 4000000 in
set_option maxRecDepth 100000 in
theorem c_isLetter (l : Launch) (E : xE) (σ : Nat → Nat → Int32) (τ : Nat → Int64) (i : Nat) (hi : i ≤ 200) (g : Nat → Int32) (n : Nat) (hn : n ≤ 100) (hg : σ 5 = g) (ht : σ 6 1 = nI n) : xMi l yX4_isLetter cX4_isLetter 2 .boolean 1 22 E [.ref (xad E (55)), .int (nI i)] (σ) (τ) (if rng (byB g n i) 97 122 then 1 else 0) (σ) (τ) := by
  refine xMi_of (own := RX4) (by decide +kernel) rfl (Nat.le_of_ble_eq_true rfl) ?_
  intro zp ze zs zm za zb zh zc C
  refine WM.to (lv1 := [(0, .ref (xad E (55))), (1, .int (nI i))]) (st1 := []) (σ1 := σ) (τ1 := τ) ?_ rfl rfl rfl rfl
  refine x_aload_n C 0 dX4_isLetter_0 rfl rfl ?_
  refine x_iload_n C 1 dX4_isLetter_1 rfl rfl ?_
  refine x_callVi C (As := [.int (nI i)]) (rest := []) (c_byteAt l E σ τ i (by omega) g n hn hg ht) kv_X4_23 (x_recv C (Nat.le_of_ble_eq_true rfl) xd_55 rfl) ⟨Nat.le_of_ble_eq_true rfl, Nat.le_of_ble_eq_true rfl⟩ rfl rfl (Nat.le_of_ble_eq_true rfl) dX4_isLetter_2 ?_
  refine x_bipush C (v := 97) dX4_isLetter_5 (by decide) ?_
  refine x_bipush C (v := 122) dX4_isLetter_7 (by decide) ?_
  refine x_callNi C (As := [.int (byB g n i), .int (97), .int (122)]) (rest := []) (c_within l E σ τ (byB g n i) 97 122) kn_X4_17 ⟨Nat.le_of_ble_eq_true rfl, Nat.le_of_ble_eq_true rfl⟩ rfl rfl (Nat.le_of_ble_eq_true rfl) dX4_isLetter_9 ?_
  exact x_zret C (nzB _) rfl rfl rfl dX4_isLetter_12
set_option maxHeartbeats 4000000 in
set_option maxRecDepth 100000 in
theorem c_isDigit (l : Launch) (E : xE) (σ : Nat → Nat → Int32) (τ : Nat → Int64) (i : Nat) (hi : i ≤ 200) (g : Nat → Int32) (n : Nat) (hn : n ≤ 100) (hg : σ 5 = g) (ht : σ 6 1 = nI n) : xMi l yX4_isDigit cX4_isDigit 2 .boolean 1 22 E [.ref (xad E (55)), .int (nI i)] (σ) (τ) (if rng (byB g n i) 48 57 then 1 else 0) (σ) (τ) := by
  refine xMi_of (own := RX4) (by decide +kernel) rfl (Nat.le_of_ble_eq_true rfl) ?_
  intro zp ze zs zm za zb zh zc C
  refine WM.to (lv1 := [(0, .ref (xad E (55))), (1, .int (nI i))]) (st1 := []) (σ1 := σ) (τ1 := τ) ?_ rfl rfl rfl rfl
  refine x_aload_n C 0 dX4_isDigit_0 rfl rfl ?_
  refine x_iload_n C 1 dX4_isDigit_1 rfl rfl ?_
  refine x_callVi C (As := [.int (nI i)]) (rest := []) (c_byteAt l E σ τ i (by omega) g n hn hg ht) kv_X4_23 (x_recv C (Nat.le_of_ble_eq_true rfl) xd_55 rfl) ⟨Nat.le_of_ble_eq_true rfl, Nat.le_of_ble_eq_true rfl⟩ rfl rfl (Nat.le_of_ble_eq_true rfl) dX4_isDigit_2 ?_
  refine x_bipush C (v := 48) dX4_isDigit_5 (by decide) ?_
  refine x_bipush C (v := 57) dX4_isDigit_7 (by decide) ?_
  refine x_callNi C (As := [.int (byB g n i), .int (48), .int (57)]) (rest := []) (c_within l E σ τ (byB g n i) 48 57) kn_X4_17 ⟨Nat.le_of_ble_eq_true rfl, Nat.le_of_ble_eq_true rfl⟩ rfl rfl (Nat.le_of_ble_eq_true rfl) dX4_isDigit_9 ?_
  exact x_zret C (nzB _) rfl rfl rfl dX4_isDigit_12
set_option maxHeartbeats 4000000 in
set_option maxRecDepth 100000 in
theorem c_isWordAt (l : Launch) (E : xE) (σ : Nat → Nat → Int32) (τ : Nat → Int64) (b e i : Nat) (hbe : b ≤ e) (hen : e ≤ 100) (hi : i < 13) (g : Nat → Int32) (n : Nat) (hn : n ≤ 100) (hg : σ 5 = g) (ht : σ 6 1 = nI n) (hen2 : e ≤ n) : xMi l yX4_isWordAt cX4_isWordAt 5 .boolean 4 85 E [.ref (xad E (55)), .int (nI b), .int (nI e), .ref (xsK E (i))] (σ) (τ) (if mtQ g b e i then 1 else 0) (σ) (τ) := by
  refine xMi_of (own := RX4) (by decide +kernel) rfl (Nat.le_of_ble_eq_true rfl) ?_
  intro zp ze zs zm za zb zh zc C
  refine WM.to (lv1 := [(0, .ref (xad E (55))), (1, .int (nI b)), (2, .int (nI e)), (3, .ref (xsK E (i)))]) (st1 := []) (σ1 := σ) (τ1 := τ) ?_ rfl rfl rfl rfl
  refine x_iload_n C 2 dX4_isWordAt_0 rfl rfl ?_
  refine x_iload_n C 1 dX4_isWordAt_1 rfl rfl ?_
  refine x_isub C dX4_isWordAt_2 ?_
  refine WM.topi (y := nI (e - b)) (pk_sub hbe) ?_
  refine x_aload_n C 3 dX4_isWordAt_3 rfl rfl ?_
  refine x_callViS C (As := []) (rest := [.int (nI (e - b))]) (c_Slen l E σ τ i hi) kv_X4_27 (x_recvS C (i := i) hi) ⟨Nat.le_of_ble_eq_true rfl, Nat.le_of_ble_eq_true rfl⟩ rfl rfl (Nat.le_of_ble_eq_true rfl) dX4_isWordAt_4 ?_
  refine x_icmp_eq C (tgt := 12) dX4_isWordAt_7 (by decide) (fun h1 => ?_) (fun h1 => ?_)
  · have hel : e - b = xsLn.getD i 0 := (nI_eq (by omega) (hl_13 i hi)).mp h1
    have hlt : xsLn.getD i 0 < 2 ^ 31 := hl_13 i hi
    refine x_iconst C (v := 0) dX4_isWordAt_12 (by decide) ?_
    refine x_istore C (lv1 := [(4, .int (0)), (0, .ref (xad E (55))), (1, .int (nI b)), (2, .int (nI e)), (3, .ref (xsK E (i)))]) dX4_isWordAt_13 (by decide) rfl ?_
    have loop : ∀ (j k : Nat), j + k = xsLn.getD i 0 → (∀ i1, i1 < k → ¬ ¬ g (b + i1) = xch i i1) → WM zp l ze { frames := 4, cells := 0, slots := 0, locals := 85 } zs zm za zb zh zc 0 0 (MQ zb (va_Qi (fun r (_ : Unit) => r = (if mtQ g b e i then 1 else 0)) (fun _ t => xP E (σ) (τ) t.heap) (xA E)) za zs 0 0 (xA E)) E (xA E) 5 (σ) (τ) 15 [(0, .ref (xad E (55))), (1, .int (nI b)), (2, .int (nI e)), (3, .ref (xsK E (i))), (4, .int (nI k))] [] := by
      intro j
      induction j with
      | zero =>
        intro k hk hnf
        refine x_iload C 4 dX4_isWordAt_15 rfl ?_
        refine x_aload_n C 3 dX4_isWordAt_17 rfl rfl ?_
        refine x_callViS C (As := []) (rest := [.int (nI k)]) (c_Slen l E σ τ i hi) kv_X4_27 (x_recvS C (i := i) hi) ⟨Nat.le_of_ble_eq_true rfl, Nat.le_of_ble_eq_true rfl⟩ rfl rfl (Nat.le_of_ble_eq_true rfl) dX4_isWordAt_18 ?_
        refine x_icmp_ge C (tgt := 49) dX4_isWordAt_21 (by decide) (fun h2 => ?_) (fun h2 => absurd h2 (nI_nlt (a := k) (b := xsLn.getD i 0) (by omega) (by omega)))
        refine x_iconst C (v := 1) dX4_isWordAt_49 (by decide) ?_
        exact x_zret C (by rfl) (Eq.symm (if_pos ⟨hel, fun j hj => Decidable.not_not.mp (hnf j (by omega))⟩)) rfl rfl dX4_isWordAt_50
      | succ j ih =>
        intro k hk hnf
        refine x_iload C 4 dX4_isWordAt_15 rfl ?_
        refine x_aload_n C 3 dX4_isWordAt_17 rfl rfl ?_
        refine x_callViS C (As := []) (rest := [.int (nI k)]) (c_Slen l E σ τ i hi) kv_X4_27 (x_recvS C (i := i) hi) ⟨Nat.le_of_ble_eq_true rfl, Nat.le_of_ble_eq_true rfl⟩ rfl rfl (Nat.le_of_ble_eq_true rfl) dX4_isWordAt_18 ?_
        refine x_icmp_ge C (tgt := 49) dX4_isWordAt_21 (by decide) (fun h3 => absurd (nI_lt (a := k) (b := xsLn.getD i 0) (by omega) (by omega)) h3) (fun h3 => ?_)
        refine x_aload_n C 0 dX4_isWordAt_24 rfl rfl ?_
        refine x_iload_n C 1 dX4_isWordAt_25 rfl rfl ?_
        refine x_iload C 4 dX4_isWordAt_26 rfl ?_
        refine x_iadd C dX4_isWordAt_28 ?_
        refine WM.topi (y := nI (b + k)) (nI_add b k) ?_
        refine x_callVi C (As := [.int (nI (b + k))]) (rest := []) (c_byteAt l E σ τ (b + k) (by omega) g n hn hg ht) kv_X4_23 (x_recv C (Nat.le_of_ble_eq_true rfl) xd_55 rfl) ⟨Nat.le_of_ble_eq_true rfl, Nat.le_of_ble_eq_true rfl⟩ rfl rfl (Nat.le_of_ble_eq_true rfl) dX4_isWordAt_29 ?_
        refine x_aload_n C 3 dX4_isWordAt_32 rfl rfl ?_
        refine x_iload C 4 dX4_isWordAt_33 rfl ?_
        refine x_callViS C (As := [.int (nI k)]) (rest := [.int (byB g n (b + k))]) (c_Sch l E σ τ i k hi (by omega)) kv_X4_33 (x_recvS C (i := i) hi) ⟨Nat.le_of_ble_eq_true rfl, Nat.le_of_ble_eq_true rfl⟩ rfl rfl (Nat.le_of_ble_eq_true rfl) dX4_isWordAt_35 ?_
        refine x_icmp_eq C (tgt := 43) dX4_isWordAt_38 (by decide) (fun h4 => ?_) (fun h4 => ?_)
        · refine x_iinc C (v := nI (k + 1)) (lv1 := [(4, .int (nI (k + 1))), (0, .ref (xad E (55))), (1, .int (nI b)), (2, .int (nI e)), (3, .ref (xsK E (i)))]) 4 dX4_isWordAt_43 rfl (nI_add k 1) (by decide) rfl ?_
          refine x_goto2 C (tgt := 15) dX4_isWordAt_46 (by decide) ?_
          refine WM.keep [1, 2, 3, 4, 0] (lv' := [(0, .ref (xad E (55))), (1, .int (nI b)), (2, .int (nI e)), (3, .ref (xsK E (i))), (4, .int (nI (k + 1)))]) rfl ?_
          exact WM.to (ih (k + 1) (by omega) (hyp_s hnf (fun f => f (by rw [← byB_in (g := g) (show b + k < n by omega)]; exact h4)))) rfl rfl rfl rfl
        · refine x_iconst C (v := 0) dX4_isWordAt_41 (by decide) ?_
          exact x_zret C (by rfl) (Eq.symm (if_neg (fun q => h4 (by rw [byB_in (show b + k < n by omega)]; exact q.2 k (by omega))))) rfl rfl dX4_isWordAt_42
    refine WM.keep [1, 2, 3, 4, 0] rfl ?_
    exact WM.to (loop (xsLn.getD i 0) 0 (by omega) (fun i hi => absurd hi (Nat.not_lt_zero i))) rfl rfl rfl rfl
  · refine x_iconst C (v := 0) dX4_isWordAt_10 (by decide) ?_
    exact x_zret C (by rfl) (Eq.symm (if_neg (fun q => h1 (by rw [q.1])))) rfl rfl dX4_isWordAt_11
set_option maxHeartbeats 4000000 in
set_option maxRecDepth 100000 in
theorem c_wd_0 (l : Launch) (E : xE) (σ : Nat → Nat → Int32) (τ : Nat → Int64) : xMr l yX0_wordOf cX0_wordOf 1 (.object "java/lang/String") 0 0 E [.int (0)] (σ) (τ) (xsK E 0) (σ) (τ) := by
  refine xMr_of (own := RX0) (by decide +kernel) rfl (Nat.le_of_ble_eq_true rfl) ?_
  intro zp ze zs zm za zb zh zc C
  refine WM.to (lv1 := [(0, .int (0))]) (st1 := []) (σ1 := σ) (τ1 := τ) ?_ rfl rfl rfl rfl
  refine x_iload_n C 0 dX0_wordOf_0 rfl rfl ?_
  refine x_tableIn C (tgt := 64) dX0_wordOf_1 (by decide) (by decide) rfl (by decide) ?_
  refine x_ldcS C (i := 0) (by decide) dX0_wordOf_64 (List.mem_of_getElem? (i := 490) (by decide +kernel)) ?_
  exact x_aret C (Or.inl ⟨_, rfl⟩) rfl rfl rfl dX0_wordOf_66
set_option maxHeartbeats 4000000 in
set_option maxRecDepth 100000 in
theorem c_wd_1 (l : Launch) (E : xE) (σ : Nat → Nat → Int32) (τ : Nat → Int64) : xMr l yX0_wordOf cX0_wordOf 1 (.object "java/lang/String") 0 0 E [.int (1)] (σ) (τ) (xsK E 1) (σ) (τ) := by
  refine xMr_of (own := RX0) (by decide +kernel) rfl (Nat.le_of_ble_eq_true rfl) ?_
  intro zp ze zs zm za zb zh zc C
  refine WM.to (lv1 := [(0, .int (1))]) (st1 := []) (σ1 := σ) (τ1 := τ) ?_ rfl rfl rfl rfl
  refine x_iload_n C 0 dX0_wordOf_0 rfl rfl ?_
  refine x_tableIn C (tgt := 67) dX0_wordOf_1 (by decide) (by decide) rfl (by decide) ?_
  refine x_ldcS C (i := 1) (by decide) dX0_wordOf_67 (List.mem_of_getElem? (i := 491) (by decide +kernel)) ?_
  exact x_aret C (Or.inl ⟨_, rfl⟩) rfl rfl rfl dX0_wordOf_69
set_option maxHeartbeats 4000000 in
set_option maxRecDepth 100000 in
theorem c_wd_2 (l : Launch) (E : xE) (σ : Nat → Nat → Int32) (τ : Nat → Int64) : xMr l yX0_wordOf cX0_wordOf 1 (.object "java/lang/String") 0 0 E [.int (2)] (σ) (τ) (xsK E 2) (σ) (τ) := by
  refine xMr_of (own := RX0) (by decide +kernel) rfl (Nat.le_of_ble_eq_true rfl) ?_
  intro zp ze zs zm za zb zh zc C
  refine WM.to (lv1 := [(0, .int (2))]) (st1 := []) (σ1 := σ) (τ1 := τ) ?_ rfl rfl rfl rfl
  refine x_iload_n C 0 dX0_wordOf_0 rfl rfl ?_
  refine x_tableIn C (tgt := 70) dX0_wordOf_1 (by decide) (by decide) rfl (by decide) ?_
  refine x_ldcS C (i := 2) (by decide) dX0_wordOf_70 (List.mem_of_getElem? (i := 492) (by decide +kernel)) ?_
  exact x_aret C (Or.inl ⟨_, rfl⟩) rfl rfl rfl dX0_wordOf_72
set_option maxHeartbeats 4000000 in
set_option maxRecDepth 100000 in
theorem c_wd_3 (l : Launch) (E : xE) (σ : Nat → Nat → Int32) (τ : Nat → Int64) : xMr l yX0_wordOf cX0_wordOf 1 (.object "java/lang/String") 0 0 E [.int (3)] (σ) (τ) (xsK E 3) (σ) (τ) := by
  refine xMr_of (own := RX0) (by decide +kernel) rfl (Nat.le_of_ble_eq_true rfl) ?_
  intro zp ze zs zm za zb zh zc C
  refine WM.to (lv1 := [(0, .int (3))]) (st1 := []) (σ1 := σ) (τ1 := τ) ?_ rfl rfl rfl rfl
  refine x_iload_n C 0 dX0_wordOf_0 rfl rfl ?_
  refine x_tableIn C (tgt := 73) dX0_wordOf_1 (by decide) (by decide) rfl (by decide) ?_
  refine x_ldcS C (i := 3) (by decide) dX0_wordOf_73 (List.mem_of_getElem? (i := 493) (by decide +kernel)) ?_
  exact x_aret C (Or.inl ⟨_, rfl⟩) rfl rfl rfl dX0_wordOf_75
set_option maxHeartbeats 4000000 in
set_option maxRecDepth 100000 in
theorem c_wd_4 (l : Launch) (E : xE) (σ : Nat → Nat → Int32) (τ : Nat → Int64) : xMr l yX0_wordOf cX0_wordOf 1 (.object "java/lang/String") 0 0 E [.int (4)] (σ) (τ) (xsK E 4) (σ) (τ) := by
  refine xMr_of (own := RX0) (by decide +kernel) rfl (Nat.le_of_ble_eq_true rfl) ?_
  intro zp ze zs zm za zb zh zc C
  refine WM.to (lv1 := [(0, .int (4))]) (st1 := []) (σ1 := σ) (τ1 := τ) ?_ rfl rfl rfl rfl
  refine x_iload_n C 0 dX0_wordOf_0 rfl rfl ?_
  refine x_tableIn C (tgt := 76) dX0_wordOf_1 (by decide) (by decide) rfl (by decide) ?_
  refine x_ldcS C (i := 4) (by decide) dX0_wordOf_76 (List.mem_of_getElem? (i := 494) (by decide +kernel)) ?_
  exact x_aret C (Or.inl ⟨_, rfl⟩) rfl rfl rfl dX0_wordOf_78
set_option maxHeartbeats 4000000 in
set_option maxRecDepth 100000 in
theorem c_wd_5 (l : Launch) (E : xE) (σ : Nat → Nat → Int32) (τ : Nat → Int64) : xMr l yX0_wordOf cX0_wordOf 1 (.object "java/lang/String") 0 0 E [.int (5)] (σ) (τ) (xsK E 5) (σ) (τ) := by
  refine xMr_of (own := RX0) (by decide +kernel) rfl (Nat.le_of_ble_eq_true rfl) ?_
  intro zp ze zs zm za zb zh zc C
  refine WM.to (lv1 := [(0, .int (5))]) (st1 := []) (σ1 := σ) (τ1 := τ) ?_ rfl rfl rfl rfl
  refine x_iload_n C 0 dX0_wordOf_0 rfl rfl ?_
  refine x_tableIn C (tgt := 79) dX0_wordOf_1 (by decide) (by decide) rfl (by decide) ?_
  refine x_ldcS C (i := 5) (by decide) dX0_wordOf_79 (List.mem_of_getElem? (i := 495) (by decide +kernel)) ?_
  exact x_aret C (Or.inl ⟨_, rfl⟩) rfl rfl rfl dX0_wordOf_81
set_option maxHeartbeats 4000000 in
set_option maxRecDepth 100000 in
theorem c_wd_6 (l : Launch) (E : xE) (σ : Nat → Nat → Int32) (τ : Nat → Int64) : xMr l yX0_wordOf cX0_wordOf 1 (.object "java/lang/String") 0 0 E [.int (6)] (σ) (τ) (xsK E 6) (σ) (τ) := by
  refine xMr_of (own := RX0) (by decide +kernel) rfl (Nat.le_of_ble_eq_true rfl) ?_
  intro zp ze zs zm za zb zh zc C
  refine WM.to (lv1 := [(0, .int (6))]) (st1 := []) (σ1 := σ) (τ1 := τ) ?_ rfl rfl rfl rfl
  refine x_iload_n C 0 dX0_wordOf_0 rfl rfl ?_
  refine x_tableIn C (tgt := 82) dX0_wordOf_1 (by decide) (by decide) rfl (by decide) ?_
  refine x_ldcS C (i := 6) (by decide) dX0_wordOf_82 (List.mem_of_getElem? (i := 496) (by decide +kernel)) ?_
  exact x_aret C (Or.inl ⟨_, rfl⟩) rfl rfl rfl dX0_wordOf_84
set_option maxHeartbeats 4000000 in
set_option maxRecDepth 100000 in
theorem c_wd_7 (l : Launch) (E : xE) (σ : Nat → Nat → Int32) (τ : Nat → Int64) : xMr l yX0_wordOf cX0_wordOf 1 (.object "java/lang/String") 0 0 E [.int (7)] (σ) (τ) (xsK E 7) (σ) (τ) := by
  refine xMr_of (own := RX0) (by decide +kernel) rfl (Nat.le_of_ble_eq_true rfl) ?_
  intro zp ze zs zm za zb zh zc C
  refine WM.to (lv1 := [(0, .int (7))]) (st1 := []) (σ1 := σ) (τ1 := τ) ?_ rfl rfl rfl rfl
  refine x_iload_n C 0 dX0_wordOf_0 rfl rfl ?_
  refine x_tableIn C (tgt := 85) dX0_wordOf_1 (by decide) (by decide) rfl (by decide) ?_
  refine x_ldcS C (i := 7) (by decide) dX0_wordOf_85 (List.mem_of_getElem? (i := 497) (by decide +kernel)) ?_
  exact x_aret C (Or.inl ⟨_, rfl⟩) rfl rfl rfl dX0_wordOf_87
set_option maxHeartbeats 4000000 in
set_option maxRecDepth 100000 in
theorem c_wd_8 (l : Launch) (E : xE) (σ : Nat → Nat → Int32) (τ : Nat → Int64) : xMr l yX0_wordOf cX0_wordOf 1 (.object "java/lang/String") 0 0 E [.int (8)] (σ) (τ) (xsK E 8) (σ) (τ) := by
  refine xMr_of (own := RX0) (by decide +kernel) rfl (Nat.le_of_ble_eq_true rfl) ?_
  intro zp ze zs zm za zb zh zc C
  refine WM.to (lv1 := [(0, .int (8))]) (st1 := []) (σ1 := σ) (τ1 := τ) ?_ rfl rfl rfl rfl
  refine x_iload_n C 0 dX0_wordOf_0 rfl rfl ?_
  refine x_tableIn C (tgt := 88) dX0_wordOf_1 (by decide) (by decide) rfl (by decide) ?_
  refine x_ldcS C (i := 8) (by decide) dX0_wordOf_88 (List.mem_of_getElem? (i := 498) (by decide +kernel)) ?_
  exact x_aret C (Or.inl ⟨_, rfl⟩) rfl rfl rfl dX0_wordOf_90
set_option maxHeartbeats 4000000 in
set_option maxRecDepth 100000 in
theorem c_wd_9 (l : Launch) (E : xE) (σ : Nat → Nat → Int32) (τ : Nat → Int64) : xMr l yX0_wordOf cX0_wordOf 1 (.object "java/lang/String") 0 0 E [.int (9)] (σ) (τ) (xsK E 9) (σ) (τ) := by
  refine xMr_of (own := RX0) (by decide +kernel) rfl (Nat.le_of_ble_eq_true rfl) ?_
  intro zp ze zs zm za zb zh zc C
  refine WM.to (lv1 := [(0, .int (9))]) (st1 := []) (σ1 := σ) (τ1 := τ) ?_ rfl rfl rfl rfl
  refine x_iload_n C 0 dX0_wordOf_0 rfl rfl ?_
  refine x_tableIn C (tgt := 91) dX0_wordOf_1 (by decide) (by decide) rfl (by decide) ?_
  refine x_ldcS C (i := 9) (by decide) dX0_wordOf_91 (List.mem_of_getElem? (i := 499) (by decide +kernel)) ?_
  exact x_aret C (Or.inl ⟨_, rfl⟩) rfl rfl rfl dX0_wordOf_93
set_option maxHeartbeats 4000000 in
set_option maxRecDepth 100000 in
theorem c_wd_10 (l : Launch) (E : xE) (σ : Nat → Nat → Int32) (τ : Nat → Int64) : xMr l yX0_wordOf cX0_wordOf 1 (.object "java/lang/String") 0 0 E [.int (10)] (σ) (τ) (xsK E 10) (σ) (τ) := by
  refine xMr_of (own := RX0) (by decide +kernel) rfl (Nat.le_of_ble_eq_true rfl) ?_
  intro zp ze zs zm za zb zh zc C
  refine WM.to (lv1 := [(0, .int (10))]) (st1 := []) (σ1 := σ) (τ1 := τ) ?_ rfl rfl rfl rfl
  refine x_iload_n C 0 dX0_wordOf_0 rfl rfl ?_
  refine x_tableIn C (tgt := 94) dX0_wordOf_1 (by decide) (by decide) rfl (by decide) ?_
  refine x_ldcS C (i := 10) (by decide) dX0_wordOf_94 (List.mem_of_getElem? (i := 500) (by decide +kernel)) ?_
  exact x_aret C (Or.inl ⟨_, rfl⟩) rfl rfl rfl dX0_wordOf_96
set_option maxHeartbeats 4000000 in
set_option maxRecDepth 100000 in
theorem c_wd_11 (l : Launch) (E : xE) (σ : Nat → Nat → Int32) (τ : Nat → Int64) : xMr l yX0_wordOf cX0_wordOf 1 (.object "java/lang/String") 0 0 E [.int (11)] (σ) (τ) (xsK E 11) (σ) (τ) := by
  refine xMr_of (own := RX0) (by decide +kernel) rfl (Nat.le_of_ble_eq_true rfl) ?_
  intro zp ze zs zm za zb zh zc C
  refine WM.to (lv1 := [(0, .int (11))]) (st1 := []) (σ1 := σ) (τ1 := τ) ?_ rfl rfl rfl rfl
  refine x_iload_n C 0 dX0_wordOf_0 rfl rfl ?_
  refine x_tableIn C (tgt := 97) dX0_wordOf_1 (by decide) (by decide) rfl (by decide) ?_
  refine x_ldcS C (i := 11) (by decide) dX0_wordOf_97 (List.mem_of_getElem? (i := 501) (by decide +kernel)) ?_
  exact x_aret C (Or.inl ⟨_, rfl⟩) rfl rfl rfl dX0_wordOf_99
set_option maxHeartbeats 4000000 in
set_option maxRecDepth 100000 in
theorem c_wd_12 (l : Launch) (E : xE) (σ : Nat → Nat → Int32) (τ : Nat → Int64) : xMr l yX0_wordOf cX0_wordOf 1 (.object "java/lang/String") 0 0 E [.int (12)] (σ) (τ) (xsK E 12) (σ) (τ) := by
  refine xMr_of (own := RX0) (by decide +kernel) rfl (Nat.le_of_ble_eq_true rfl) ?_
  intro zp ze zs zm za zb zh zc C
  refine WM.to (lv1 := [(0, .int (12))]) (st1 := []) (σ1 := σ) (τ1 := τ) ?_ rfl rfl rfl rfl
  refine x_iload_n C 0 dX0_wordOf_0 rfl rfl ?_
  refine x_tableOut C (tgt := 100) dX0_wordOf_1 (by decide) (by decide) ?_
  refine x_ldcS C (i := 12) (by decide) dX0_wordOf_100 (List.mem_of_getElem? (i := 502) (by decide +kernel)) ?_
  exact x_aret C (Or.inl ⟨_, rfl⟩) rfl rfl rfl dX0_wordOf_102
theorem c_wordOf (l : Launch) (E : xE) (σ : Nat → Nat → Int32) (τ : Nat → Int64) (k : Nat) (hk : k < 13) : xMr l yX0_wordOf cX0_wordOf 1 (.object "java/lang/String") 0 0 E [.int (nI k)] (σ) (τ) (xsK E k) (σ) (τ) := match k, hk with
  | 0, _ => c_wd_0 l E σ τ
  | 1, _ => c_wd_1 l E σ τ
  | 2, _ => c_wd_2 l E σ τ
  | 3, _ => c_wd_3 l E σ τ
  | 4, _ => c_wd_4 l E σ τ
  | 5, _ => c_wd_5 l E σ τ
  | 6, _ => c_wd_6 l E σ τ
  | 7, _ => c_wd_7 l E σ τ
  | 8, _ => c_wd_8 l E σ τ
  | 9, _ => c_wd_9 l E σ τ
  | 10, _ => c_wd_10 l E σ τ
  | 11, _ => c_wd_11 l E σ τ
  | 12, _ => c_wd_12 l E σ τ
  | n + 13, h => absurd h (by omega)
set_option maxHeartbeats 4000000 in
set_option maxRecDepth 100000 in
theorem c_takes (l : Launch) (E : xE) (σ : Nat → Nat → Int32) (τ : Nat → Int64) (k : Nat) (hk : k < 13) (x : Int32) : xMi l yX0_takes cX0_takes 2 .boolean 1 22 E [.int (nI k), .int (x)] (σ) (τ) (if rng x ((xzl 2).getD k 0) ((xzl 3).getD k 0) then 1 else 0) (σ) (τ) := by
  refine xMi_of (own := RX0) (by decide +kernel) rfl (Nat.le_of_ble_eq_true rfl) ?_
  intro zp ze zs zm za zb zh zc C
  refine WM.to (lv1 := [(0, .int (nI k)), (1, .int (x))]) (st1 := []) (σ1 := σ) (τ1 := τ) ?_ rfl rfl rfl rfl
  refine x_iload_n C 1 dX0_takes_0 rfl rfl ?_
  refine x_gets C 2 (by decide) fs_X0_47 dX0_takes_1 ?_
  refine x_iload_n C 0 dX0_takes_4 rfl rfl ?_
  refine x_ti C 2 (by decide) (v := (xzl 2).getD k 0) (vp_in_nI (show k < 13 by omega) (by decide)) (by rw [nI_clamp (by omega)]) dX0_takes_5 ?_
  refine x_gets C 3 (by decide) fs_X0_50 dX0_takes_6 ?_
  refine x_iload_n C 0 dX0_takes_9 rfl rfl ?_
  refine x_ti C 3 (by decide) (v := (xzl 3).getD k 0) (vp_in_nI (show k < 13 by omega) (by decide)) (by rw [nI_clamp (by omega)]) dX0_takes_10 ?_
  refine x_callNi C (As := [.int (x), .int ((xzl 2).getD k 0), .int ((xzl 3).getD k 0)]) (rest := []) (c_within l E σ τ x ((xzl 2).getD k 0) ((xzl 3).getD k 0)) kn_X0_28 ⟨Nat.le_of_ble_eq_true rfl, Nat.le_of_ble_eq_true rfl⟩ rfl rfl (Nat.le_of_ble_eq_true rfl) dX0_takes_11 ?_
  exact x_zret C (nzB _) rfl rfl rfl dX0_takes_14
