/-! programs: play -/
theorem touch_hi {g : Nat → Int32} {i : Nat} (h : 124 ≤ i) (b : Int32) : touchG g b i = g i := by
  unfold touchG
  rw [upd_ne (by omega), upd_ne (by omega)]
theorem pourAt_hi {g : Nat → Int32} {c i : Nat} (hc : c < 12) (h : 124 ≤ i) : pourAt g c i = g i := by
  unfold pourAt
  rw [upd_ne (by omega), upd_ne (by omega)]
theorem loss_hi {g : Nat → Int32} {c i : Nat} (hc : c < 12) (h : 124 ≤ i) : lossG g c i = g i := by
  unfold lossG
  rw [upd_ne (by omega), upd_ne (by omega)]
theorem pass_hi {g : Nat → Int32} {c i : Nat} (hc : c < 12) (h : 124 ≤ i) : passG g c i = g i := by
  have h2 : (c + 1) % 12 < 12 := Nat.mod_lt _ (by decide)
  unfold passG
  split
  · rw [upd_ne (by omega), upd_ne (by omega)]
  · rfl
theorem drain_hi {g : Nat → Int32} {c i : Nat} (hc : c < 12) (h : 124 ≤ i) : drainG g c i = g i := by
  unfold drainG
  split
  · rw [pass_hi hc h, loss_hi hc h]
  · rw [loss_hi hc h]
theorem drains_hi {g : Nat → Int32} {i : Nat} (h : 124 ≤ i) : ∀ n, n ≤ 12 → drainsG g n i = g i
  | 0, _ => rfl
  | n + 1, hn => by
    show drainG (drainsG g n) n i = g i
    rw [drain_hi (by omega) h, drains_hi h n (by omega)]
theorem swing_hi {g : Nat → Int32} {i : Nat} (h : 124 ≤ i) : swingG g i = g i := by
  unfold swingG
  rw [upd_ne (by omega), upd_ne (by omega)]
theorem note_hi {g : Nat → Int32} {i : Nat} (h : 124 ≤ i) : noteG g i = g i := by
  unfold noteG
  rw [upd_ne (by omega), upd_ne (by omega)]
theorem log_hi {g : Nat → Int32} {i : Nat} (h0 : 0 ≤ (g 10).toInt) (h : 124 ≤ i) : logG g i = g i := by
  obtain ⟨t, ht, e⟩ := nI_get h0
  unfold logG logT
  rw [upd_ne (by omega), upd_ne (by omega), e]
  split
  · rename_i hlt
    have h1 : t < 40 := by
      rw [tI_lt, nI_toInt ht] at hlt
      have e40 : (40 : Int32).toInt = 40 := by decide
      omega
    rw [nI_clamp ht, upd_ne (by omega), upd_ne (by omega)]
  · rfl
theorem watch_hi {g : Nat → Int32} {i : Nat} (h0 : 0 ≤ (g 10).toInt) (h : 124 ≤ i) : watchG g i = g i := by
  unfold watchG
  rw [note_hi h]
  split
  · rw [log_hi h0 h]
  · rfl
theorem step_hi {g : Nat → Int32} {i : Nat} (h0 : 0 ≤ (g 10).toInt) (h : 124 ≤ i) : stepG g i = g i := by
  have h1 : 0 ≤ ((tickG (swingG (drainsG (pourG g) 12))) 10).toInt := by
    have := pre_10 g
    unfold preG at this
    rw [this]
    exact h0
  unfold stepG
  rw [watch_hi h1 h]
  unfold tickG
  rw [upd_ne (by omega), swing_hi h, drains_hi h 12 (Nat.le_refl _)]
  unfold pourG
  rw [pourAt_hi (topN_lt g) h]
theorem steps_hi {g : Nat → Int32} {T i : Nat} (hT : gT g T) (h : 124 ≤ i) : ∀ n, T + n < 2147483647 → stepsG g n i = g i
  | 0, _ => rfl
  | n + 1, hn => by
    show stepG (stepsG g n) i = g i
    rw [step_hi (gT_steps hT n (by omega)).1 h, steps_hi hT h n (by omega)]
/-- one deed -/
def doG (d n : Int32) (g : Nat → Int32) : Nat → Int32 :=
  if d < 7 then upd g (32 + n.toNatClampNeg) d else if d < 11 then upd g (d - 7).toNatClampNeg n else if d = 11 then touchG g n else stepsG g n.toNatClampNeg
def playG (g : Nat → Int32) (q : Nat) : Nat → (Nat → Int32)
  | 0 => g
  | k + 1 => doG (g (135 + 25 * q + 2 * k)) (g (136 + 25 * q + 2 * k)) (playG g q k)
theorem do_hi {g : Nat → Int32} {T i : Nat} {d n : Int32} (hd : deedOK d n) (hT : gT g T) (hT2 : T + 50 < 2147483647) (h : 124 ≤ i) : doG d n g i = g i := by
  obtain ⟨⟨a1, a2⟩, b1, b2, b3, b4, b5⟩ := hd
  have e7 : (7 : Int32).toInt = 7 := by decide
  have e11 : (11 : Int32).toInt = 11 := by decide
  unfold doG
  split
  · rename_i h1
    rw [tI_lt, e7] at h1
    obtain ⟨j, hj, e⟩ := nI_is (b1 h1).1 (n := 11) (b1 h1).2 (by decide)
    rw [e, nI_clamp (by omega), upd_ne (by omega)]
  · split
    · rename_i h1 h2
      rw [tI_lt, e7] at h1
      rw [tI_lt, e11] at h2
      have e : (d - 7).toInt = d.toInt - 7 := by rw [tI_sub (by omega) (by omega), e7]
      obtain ⟨j, hj, e2⟩ := nI_is (x := d - 7) (by omega) (n := 3) (by omega) (by decide)
      rw [e2, nI_clamp (by omega), upd_ne (by omega)]
    · split
      · exact touch_hi h n
      · rename_i h1 h2 h3
        rw [tI_lt, e11] at h2
        rw [tI_eq, e11] at h3
        have h5 := b5 (by omega)
        obtain ⟨j, hj, e2⟩ := nI_is (x := n) (by omega) (n := 50) (by omega) (by decide)
        rw [e2, nI_clamp (by omega)]
        exact steps_hi hT h j (by omega)
theorem gT_up {g : Nat → Int32} {T U : Nat} (h : gT g T) (hU : T ≤ U) : gT g U := by
  unfold gT at h ⊢
  omega
theorem do_1 {g : Nat → Int32} {d : Int32} {j : Nat} (h : d < 7) (hj : j < 2 ^ 31) : upd g (32 + j) d = doG d (nI j) g := by
  unfold doG
  rw [if_pos h, nI_clamp hj]
theorem do_2 {g : Nat → Int32} {d n : Int32} {j : Nat} (h : ¬ d < 7) (h2 : d < 11) (e : d - 7 = nI j) (hj : j < 2 ^ 31) : upd g j n = doG d n g := by
  unfold doG
  rw [if_neg h, if_pos h2, e, nI_clamp hj]
theorem do_3 {g : Nat → Int32} {d n : Int32} (h : ¬ d < 7) (h2 : ¬ d < 11) (h3 : d = 11) : touchG g n = doG d n g := by
  unfold doG
  rw [if_neg h, if_neg h2, if_pos h3]
theorem do_4 {g : Nat → Int32} {d : Int32} {j : Nat} (h : ¬ d < 7) (h2 : ¬ d < 11) (h3 : ¬ d = 11) (hj : j < 2 ^ 31) : stepsG g j = doG d (nI j) g := by
  unfold doG
  rw [if_neg h, if_neg h2, if_neg h3, nI_clamp hj]
theorem deed_a {d n : Int32} (hd : deedOK d n) (h : d < 7) : ∃ j : Nat, j < 12 ∧ n = nI j := by
  have e7 : (7 : Int32).toInt = 7 := by decide
  rw [tI_lt, e7] at h
  obtain ⟨j, hj, e⟩ := nI_is (hd.2.1 h).1 (n := 11) (hd.2.1 h).2 (by decide)
  exact ⟨j, by omega, e⟩
theorem deed_b {d n : Int32} (h : ¬ d < 7) (h2 : d < 11) : ∃ j : Nat, j < 4 ∧ d - 7 = nI j := by
  have e7 : (7 : Int32).toInt = 7 := by decide
  have e11 : (11 : Int32).toInt = 11 := by decide
  rw [tI_lt, e7] at h
  rw [tI_lt, e11] at h2
  have e : (d - 7).toInt = d.toInt - 7 := by rw [tI_sub (by omega) (by omega), e7]
  obtain ⟨j, hj, e2⟩ := nI_is (x := d - 7) (by omega) (n := 3) (by omega) (by decide)
  exact ⟨j, by omega, e2⟩
theorem deed_d {d n : Int32} (hd : deedOK d n) (h2 : ¬ d < 11) (h3 : ¬ d = 11) : ∃ j : Nat, (1 ≤ j ∧ j ≤ 50) ∧ n = nI j := by
  have e11 : (11 : Int32).toInt = 11 := by decide
  rw [tI_lt, e11] at h2
  rw [tI_eq, e11] at h3
  have h4 := hd.1
  have h5 := hd.2.2.2.2.2 (by omega)
  obtain ⟨j, hj, e⟩ := nI_is (x := n) (by omega) (n := 50) h5.2 (by decide)
  refine ⟨j, ⟨?_, hj⟩, e⟩
  rw [e, nI_toInt (by omega)] at h5
  omega
theorem deed_c {d n : Int32} (hd : deedOK d n) (h3 : d = 11) : -200 ≤ n.toInt ∧ n.toInt ≤ 200 := hd.2.2.2.2.1 (by rw [h3]; decide)
theorem gI_do {d n : Int32} {g : Nat → Int32} (hd : deedOK d n) (hg : gI g) : gI (doG d n g) := by
  by_cases h1 : d < 7
  · obtain ⟨j, hj, rfl⟩ := deed_a hd h1
    rw [← do_1 h1 (by omega)]
    have e7 : (7 : Int32).toInt = 7 := by decide
    have h2 := hd.1
    rw [tI_lt, e7] at h1
    exact hg.updK hj (by omega)
  · by_cases h2 : d < 11
    · obtain ⟨j, hj, e⟩ := deed_b (n := n) h1 h2
      rw [← do_2 h1 h2 e (by omega)]
      have e7 : (7 : Int32).toInt = 7 := by decide
      have e11 : (11 : Int32).toInt = 11 := by decide
      have e3 : (d - 7).toInt = d.toInt - 7 := by
        have := hd.1
        rw [tI_sub (by omega) (by omega), e7]
      rw [e, nI_toInt (by omega)] at e3
      rw [tI_lt, e7] at h1
      rw [tI_lt, e11] at h2
      refine hg.upd (fun _ => ?_)
      have h5 := hd.2.2.1
      have h6 := hd.2.2.2.1
      unfold glo ghi
      by_cases h7 : j < 3
      · rw [if_pos h7, if_pos (by omega)]
        exact h5 (by omega) (by omega)
      · rw [if_neg h7, if_pos (by omega), if_pos (by omega)]
        exact h6 (by omega)
    · by_cases h3 : d = 11
      · rw [← do_3 h1 h2 h3]
        exact gI_touch hg n
      · obtain ⟨j, hj, rfl⟩ := deed_d hd h2 h3
        rw [← do_4 h1 h2 h3 (by omega)]
        exact gI_steps hg j
theorem gT_do {d n : Int32} {g : Nat → Int32} {T : Nat} (hd : deedOK d n) (hT : gT g T) (hT2 : T + 50 < 2147483647) : gT (doG d n g) (T + 50) := by
  by_cases h1 : d < 7
  · obtain ⟨j, hj, rfl⟩ := deed_a hd h1
    rw [← do_1 h1 (by omega)]
    have := gT_up hT (Nat.le_add_right T 50)
    unfold gT at this ⊢
    rw [upd_ne (by omega)]
    exact this
  · by_cases h2 : d < 11
    · obtain ⟨j, hj, e⟩ := deed_b (n := n) h1 h2
      rw [← do_2 h1 h2 e (by omega)]
      have := gT_up hT (Nat.le_add_right T 50)
      unfold gT at this ⊢
      rw [upd_ne (by omega)]
      exact this
    · by_cases h3 : d = 11
      · rw [← do_3 h1 h2 h3]
        exact gT_up (gT_touch hT n) (by omega)
      · obtain ⟨j, hj, rfl⟩ := deed_d hd h2 h3
        rw [← do_4 h1 h2 h3 (by omega)]
        exact gT_up (gT_steps hT j (by omega)) (by omega)
theorem play_inv {g : Nat → Int32} {T q c : Nat} (hg : gI g) (hT : gT g T) (hT2 : T < 1073741824) (hd : ∀ k, k < c → deedOK (g (135 + 25 * q + 2 * k)) (g (136 + 25 * q + 2 * k))) (hc : c ≤ 12) : ∀ k, k ≤ c → gI (playG g q k) ∧ gT (playG g q k) (T + 50 * k) ∧ ∀ i, 124 ≤ i → playG g q k i = g i
  | 0, _ => ⟨hg, hT, fun _ _ => rfl⟩
  | k + 1, hk => by
    obtain ⟨h1, h2, h3⟩ := play_inv hg hT hT2 hd hc k (by omega)
    refine ⟨gI_do (hd k (by omega)) h1, gT_up (gT_do (T := T + 50 * k) (hd k (by omega)) h2 (by omega)) (by omega), fun i hi => ?_⟩
    show doG _ _ _ i = _
    rw [do_hi (T := T + 50 * k) (hd k (by omega)) h2 (by omega) hi, h3 i hi]
