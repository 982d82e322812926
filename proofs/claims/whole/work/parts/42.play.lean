/-! programs: play -/
theorem touch_hi {g : Nat → Int32} {i : Nat} (h : 124 ≤ i) (b : Int32) : touchG g b i = g i := by
  unfold touchG
  rw [upd_ne (by omega), upd_ne (by omega)]
theorem pourAt_hi {g : Nat → Int32} {c i : Nat} (hc : c < 12) (h : 124 ≤ i) : pourAt g c i = g i := by
  unfold pourAt
  rw [upd_ne (by omega), upd_ne (by omega)]
theorem loss_hi {g : Nat → Int32} {c i : Nat} (hc : c < 12) (h : 124 ≤ i) : lossG g c i = g i := by
  unfold lossG
  rw [upd_ne (by omega), upd_ne (by omega)]
theorem pass_hi {g : Nat → Int32} {c i : Nat} (hc : c < 12) (h : 124 ≤ i) : passG g c i = g i := by
  have h2 : (c + 1) % 12 < 12 := Nat.mod_lt _ (by decide)
  unfold passG
  split
  · rw [upd_ne (by omega), upd_ne (by omega)]
  · rfl
theorem drain_hi {g : Nat → Int32} {c i : Nat} (hc : c < 12) (h : 124 ≤ i) : drainG g c i = g i := by
  unfold drainG
  split
  · rw [pass_hi hc h, loss_hi hc h]
  · rw [loss_hi hc h]
theorem drains_hi {g : Nat → Int32} {i : Nat} (h : 124 ≤ i) : ∀ n, n ≤ 12 → drainsG g n i = g i
  | 0, _ => rfl
  | n + 1, hn => by
    show drainG (drainsG g n) n i = g i
    rw [drain_hi (by omega) h, drains_hi h n (by omega)]
theorem swing_hi {g : Nat → Int32} {i : Nat} (h : 124 ≤ i) : swingG g i = g i := by
  unfold swingG
  rw [upd_ne (by omega), upd_ne (by omega)]
theorem note_hi {g : Nat → Int32} {i : Nat} (h : 124 ≤ i) : noteG g i = g i := by
  unfold noteG
  rw [upd_ne (by omega), upd_ne (by omega)]
theorem log_hi {g : Nat → Int32} {i : Nat} (h0 : 0 ≤ (g 10).toInt) (h : 124 ≤ i) : logG g i = g i := by
  obtain ⟨t, ht, e⟩ := nI_get h0
  unfold logG logT
  rw [upd_ne (by omega), upd_ne (by omega), e]
  split
  · rename_i hlt
    have h1 : t < 40 := by
      rw [tI_lt, nI_toInt ht] at hlt
      have e40 : (40 : Int32).toInt = 40 := by decide
      omega
    rw [nI_clamp ht, upd_ne (by omega), upd_ne (by omega)]
  · rfl
theorem watch_hi {g : Nat → Int32} {i : Nat} (h0 : 0 ≤ (g 10).toInt) (h : 124 ≤ i) : watchG g i = g i := by
  unfold watchG
  rw [note_hi h]
  split
  · rw [log_hi h0 h]
  · rfl
theorem step_hi {g : Nat → Int32} {i : Nat} (h0 : 0 ≤ (g 10).toInt) (h : 124 ≤ i) : stepG g i = g i := by
  have h1 : 0 ≤ ((tickG (swingG (drainsG (pourG g) 12))) 10).toInt := by
    have := pre_10 g
    unfold preG at this
    rw [this]
    exact h0
  unfold stepG
  rw [watch_hi h1 h]
  unfold tickG
  rw [upd_ne (by omega), swing_hi h, drains_hi h 12 (Nat.le_refl _)]
  unfold pourG
  rw [pourAt_hi (topN_lt g) h]
theorem steps_hi {g : Nat → Int32} {T i : Nat} (hT : gT g T) (h : 124 ≤ i) : ∀ n, T + n < 2147483647 → stepsG g n i = g i
  | 0, _ => rfl
  | n + 1, hn => by
    show stepG (stepsG g n) i = g i
    rw [step_hi (gT_steps hT n (by omega)).1 h, steps_hi hT h n (by omega)]
/-- one deed -/
def doG (d n : Int32) (g : Nat → Int32) : Nat → Int32 :=
  if d < 7 then upd g (32 + n.toNatClampNeg) d else if d < 11 then upd g (d - 7).toNatClampNeg n else if d = 11 then touchG g n else stepsG g n.toNatClampNeg
def playG (g : Nat → Int32) (q : Nat) : Nat → (Nat → Int32)
  | 0 => g
  | k + 1 => doG (g (135 + 25 * q + 2 * k)) (g (136 + 25 * q + 2 * k)) (playG g q k)
theorem do_hi {g : Nat → Int32} {T i : Nat} {d n : Int32} (hd : deedOK d n) (hT : gT g T) (hT2 : T + 50 < 2147483647) (h : 124 ≤ i) : doG d n g i = g i := by
  obtain ⟨⟨a1, a2⟩, b1, b2, b3, b4, b5⟩ := hd
  have e7 : (7 : Int32).toInt = 7 := by decide
  have e11 : (11 : Int32).toInt = 11 := by decide
  unfold doG
  split
  · rename_i h1
    rw [tI_lt, e7] at h1
    obtain ⟨j, hj, e⟩ := nI_is (b1 h1).1 (n := 11) (b1 h1).2 (by decide)
    rw [e, nI_clamp (by omega), upd_ne (by omega)]
  · split
    · rename_i h1 h2
      rw [tI_lt, e7] at h1
      rw [tI_lt, e11] at h2
      have e : (d - 7).toInt = d.toInt - 7 := by rw [tI_sub (by omega) (by omega), e7]
      obtain ⟨j, hj, e2⟩ := nI_is (x := d - 7) (by omega) (n := 3) (by omega) (by decide)
      rw [e2, nI_clamp (by omega), upd_ne (by omega)]
    · split
      · exact touch_hi h n
      · rename_i h1 h2 h3
        rw [tI_lt, e11] at h2
        rw [tI_eq, e11] at h3
        have h5 := b5 (by omega)
        obtain ⟨j, hj, e2⟩ := nI_is (x := n) (by omega) (n := 50) (by omega) (by decide)
        rw [e2, nI_clamp (by omega)]
        exact steps_hi hT h j (by omega)
