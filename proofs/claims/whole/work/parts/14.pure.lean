/-! A WHEEL: the two programs' words for the same, and that its numbers stay within -/
theorem place_eq {g : Nat → Int32} (hg : gI g) {c : Nat} (hc : c < 12) : placeG g c = nI (placeN g c) := by
  obtain ⟨a, ha, e⟩ := nI_is hg.h5.1 (n := 1199) hg.h5.2 (by decide)
  unfold placeG placeN xrem
  rw [e, nI_clamp (by omega)]
  have e1 : nI a / 100 = nI (a / 100) := pk_div (by omega) (by decide) (by decide)
  rw [e1, nI_add]
  exact pk_rem (by omega) (by decide) (by decide)
theorem place_in {g : Nat → Int32} (hg : gI g) {c : Nat} (hc : c < 12) : vp_in (placeG g c) 12 := by
  rw [place_eq hg hc]
  exact vp_in_nI (Nat.mod_lt _ (by decide)) (by decide)
theorem top_eq {g : Nat → Int32} (hg : gI g) : topG g = nI (topN g) := by
  obtain ⟨a, ha, e⟩ := nI_is hg.h5.1 (n := 1199) hg.h5.2 (by decide)
  unfold topG topN xrem
  rw [e, nI_clamp (by omega)]
  have e1 : nI a / 100 = nI (a / 100) := pk_div (by omega) (by decide) (by decide)
  have e2 : (12 : Int32) - nI (a / 100) = nI (12 - a / 100) := pk_sub (a := 12) (by omega)
  rw [e1, e2]
  exact pk_rem (by omega) (by decide) (by decide)
theorem topN_lt (g : Nat → Int32) : topN g < 12 := Nat.mod_lt _ (by decide)
theorem place_top {g : Nat → Int32} (hg : gI g) {c : Nat} (hc : c < 12) : placeG g c = 0 ↔ c = topN g := by
  obtain ⟨a, ha, e⟩ := nI_is hg.h5.1 (n := 1199) hg.h5.2 (by decide)
  rw [place_eq hg hc]
  have h0 : (0 : Int32) = nI 0 := rfl
  have hp : placeN g c < 2 ^ 31 := Nat.lt_trans (Nat.mod_lt _ (by decide)) (by decide)
  rw [h0, nI_eq hp (by decide)]
  unfold placeN topN
  rw [e, nI_clamp (by omega)]
  omega
theorem room_in {k : Int32} (h : 0 ≤ k.toInt ∧ k.toInt ≤ 6) : vp_in k 7 := vp_in_iff.mpr ⟨h.1, by omega⟩
theorem room_eq {k : Int32} (h : 0 ≤ k.toInt ∧ k.toInt ≤ 6) : (xzl 0).getD k.toNatClampNeg 0 = roomK k := by
  obtain ⟨j, hj, rfl⟩ := nI_is h.1 (n := 6) h.2 (by decide)
  have : j = 0 ∨ j = 1 ∨ j = 2 ∨ j = 3 ∨ j = 4 ∨ j = 5 ∨ j = 6 := by omega
  rcases this with rfl | rfl | rfl | rfl | rfl | rfl | rfl <;> decide +kernel
theorem roomK_in (k : Int32) : 200 ≤ (roomK k).toInt ∧ (roomK k).toInt ≤ 999 := by
  unfold roomK
  split
  · decide
  · split
    · decide
    · split <;> decide
theorem plain_in {g : Nat → Int32} (hg : gI g) {c : Nat} (hc : c < 12) : 0 ≤ (plainG g c).toInt ∧ (plainG g c).toInt ≤ (g (20 + c)).toInt := by
  obtain ⟨w, hw, e1⟩ := nI_is (hg.w hc).1 (n := 999) (hg.w hc).2 (by decide)
  obtain ⟨k, hk, e2⟩ := nI_is hg.h1.1 (n := 99) hg.h1.2 (by decide)
  unfold plainG
  rw [e1, e2, pk_mul]
  have hb : w * k ≤ 999 * 99 := Nat.mul_le_mul hw hk
  have e3 : nI (w * k) / 100 = nI (w * k / 100) := pk_div (by omega) (by decide) (by decide)
  have h4 : w * k / 100 ≤ w := by
    have : w * k ≤ w * 99 := Nat.mul_le_mul_left w hk
    omega
  rw [e3, nI_toInt (by omega), nI_toInt (by omega)]
  omega
theorem deep_in {g : Nat → Int32} (hg : gI g) {c : Nat} (hc : c < 12) : 0 ≤ (deepG g c).toInt ∧ (deepG g c).toInt ≤ (g (20 + c)).toInt := by
  obtain ⟨w, hw, e1⟩ := nI_is (hg.w hc).1 (n := 999) (hg.w hc).2 (by decide)
  obtain ⟨k, hk, e2⟩ := nI_is hg.h1.1 (n := 99) hg.h1.2 (by decide)
  unfold deepG
  rw [e1, e2]
  split
  · rename_i h
    have h : 100 < w := (nI_ltI (by decide) (by omega)).mp (show nI 100 < nI w from h)
    have e4 : nI w - 100 = nI (w - 100) := pk_sub (b := 100) (by omega)
    have hb : (w - 100) * k ≤ 899 * 99 := Nat.mul_le_mul (by omega) hk
    have e3 : nI ((w - 100) * k) / 100 = nI ((w - 100) * k / 100) := pk_div (by omega) (by decide) (by decide)
    have h4 : (w - 100) * k / 100 ≤ w - 100 := by
      have : (w - 100) * k ≤ (w - 100) * 99 := Nat.mul_le_mul_left _ hk
      omega
    rw [e4, pk_mul, e3, nI_toInt (by omega), nI_toInt (by omega)]
    omega
  · rw [nI_toInt (by omega)]
    have : (0 : Int32).toInt = 0 := by decide
    omega
theorem twice_eq (x y : Int32) : (if y < x then y else x) = (if x < y then x else y) := by
  by_cases h1 : y < x
  · rw [if_pos h1]
    by_cases h2 : x < y
    · rw [tI_lt] at h1 h2
      omega
    · rw [if_neg h2]
  · rw [if_neg h1]
    by_cases h2 : x < y
    · rw [if_pos h2]
    · rw [if_neg h2]
      rw [tI_lt] at h1 h2
      rw [tI_eq]
      omega
theorem deep_eq {g : Nat → Int32} (hg : gI g) {c : Nat} (hc : c < 12) : (if g (20 + c) - 100 < 0 then 0 else g (20 + c) - 100) * g 1 / 100 = deepG g c := by
  have hw := hg.w hc
  have e1 : (100 : Int32).toInt = 100 := by decide
  have e0 : (0 : Int32).toInt = 0 := by decide
  unfold deepG
  by_cases h : 100 < g (20 + c)
  · rw [if_pos h, if_neg]
    rw [tI_lt] at h
    rw [tI_lt, tI_sub (by omega) (by omega)]
    omega
  · rw [if_neg h]
    rw [tI_lt] at h
    by_cases h2 : g (20 + c) - 100 < 0
    · rw [if_pos h2]
      have : (0 : Int32) * g 1 = 0 := Int32.zero_mul
      rw [this]
      decide
    · rw [if_neg h2]
      rw [tI_lt, tI_sub (by omega) (by omega)] at h2
      have : g (20 + c) - 100 = 0 := by
        rw [tI_eq, tI_sub (by omega) (by omega)]
        omega
      rw [this]
      have : (0 : Int32) * g 1 = 0 := Int32.zero_mul
      rw [this]
      decide
theorem twice_in {g : Nat → Int32} (hg : gI g) {c : Nat} (hc : c < 12) : 0 ≤ (twiceG g c).toInt ∧ (twiceG g c).toInt ≤ (g (20 + c)).toInt := by
  have hw := hg.w hc
  have hp := plain_in hg hc
  have e2 : (2 : Int32).toInt = 2 := by decide
  have e3 : (2 * plainG g c).toInt = 2 * (plainG g c).toInt := by
    rw [tI_mul (by rw [e2]; omega) (by rw [e2]; omega), e2]
  unfold twiceG
  split
  · rename_i h
    rw [tI_lt] at h
    omega
  · omega
theorem leak_in {g : Nat → Int32} (hg : gI g) {c : Nat} (hc : c < 12) : 0 ≤ (leakG g c).toInt ∧ (leakG g c).toInt ≤ (g (20 + c)).toInt := by
  have hw := hg.w hc
  have e0 : (0 : Int32).toInt = 0 := by decide
  unfold leakG
  split
  · omega
  · split
    · exact twice_in hg hc
    · split
      · exact deep_in hg hc
      · split
        · exact twice_in hg hc
        · split
          · split
            · omega
            · exact deep_in hg hc
          · split
            · exact twice_in hg hc
            · exact plain_in hg hc
theorem comes_in {g : Nat → Int32} (hg : gI g) {c : Nat} (hc : c < 12) : 0 ≤ (comesG g c).toInt ∧ (g (20 + c)).toInt + (comesG g c).toInt ≤ 999 := by
  have hw := hg.w hc
  have ht := hg.h0
  have hr := roomK_in (g (32 + c))
  have e0 : (0 : Int32).toInt = 0 := by decide
  have es : (roomG g c - g (20 + c)).toInt = (roomG g c).toInt - (g (20 + c)).toInt := tI_sub (by unfold roomG; omega) (by unfold roomG; omega)
  have hsp : 0 ≤ (spareG g c).toInt ∧ (spareG g c).toInt ≤ 999 - (g (20 + c)).toInt := by
    unfold spareG
    split
    · omega
    · rename_i h
      rw [tI_lt, es] at h
      rw [es]
      unfold roomG at h ⊢
      omega
  unfold comesG
  split
  · omega
  · rename_i h
    rw [tI_lt] at h
    omega
theorem gI_pourAt {g : Nat → Int32} (hg : gI g) {c : Nat} (hc : c < 12) : gI (pourAt g c) := by
  have h := comes_in hg hc
  have hw := hg.w hc
  refine (hg.updW hc ?_).free (by omega)
  rw [tI_add (by omega) (by omega)]
  omega
theorem gI_pour {g : Nat → Int32} (hg : gI g) : gI (pourG g) := gI_pourAt hg (topN_lt g)
theorem gI_loss {g : Nat → Int32} (hg : gI g) {c : Nat} (hc : c < 12) : gI (lossG g c) := by
  have h := leak_in hg hc
  have hw := hg.w hc
  refine (hg.updW hc ?_).free (by omega)
  rw [tI_sub (by omega) (by omega)]
  omega
theorem gI_pass {g : Nat → Int32} (hg : gI g) {c : Nat} (hc : c < 12) : gI (passG g c) := by
  have hw := hg.w hc
  have hn : (c + 1) % 12 < 12 := Nat.mod_lt _ (by decide)
  have hv := hg.w hn
  have hr := roomK_in (g (32 + (c + 1) % 12))
  have e1 : (1 : Int32).toInt = 1 := by decide
  unfold passG
  split
  · rename_i h
    obtain ⟨h1, h2⟩ := h
    rw [tI_lt] at h1 h2
    unfold roomG at h2
    refine (hg.updW hc ?_).updW hn ?_
    · rw [tI_sub (by omega) (by omega)]
      omega
    · rw [tI_add (by omega) (by omega)]
      omega
  · exact hg
theorem gI_drain {g : Nat → Int32} (hg : gI g) {c : Nat} (hc : c < 12) : gI (drainG g c) := by
  unfold drainG
  split
  · exact gI_pass (gI_loss hg hc) hc
  · exact gI_loss hg hc
theorem gI_drains {g : Nat → Int32} (hg : gI g) : ∀ n, n ≤ 12 → gI (drainsG g n)
  | 0, _ => hg
  | n + 1, h => gI_drain (gI_drains hg n (by omega)) (by omega)
theorem held_in (x : Int32) : -600 ≤ (heldG x).toInt ∧ (heldG x).toInt ≤ 600 := by
  have e1 : ((-600 : Int32)).toInt = -600 := by decide
  have e2 : ((600 : Int32)).toInt = 600 := by decide
  unfold heldG
  split
  · omega
  · rename_i h1
    split
    · omega
    · rename_i h2
      rw [tI_lt] at h1 h2
      omega
theorem rem_1200 {x : Int32} (h : 0 ≤ x.toInt) : 0 ≤ (xrem x 1200).toInt ∧ (xrem x 1200).toInt ≤ 1199 := by
  obtain ⟨a, ha, rfl⟩ := nI_is h (n := 2147483647) (i32_cases x).2 (by decide)
  have e : xrem (nI a) 1200 = nI (a % 1200) := pk_rem (by omega) (by decide) (by decide)
  rw [e, nI_toInt (by omega)]
  omega
theorem gI_swing {g : Nat → Int32} (hg : gI g) : gI (swingG g) := by
  have hp : -600 ≤ (slowG g).toInt ∧ (slowG g).toInt ≤ 600 := held_in _
  have h5 := hg.h5
  have e2 : (1200 : Int32).toInt = 1200 := by decide
  have e3 : (g 5 + slowG g).toInt = (g 5).toInt + (slowG g).toInt := tI_add (by omega) (by omega)
  refine (hg.upd (i := 4) (fun _ => hp)).upd (i := 5) (fun _ => rem_1200 ?_)
  rw [tI_add (by omega) (by omega)]
  omega
theorem gI_tick {g : Nat → Int32} (hg : gI g) : gI (tickG g) := hg.free (by omega)
theorem abs_in {x : Int32} (h : -600 ≤ x.toInt ∧ x.toInt ≤ 600) : 0 ≤ (absG x).toInt ∧ (absG x).toInt ≤ 600 := by
  have e0 : (0 : Int32).toInt = 0 := by decide
  unfold absG
  split
  · rename_i h1
    rw [tI_lt] at h1
    rw [tI_neg (by omega)]
    omega
  · rename_i h1
    rw [tI_lt] at h1
    omega
theorem sgn_in (x : Int32) : -1 ≤ (sgn x).toInt ∧ (sgn x).toInt ≤ 1 := by
  unfold sgn
  split
  · decide
  · split <;> decide
theorem gI_logT {g : Nat → Int32} (hg : gI g) : gI (logT g) := by
  unfold logT
  refine gI.free ?_ (by omega)
  split
  · exact (hg.free (by omega)).free (by omega)
  · exact hg
theorem gI_log {g : Nat → Int32} (hg : gI g) : gI (logG g) := (gI_logT hg).upd (fun _ => by decide)
theorem gI_note {g : Nat → Int32} (hg : gI g) : gI (noteG g) := by
  have h4 := abs_in hg.h4
  have h11 := hg.h11
  refine (hg.upd (i := 11) (fun _ => ?_)).upd (i := 6) (fun _ => ?_)
  · show 0 ≤ Int32.toInt _ ∧ Int32.toInt _ ≤ 600
    split
    · exact h4
    · exact h11
  · show -1 ≤ Int32.toInt _ ∧ Int32.toInt _ ≤ 1
    split
    · exact hg.h6
    · exact sgn_in _
theorem gI_watch {g : Nat → Int32} (hg : gI g) : gI (watchG g) := by
  unfold watchG
  refine gI_note ?_
  split
  · exact gI_log hg
  · exact hg
theorem gI_step {g : Nat → Int32} (hg : gI g) : gI (stepG g) := gI_watch (gI_tick (gI_swing (gI_drains (gI_pour hg) 12 (Nat.le_refl _))))
theorem gI_steps {g : Nat → Int32} (hg : gI g) : ∀ n, gI (stepsG g n)
  | 0 => hg
  | n + 1 => gI_step (gI_steps hg n)
theorem gI_touch {g : Nat → Int32} (hg : gI g) (b : Int32) : gI (touchG g b) := by
  refine (hg.upd (i := 4) (fun _ => held_in _)).upd (i := 6) (fun _ => ?_)
  show -1 ≤ Int32.toInt _ ∧ Int32.toInt _ ≤ 1
  split
  · exact hg.h6
  · exact sgn_in _
/-! TURNS go up by one at most -/
theorem pass_10 (g : Nat → Int32) (c : Nat) : passG g c 10 = g 10 := by
  unfold passG
  split
  · rw [upd_ne (by omega), upd_ne (by omega)]
  · rfl
theorem loss_10 (g : Nat → Int32) (c : Nat) : lossG g c 10 = g 10 := by
  unfold lossG
  rw [upd_ne (by omega), upd_ne (by omega)]
theorem drain_10 (g : Nat → Int32) (c : Nat) : drainG g c 10 = g 10 := by
  unfold drainG
  split
  · rw [pass_10, loss_10]
  · rw [loss_10]
theorem drains_10 (g : Nat → Int32) : ∀ n, drainsG g n 10 = g 10
  | 0 => rfl
  | n + 1 => by
    show drainG (drainsG g n) n 10 = g 10
    rw [drain_10, drains_10 g n]
theorem pour_10 (g : Nat → Int32) : pourG g 10 = g 10 := by
  unfold pourG pourAt
  rw [upd_ne (by omega), upd_ne (by omega)]
theorem swing_10 (g : Nat → Int32) : swingG g 10 = g 10 := by
  unfold swingG
  rw [upd_ne (by omega), upd_ne (by omega)]
theorem note_10 (g : Nat → Int32) : noteG g 10 = g 10 := by
  unfold noteG
  rw [upd_ne (by omega), upd_ne (by omega)]
theorem log_10 (g : Nat → Int32) : logG g 10 = g 10 + 1 := by
  unfold logG logT
  rw [upd_ne (by omega), upd_at]
def preG (g : Nat → Int32) : Nat → Int32 := tickG (swingG (drainsG (pourG g) 12))
theorem pre_10 (g : Nat → Int32) : preG g 10 = g 10 := by
  unfold preG tickG
  rw [upd_ne (by omega), swing_10, drains_10, pour_10]
theorem step_10 (g : Nat → Int32) : stepG g 10 = if turnsQ (preG g) then g 10 + 1 else g 10 := by
  show watchG (preG g) 10 = _
  unfold watchG
  rw [note_10]
  by_cases h : turnsQ (preG g)
  · rw [if_pos h, if_pos h, log_10, pre_10]
  · rw [if_neg h, if_neg h, pre_10]
theorem gT_step {g : Nat → Int32} {T : Nat} (h : gT g T) (hT : T < 2147483647) : gT (stepG g) (T + 1) := by
  unfold gT at h ⊢
  rw [step_10]
  have e1 : (1 : Int32).toInt = 1 := by decide
  split
  · rw [tI_add (by omega) (by omega)]
    omega
  · omega
theorem gT_steps {g : Nat → Int32} {T : Nat} (h : gT g T) : ∀ n, T + n < 2147483647 → gT (stepsG g n) (T + n)
  | 0, _ => h
  | n + 1, hn => gT_step (T := T + n) (gT_steps h n (by omega)) (by omega)
theorem touch_10 (g : Nat → Int32) (b : Int32) : touchG g b 10 = g 10 := by
  unfold touchG
  rw [upd_ne (by omega), upd_ne (by omega)]
theorem gT_touch {g : Nat → Int32} {T : Nat} (h : gT g T) (b : Int32) : gT (touchG g b) T := by
  unfold gT at h ⊢
  rw [touch_10]
  exact h
/-! the angle goes round -/
theorem xor_neg (x y : Int32) (hy : 0 ≤ y.toInt) : x ^^^ y < 0 ↔ x < 0 := by
  have e0 : (0 : Int32).toInt = 0 := by decide
  rw [tI_lt, tI_lt, e0]
  have h1 : ∀ z : Int32, z.toInt < 0 ↔ z.toBitVec.msb = true := by
    intro z
    rw [BitVec.msb_eq_toInt]
    exact (decide_eq_true_iff).symm
  rw [h1, h1, Int32.toBitVec_xor, BitVec.msb_xor]
  have h2 : y.toBitVec.msb = false := by
    cases hm : y.toBitVec.msb with
    | false => rfl
    | true => exact absurd ((h1 y).mpr hm) (by omega)
  rw [h2, Bool.xor_false]
theorem small_rem {x : Int32} (h1 : -1200 < x.toInt) (h2 : x.toInt < 1200) : xrem x 1200 = x := by
  have e2 : (1200 : Int32).toInt = 1200 := by decide
  have e3 : x / 1200 = 0 := by
    rw [tI_eq, tI_div (by omega), e2]
    show x.toInt.tdiv 1200 = 0
    by_cases h : x.toInt < 0
    · rw [← Int.neg_neg x.toInt, Int.neg_tdiv, Int.tdiv_eq_ediv_of_nonneg (by omega)]
      omega
    · rw [Int.tdiv_eq_ediv_of_nonneg (by omega)]
      omega
  unfold xrem
  rw [e3, Int32.zero_mul]
  exact Int32.sub_zero _
theorem fm_eq {g : Nat → Int32} (hg : gI g) : fmodI (g 5 + slowG g) 1200 = xrem (g 5 + slowG g + 1200) 1200 := by
  have hp : -600 ≤ (slowG g).toInt ∧ (slowG g).toInt ≤ 600 := held_in _
  have h5 := hg.h5
  have e0 : (0 : Int32).toInt = 0 := by decide
  have e2 : (1200 : Int32).toInt = 1200 := by decide
  have e3 : (g 5 + slowG g).toInt = (g 5).toInt + (slowG g).toInt := tI_add (by omega) (by omega)
  generalize g 5 + slowG g = x at e3 ⊢
  have e4 : (x + 1200).toInt = x.toInt + 1200 := by rw [tI_add (by omega) (by omega), e2]
  unfold fmodI
  by_cases hx : x < 0
  · rw [if_pos ((xor_neg x 1200 (by decide)).mpr hx)]
    rw [tI_lt, e0] at hx
    rw [small_rem (by omega) (by omega), if_neg, small_rem (by omega) (by omega)]
    intro h
    rw [tI_eq, e0] at h
    omega
  · rw [if_neg (fun h => hx ((xor_neg x 1200 (by decide)).mp h))]
    rw [tI_lt, e0] at hx
    obtain ⟨a, ha, rfl⟩ := nI_is (x := x) (by omega) (n := 1799) (by omega) (by decide)
    have r1 : xrem (nI a) 1200 = nI (a % 1200) := pk_rem (by omega) (by decide) (by decide)
    have r2 : nI a + 1200 = nI (a + 1200) := nI_add a 1200
    have r3 : xrem (nI (a + 1200)) 1200 = nI ((a + 1200) % 1200) := pk_rem (by omega) (by decide) (by decide)
    have r4 : (a + 1200) % 1200 = a % 1200 := by omega
    rw [r1, r2, r3, r4]
theorem heavy_pos {g : Nat → Int32} (hg : gI g) : 0 < 100 * g 3 := by
  have h3 := hg.h3
  have e0 : (0 : Int32).toInt = 0 := by decide
  have e1 : (100 : Int32).toInt = 100 := by decide
  rw [tI_lt, tI_mul (by rw [e1]; omega) (by rw [e1]; omega), e0, e1]
  omega
theorem heavy_ne {g : Nat → Int32} (hg : gI g) : ¬ 100 * g 3 = 0 := by
  have h := heavy_pos hg
  intro e
  rw [e] at h
  exact absurd h (by decide)
/-! a turn -/
theorem way_cases {x : Int32} (h : -1 ≤ x.toInt ∧ x.toInt ≤ 1) : x = -1 ∨ x = 0 ∨ x = 1 := by
  have e1 : ((-1 : Int32)).toInt = -1 := by decide
  have e2 : ((0 : Int32)).toInt = 0 := by decide
  have e3 : ((1 : Int32)).toInt = 1 := by decide
  rw [tI_eq, tI_eq, tI_eq, e1, e2, e3]
  omega
theorem turns_iff {g : Nat → Int32} (hg : gI g) : cmpI (g 4) 0 * g 6 < 0 ↔ turnsQ g := by
  have e2 : ((0 : Int32)).toInt = 0 := by decide
  unfold turnsQ cmpI
  rcases way_cases hg.h6 with e | e | e <;> rw [e]
  · by_cases h1 : g 4 < 0
    · rw [if_pos h1]
      have h2 : ¬ 0 < g 4 := by rw [tI_lt] at h1 ⊢; omega
      simp [h2]
    · rw [if_neg h1]
      by_cases h3 : g 4 = 0
      · rw [if_pos h3, h3]
        simp
      · rw [if_neg h3]
        have h2 : 0 < g 4 := by rw [tI_lt] at h1 ⊢; rw [tI_eq] at h3; omega
        simp [h2]
  · simp
  · by_cases h1 : g 4 < 0
    · rw [if_pos h1]
      simp [h1]
    · rw [if_neg h1]
      by_cases h3 : g 4 = 0
      · rw [if_pos h3, h3]
        simp
      · rw [if_neg h3]
        simp [h1]
theorem abs_eq {x : Int32} : (if 0 ≤ x then x else 0 - x) = absG x := by
  unfold absG
  by_cases h : x < 0
  · rw [if_pos h, if_neg (by rw [Int32.not_le]; exact h)]
    exact Int32.zero_sub x
  · rw [if_neg h, if_pos (Int32.not_lt.mp h)]
theorem log_4 (g : Nat → Int32) : logG g 4 = g 4 := by
  unfold logG logT
  rw [upd_ne (by omega), upd_ne (by omega)]
  split
  · rw [upd_ne (by omega), upd_ne (by omega)]
  · rfl
theorem note_A {g : Nat → Int32} {z : Int32} (e : z = g 4) (h : cmpI z 0 = 0) : upd g 11 (if g 11 < absG (g 4) then absG (g 4) else g 11) = noteG g := by
  subst e
  have h4 : g 4 = 0 := by
    unfold cmpI at h
    split at h
    · cases h
    · split at h
      · assumption
      · cases h
  unfold noteG
  rw [if_pos h4]
  have e2 : upd g 11 (if g 11 < absG (g 4) then absG (g 4) else g 11) 6 = g 6 := upd_ne (by decide)
  rw [← e2, upd_self]
theorem note_B {g : Nat → Int32} {z : Int32} (e : z = g 4) (h : ¬ cmpI z 0 = 0) : upd (upd g 11 (if g 11 < absG (g 4) then absG (g 4) else g 11)) 6 (cmpI z 0) = noteG g := by
  subst e
  have h4 : ¬ g 4 = 0 := by
    intro h4
    apply h
    rw [h4]
    decide
  unfold noteG
  rw [if_neg h4]
  rfl
theorem touch_A {g : Nat → Int32} {b : Int32} (h : heldG (g 4 + b) = 0) : upd g 4 (heldG (g 4 + b)) = touchG g b := by
  unfold touchG
  rw [if_pos h]
  have e2 : upd g 4 (heldG (g 4 + b)) 6 = g 6 := upd_ne (by decide)
  rw [← e2, upd_self]
theorem touch_B {g : Nat → Int32} {b : Int32} (h : ¬ heldG (g 4 + b) = 0) : upd (upd g 4 (heldG (g 4 + b))) 6 (cmpI (heldG (g 4 + b)) 0) = touchG g b := by
  unfold touchG
  rw [if_neg h]
  rfl
theorem turn_in {x : Int32} (h : rng x 0 39) : vp_in x 40 := by
  have h1 := rng_iff.mp h
  have e2 : ((0 : Int32)).toInt = 0 := by decide
  have e3 : ((39 : Int32)).toInt = 39 := by decide
  exact vp_in_iff.mpr ⟨by omega, by omega⟩
theorem logT_A {g : Nat → Int32} (h : rng (g 10) 0 39) : upd (upd (upd g (44 + 2 * (g 10).toNatClampNeg) (g 9)) (45 + 2 * (g 10).toNatClampNeg) (g 11)) 10 (g 10 + 1) = logT g := by
  have h1 := rng_iff.mp h
  have e2 : ((40 : Int32)).toInt = 40 := by decide
  have e3 : ((39 : Int32)).toInt = 39 := by decide
  unfold logT
  rw [if_pos (by rw [tI_lt]; omega)]
theorem logT_B {g : Nat → Int32} (h0 : 0 ≤ (g 10).toInt) (h : ¬ rng (g 10) 0 39) : upd g 10 (g 10 + 1) = logT g := by
  have e2 : ((40 : Int32)).toInt = 40 := by decide
  have e3 : ((39 : Int32)).toInt = 39 := by decide
  have e4 : ((0 : Int32)).toInt = 0 := by decide
  unfold logT
  rw [if_neg]
  intro h1
  apply h
  rw [rng_iff]
  rw [tI_lt] at h1
  omega
/-! how it goes -/
def stillI (g : Nat → Int32) (h : Nat) : Nat → Int32
  | 0 => 1
  | m + 1 => if ¬ stillI g h m = 0 ∧ stepsG g (h + m + 1) 4 = 0 then 1 else 0
def goesG (g : Nat → Int32) (n : Nat) : Int32 := if ¬ stillI g (n / 2) (n - n / 2) = 0 then 0 else if stepsG g n 10 = g 10 then 1 else if stepsG g n 10 = stepsG g (n / 2) 10 then 2 else 3
theorem steps_add (g : Nat → Int32) (a : Nat) : ∀ b, stepsG (stepsG g a) b = stepsG g (a + b)
  | 0 => rfl
  | b + 1 => by
    show stepG (stepsG (stepsG g a) b) = stepG (stepsG g (a + b))
    rw [steps_add g a b]
/-! what a wheel becomes: the places of a wheel -/
def mixG (a b : Nat → Int32) : Nat → Int32 := fun i => if i < 12 ∨ (20 ≤ i ∧ i < 124) then a i else b i
