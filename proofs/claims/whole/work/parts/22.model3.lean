/-! one tick of the reference -/
def pourK (g : Nat → Int32) (k : Nat) : Nat → Int32 := if topN g < k then pourAt g (topN g) else g
theorem pourK_0 (g : Nat → Int32) : pourK g 0 = g := if_neg (Nat.not_lt_zero _)
theorem pourK_12 (g : Nat → Int32) : pourK g 12 = pourG g := if_pos (topN_lt g)
theorem pourK_eq {g : Nat → Int32} {k : Nat} (h : k = topN g) : pourK g k = g := if_neg (by omega)
theorem pourK_yes {g : Nat → Int32} {k : Nat} (h : k = topN g) : pourAt g k = pourK g (k + 1) := by
  unfold pourK
  rw [if_pos (by omega), h]
theorem gI_pourK {g : Nat → Int32} (hg : gI g) (k : Nat) : gI (pourK g k) := by
  unfold pourK
  split
  · exact gI_pour hg
  · exact hg
theorem pourK_5 (g : Nat → Int32) (k : Nat) : pourK g k 5 = g 5 := by
  unfold pourK pourAt
  split
  · rw [upd_ne (by omega), upd_ne (by omega)]
  · rfl
theorem pourK_top {g : Nat → Int32} (hg : gI g) {k : Nat} (hk : k < 12) : placeG (pourK g k) k = 0 ↔ k = topN g := by
  rw [place_top (gI_pourK hg k) hk]
  unfold topN
  rw [pourK_5]
theorem pourK_no {g : Nat → Int32} (hg : gI g) {k : Nat} (hk : k < 12) (h : ¬ placeG (pourK g k) k = 0) : pourK g k = pourK g (k + 1) := by
  have h2 : ¬ k = topN g := fun q => h ((pourK_top hg hk).mpr q)
  unfold pourK
  by_cases h3 : topN g < k
  · rw [if_pos h3, if_pos (by omega)]
  · rw [if_neg h3, if_neg (by omega)]
theorem comes_A {g : Nat → Int32} (hg : gI g) {k : Nat} (h : roomG g k - g (20 + k) < 0) : 0 = comesG g k := by
  unfold comesG spareG
  rw [if_pos h]
  have h0 := hg.h0
  by_cases h2 : 0 < g 0
  · rw [if_pos h2]
  · rw [if_neg h2]
    rw [tI_lt, tI_0] at h2
    rw [tI_eq, tI_0]
    omega
theorem comes_B {g : Nat → Int32} {k : Nat} (h : ¬ roomG g k - g (20 + k) < 0) (h2 : roomG g k - g (20 + k) < g 0) : roomG g k - g (20 + k) = comesG g k := by
  unfold comesG spareG
  rw [if_neg h, if_pos h2]
theorem comes_C {g : Nat → Int32} {k : Nat} (h : ¬ roomG g k - g (20 + k) < 0) (h2 : ¬ roomG g k - g (20 + k) < g 0) : g 0 = comesG g k := by
  unfold comesG spareG
  rw [if_neg h, if_neg h2]
theorem drain_no {g : Nat → Int32} {k : Nat} (h : ¬ lossG g k (32 + k) = 6) : lossG g k = drainG g k := by
  unfold drainG
  rw [if_neg]
  intro q
  apply h
  unfold lossG
  rw [upd_ne (by omega), upd_ne (by omega)]
  exact q
theorem drain_6 {g : Nat → Int32} {k : Nat} (h : lossG g k (32 + k) = 6) : drainG g k = passG (lossG g k) k := by
  unfold drainG
  rw [if_pos]
  unfold lossG at h
  rw [upd_ne (by omega), upd_ne (by omega)] at h
  exact h
theorem drain_n1 {g : Nat → Int32} {k : Nat} (h : lossG g k (32 + k) = 6) (h2 : ¬ lossG g k (20 + (k + 1) % 12) < lossG g k (20 + k)) : lossG g k = drainG g k := by
  rw [drain_6 h]
  unfold passG
  rw [if_neg (fun q => h2 q.1)]
theorem drain_n2 {g : Nat → Int32} {k : Nat} (h : lossG g k (32 + k) = 6) (h2 : ¬ lossG g k (20 + (k + 1) % 12) < roomG (lossG g k) ((k + 1) % 12)) : lossG g k = drainG g k := by
  rw [drain_6 h]
  unfold passG
  rw [if_neg (fun q => h2 q.2)]
theorem drain_yes {g : Nat → Int32} {k : Nat} (h : lossG g k (32 + k) = 6) (h1 : lossG g k (20 + (k + 1) % 12) < lossG g k (20 + k)) (h2 : lossG g k (20 + (k + 1) % 12) < roomG (lossG g k) ((k + 1) % 12)) : upd (upd (lossG g k) (20 + k) (lossG g k (20 + k) - 1)) (20 + (k + 1) % 12) (lossG g k (20 + (k + 1) % 12) + 1) = drainG g k := by
  rw [drain_6 h]
  unfold passG
  rw [if_pos ⟨h1, h2⟩]
theorem swing_eq (g : Nat → Int32) : upd (upd g 4 (slowG g)) 5 (xrem (g 5 + slowG g + 1200) 1200) = swingG g := rfl
set_option maxHeartbeats 4000000 in
set_option maxRecDepth 100000 in
theorem cM_goesBy (l : Launch) (E : xE) (σ : Nat → Nat → Int32) (τ : Nat → Int64) (b : Nat) (hb : b = 10 ∨ b = 11 ∨ b = 12) (g : Nat → Int32) (hg : gI g) (h0 : 0 ≤ (g 10).toInt) (hlv : ∀ j, j < 12 → σ 15 j = (xzl 1).getD j 0) : xMv l yX8_goesBy cX8_goesBy 5 2 45 E [.ref (xad E (81)), .ref (xad E (72 + b))] (va_up σ b (g)) (τ) (va_up σ b (stepG g)) (τ) := by
  refine xMv_of (own := RX8) (by decide +kernel) rfl (Nat.le_of_ble_eq_true rfl) ?_
  intro zp ze zs zm za zb zh zc C
  refine WM.to (lv1 := [(0, .ref (xad E (81))), (1, .ref (xad E (72 + b)))]) (st1 := []) (σ1 := va_up σ b (g)) (τ1 := τ) ?_ rfl rfl rfl rfl
  refine x_iconst C (v := 0) dX8_goesBy_0 (by decide) ?_
  refine x_istore_n C (lv1 := [(2, .int (0)), (0, .ref (xad E (81))), (1, .ref (xad E (72 + b)))]) dX8_goesBy_1 rfl (by decide) rfl ?_
  have loop : ∀ (j k : Nat), j + k = 12 → WM zp l ze { frames := 2, cells := 0, slots := 0, locals := 45 } zs zm za zb zh zc 0 0 (MQ zb (va_Qv (fun _ : Unit => True) (fun _ t => xP E (va_up σ b (stepG g)) (τ) t.heap) (xA E)) za zs 0 0 (xA E)) E (xA E) 5 (va_up σ b (pourK g k)) (τ) 2 [(0, .ref (xad E (81))), (1, .ref (xad E (72 + b))), (2, .int (nI k))] [] := by
    intro j
    induction j with
    | zero =>
      intro k hk
      refine x_iload_n C 2 dX8_goesBy_2 rfl rfl ?_
      refine x_bipush C (v := 12) dX8_goesBy_3 (by decide) ?_
      refine x_icmp_ge C (tgt := 83) dX8_goesBy_5 (by decide) (fun h1 => ?_) (fun h1 => absurd h1 (nI_nlt (a := k) (b := 12) (by omega) (by omega)))
      obtain rfl : k = 12 := by omega
      refine WM.to (σ1 := va_up σ b (pourG g)) ?_ (congrArg (va_up _ _) (pourK_12 g)) rfl rfl rfl
      refine WM.keep [0, 1] rfl ?_
      refine x_iconst C (v := 0) dX8_goesBy_83 (by decide) ?_
      refine x_istore_n C (lv1 := [(2, .int (0)), (0, .ref (xad E (81))), (1, .ref (xad E (72 + b)))]) dX8_goesBy_84 rfl (by decide) rfl ?_
      have loop2 : ∀ (j k : Nat), j + k = 12 → WM zp l ze { frames := 2, cells := 0, slots := 0, locals := 45 } zs zm za zb zh zc 0 0 (MQ zb (va_Qv (fun _ : Unit => True) (fun _ t => xP E (va_up σ b (stepG g)) (τ) t.heap) (xA E)) za zs 0 0 (xA E)) E (xA E) 5 (va_up σ b (drainsG (pourG g) k)) (τ) 85 [(0, .ref (xad E (81))), (1, .ref (xad E (72 + b))), (2, .int (nI k))] [] := by
        intro j
        induction j with
        | zero =>
          intro k hk
          refine x_iload_n C 2 dX8_goesBy_85 rfl rfl ?_
          refine x_bipush C (v := 12) dX8_goesBy_86 (by decide) ?_
          refine x_icmp_ge C (tgt := 193) dX8_goesBy_88 (by decide) (fun h2 => ?_) (fun h2 => absurd h2 (nI_nlt (a := k) (b := 12) (by omega) (by omega)))
          obtain rfl : k = 12 := by omega
          refine WM.keep [0, 1] (lv' := [(0, .ref (xad E (81))), (1, .ref (xad E (72 + b)))]) rfl ?_
          refine x_aload_n C 1 dX8_goesBy_193 rfl rfl ?_
          refine x_iconst C (v := 4) dX8_goesBy_194 (by decide) ?_
          refine x_ald C (xm_lt hb) (xm_d hb) (v := (drainsG (pourG g) 12) 4) (vp_in_nI (show 4 < 284 by omega) (by decide)) (by rw [(show (4 : Int32).toNatClampNeg = 4 from by decide), Nat.zero_add, Nat.one_mul]; exact (congrFun (va_up_self _ _ _) _)) dX8_goesBy_195 ?_
          refine x_aload_n C 0 dX8_goesBy_196 rfl rfl ?_
          refine x_aload_n C 1 dX8_goesBy_197 rfl rfl ?_
          refine x_callVi C (As := [.ref (xad E (72 + b))]) (rest := [.int ((drainsG (pourG g) 12) 4)]) (cM_torqueOf l E σ τ b hb (drainsG (pourG g) 12) (gI_drains (gI_pour hg) 12 (Nat.le_refl _)) hlv) kv_X8_100 (x_recv C (Nat.le_of_ble_eq_true rfl) xd_81 rfl) ⟨Nat.le_of_ble_eq_true rfl, Nat.le_of_ble_eq_true rfl⟩ rfl rfl (Nat.le_of_ble_eq_true rfl) dX8_goesBy_198 ?_
          refine x_bipush C (v := 100) dX8_goesBy_201 (by decide) ?_
          refine x_aload_n C 1 dX8_goesBy_203 rfl rfl ?_
          refine x_iconst C (v := 3) dX8_goesBy_204 (by decide) ?_
          refine x_ald C (xm_lt hb) (xm_d hb) (v := (drainsG (pourG g) 12) 3) (vp_in_nI (show 3 < 284 by omega) (by decide)) (by rw [(show (3 : Int32).toNatClampNeg = 3 from by decide), Nat.zero_add, Nat.one_mul]; exact (congrFun (va_up_self _ _ _) _)) dX8_goesBy_205 ?_
          refine x_imul C dX8_goesBy_206 ?_
          refine x_idiv C dX8_goesBy_207 (heavy_ne (gI_drains (gI_pour hg) 12 (Nat.le_refl _))) ?_
          refine x_iadd C dX8_goesBy_208 ?_
          refine WM.topi (y := fastG (drainsG (pourG g) 12)) rfl ?_
          refine x_istore_n C (lv1 := [(2, .int (fastG (drainsG (pourG g) 12))), (0, .ref (xad E (81))), (1, .ref (xad E (72 + b)))]) dX8_goesBy_209 rfl (by decide) rfl ?_
          refine x_aload_n C 2 dX8_goesBy_210 rfl rfl ?_
          refine x_iconst C (v := 4) dX8_goesBy_211 (by decide) ?_
          refine x_iload_n C 0 dX8_goesBy_212 rfl rfl ?_
          refine x_iload_n C 0 dX8_goesBy_213 rfl rfl ?_
          refine x_aload_n C 2 dX8_goesBy_214 rfl rfl ?_
          refine x_iconst C (v := 2) dX8_goesBy_215 (by decide) ?_
          refine x_ald C (xm_lt hb) (xm_d hb) (v := (drainsG (pourG g) 12) 2) (vp_in_nI (show 2 < 284 by omega) (by decide)) (by rw [(show (2 : Int32).toNatClampNeg = 2 from by decide), Nat.zero_add, Nat.one_mul]; exact (congrFun (va_up_self _ _ _) _)) dX8_goesBy_216 ?_
          refine x_imul C dX8_goesBy_217 ?_
          refine x_bipush C (v := 100) dX8_goesBy_218 (by decide) ?_
          refine x_idiv C dX8_goesBy_220 (by decide) ?_
          refine x_isub C dX8_goesBy_221 ?_
          refine x_i2l C dX8_goesBy_222 ?_
          refine x_sipush C (v := -600) dX8_goesBy_223 (by decide) ?_
          refine x_sipush C (v := 600) dX8_goesBy_226 (by decide) ?_
          refine x_callSi C (As := [.long (Int32.toInt64 ((fastG (drainsG (pourG g) 12)) - (((fastG (drainsG (pourG g) 12)) * ((drainsG (pourG g) 12) 2)) / 100))), .int ((-600)), .int (600)]) (rest := [.int (4), .ref (xad E (72 + b))]) (c_mheld l E (va_up σ b (drainsG (pourG g) 12)) τ (Int32.toInt64 ((fastG (drainsG (pourG g) 12)) - (((fastG (drainsG (pourG g) 12)) * ((drainsG (pourG g) 12) 2)) / 100))) (-600) 600) ks_X8_86 ⟨Nat.le_of_ble_eq_true rfl, Nat.le_of_ble_eq_true rfl⟩ rfl rfl (Nat.le_of_ble_eq_true rfl) dX8_goesBy_229 ?_
          refine WM.topi (y := slowG (drainsG (pourG g) 12)) (heldL_eq _) ?_
          refine x_ast C (σ' := va_up σ b (upd (drainsG (pourG g) 12) 4 (slowG (drainsG (pourG g) 12)))) (xm_lt hb) (xm_d hb) (by decide) (vp_in_nI (show 4 < 284 by omega) (by decide)) (by rw [(show (4 : Int32).toNatClampNeg = 4 from by decide), Nat.zero_add, Nat.one_mul]; exact (u2_bank _ _ _ _ _)) dX8_goesBy_232 ?_
          refine x_aload_n C 2 dX8_goesBy_233 rfl rfl ?_
          refine x_iconst C (v := 5) dX8_goesBy_234 (by decide) ?_
          refine x_aload_n C 2 dX8_goesBy_235 rfl rfl ?_
          refine x_iconst C (v := 5) dX8_goesBy_236 (by decide) ?_
          refine x_ald C (xm_lt hb) (xm_d hb) (v := (drainsG (pourG g) 12) 5) (vp_in_nI (show 5 < 284 by omega) (by decide)) (by rw [(show (5 : Int32).toNatClampNeg = 5 from by decide), Nat.zero_add, Nat.one_mul]; exact (Eq.trans (congrFun (va_up_self _ _ _) _) (upd_ne (j := 5) (k := 4) (by decide)))) dX8_goesBy_237 ?_
          refine x_aload_n C 2 dX8_goesBy_238 rfl rfl ?_
          refine x_iconst C (v := 4) dX8_goesBy_239 (by decide) ?_
          refine x_ald C (xm_lt hb) (xm_d hb) (v := slowG (drainsG (pourG g) 12)) (vp_in_nI (show 4 < 284 by omega) (by decide)) (by rw [(show (4 : Int32).toNatClampNeg = 4 from by decide), Nat.zero_add, Nat.one_mul]; exact (Eq.trans (congrFun (va_up_self _ _ _) _) (upd_at _ _ _))) dX8_goesBy_240 ?_
          refine x_iadd C dX8_goesBy_241 ?_
          refine x_sipush C (v := 1200) dX8_goesBy_242 (by decide) ?_
          refine x_iadd C dX8_goesBy_245 ?_
          refine x_sipush C (v := 1200) dX8_goesBy_246 (by decide) ?_
          refine x_irem C dX8_goesBy_249 (by decide) ?_
          refine WM.topi (y := xrem ((drainsG (pourG g) 12) 5 + slowG (drainsG (pourG g) 12) + 1200) 1200) rfl ?_
          refine x_ast C (σ' := va_up σ b (upd (upd (drainsG (pourG g) 12) 4 (slowG (drainsG (pourG g) 12))) 5 (xrem ((drainsG (pourG g) 12) 5 + slowG (drainsG (pourG g) 12) + 1200) 1200))) (xm_lt hb) (xm_d hb) (by decide) (vp_in_nI (show 5 < 284 by omega) (by decide)) (by rw [(show (5 : Int32).toNatClampNeg = 5 from by decide), Nat.zero_add, Nat.one_mul]; exact (u2_bank _ _ _ _ _)) dX8_goesBy_250 ?_
          refine WM.to (σ1 := va_up σ b (swingG (drainsG (pourG g) 12))) ?_ (congrArg (va_up _ _) (swing_eq _)) rfl rfl rfl
          refine x_aload_n C 2 dX8_goesBy_251 rfl rfl ?_
          refine x_bipush C (v := 9) dX8_goesBy_252 (by decide) ?_
          refine x_dup2 C dX8_goesBy_254 rfl rfl ?_
          refine x_ald C (xm_lt hb) (xm_d hb) (v := (swingG (drainsG (pourG g) 12)) 9) (vp_in_nI (show 9 < 284 by omega) (by decide)) (by rw [(show (9 : Int32).toNatClampNeg = 9 from by decide), Nat.zero_add, Nat.one_mul]; exact (congrFun (va_up_self _ _ _) _)) dX8_goesBy_255 ?_
          refine x_iconst C (v := 1) dX8_goesBy_256 (by decide) ?_
          refine x_iadd C dX8_goesBy_257 ?_
          refine x_ast C (σ' := va_up σ b (upd (swingG (drainsG (pourG g) 12)) 9 (((swingG (drainsG (pourG g) 12)) 9) + 1))) (xm_lt hb) (xm_d hb) (by decide) (vp_in_nI (show 9 < 284 by omega) (by decide)) (by rw [(show (9 : Int32).toNatClampNeg = 9 from by decide), Nat.zero_add, Nat.one_mul]; exact (u2_bank _ _ _ _ _)) dX8_goesBy_258 ?_
          refine WM.to (σ1 := va_up σ b (preG g)) ?_ rfl rfl rfl rfl
          refine x_aload_n C 2 dX8_goesBy_259 rfl rfl ?_
          refine x_callSv C (As := [.ref (xad E (72 + b))]) (rest := []) (cM_notes l E σ τ b hb (preG g) (gI_tick (gI_swing (gI_drains (gI_pour hg) 12 (Nat.le_refl _)))) (by rw [pre_10]; exact h0)) ks_X8_104 ⟨Nat.le_of_ble_eq_true rfl, Nat.le_of_ble_eq_true rfl⟩ rfl rfl (Nat.le_of_ble_eq_true rfl) dX8_goesBy_260 ?_
          exact x_vret C rfl rfl dX8_goesBy_263
        | succ j ih =>
          intro k hk
          refine x_iload_n C 2 dX8_goesBy_85 rfl rfl ?_
          refine x_bipush C (v := 12) dX8_goesBy_86 (by decide) ?_
          refine x_icmp_ge C (tgt := 193) dX8_goesBy_88 (by decide) (fun h3 => absurd (nI_lt (a := k) (b := 12) (by omega) (by omega)) h3) (fun h3 => ?_)
          refine x_aload_n C 1 dX8_goesBy_91 rfl rfl ?_
          refine x_iload_n C 2 dX8_goesBy_92 rfl rfl ?_
          refine x_callSi C (As := [.ref (xad E (72 + b)), .int (nI k)]) (rest := []) (cM_leaksFrom l E σ τ b hb (drainsG (pourG g) k) k (by omega)) ks_X8_80 ⟨Nat.le_of_ble_eq_true rfl, Nat.le_of_ble_eq_true rfl⟩ rfl rfl (Nat.le_of_ble_eq_true rfl) dX8_goesBy_93 ?_
          refine x_istore_n C (lv1 := [(3, .int (leakG (drainsG (pourG g) k) k)), (0, .ref (xad E (81))), (1, .ref (xad E (72 + b))), (2, .int (nI k))]) dX8_goesBy_96 rfl (by decide) rfl ?_
          refine x_aload_n C 2 dX8_goesBy_97 rfl rfl ?_
          refine x_bipush C (v := 20) dX8_goesBy_98 (by decide) ?_
          refine x_iload_n C 3 dX8_goesBy_100 rfl rfl ?_
          refine x_iadd C dX8_goesBy_101 ?_
          refine WM.topi (y := nI (20 + k)) (nI_add 20 k) ?_
          refine x_dup2 C dX8_goesBy_102 rfl rfl ?_
          refine x_ald C (xm_lt hb) (xm_d hb) (v := (drainsG (pourG g) k) (20 + k)) (vp_in_nI (show 20 + k < 284 by omega) (by decide)) (by rw [(nI_clamp (show 20 + k < 2 ^ 31 by omega)), Nat.zero_add, Nat.one_mul]; exact (congrFun (va_up_self _ _ _) _)) dX8_goesBy_103 ?_
          refine x_iload_n C 0 dX8_goesBy_104 rfl rfl ?_
          refine x_isub C dX8_goesBy_105 ?_
          refine x_ast C (σ' := va_up σ b (upd (drainsG (pourG g) k) (20 + k) (((drainsG (pourG g) k) (20 + k)) - (leakG (drainsG (pourG g) k) k)))) (xm_lt hb) (xm_d hb) (by decide) (vp_in_nI (show 20 + k < 284 by omega) (by decide)) (by rw [(nI_clamp (show 20 + k < 2 ^ 31 by omega)), Nat.zero_add, Nat.one_mul]; exact (u2_bank _ _ _ _ _)) dX8_goesBy_106 ?_
          refine x_aload_n C 2 dX8_goesBy_107 rfl rfl ?_
          refine x_bipush C (v := 8) dX8_goesBy_108 (by decide) ?_
          refine x_dup2 C dX8_goesBy_110 rfl rfl ?_
          refine x_ald C (xm_lt hb) (xm_d hb) (v := (drainsG (pourG g) k) 8) (vp_in_nI (show 8 < 284 by omega) (by decide)) (by rw [(show (8 : Int32).toNatClampNeg = 8 from by decide), Nat.zero_add, Nat.one_mul]; exact (Eq.trans (congrFun (va_up_self _ _ _) _) (upd_ne (j := 8) (k := 20 + k) (by omega)))) dX8_goesBy_111 ?_
          refine x_iload_n C 0 dX8_goesBy_112 rfl rfl ?_
          refine x_iadd C dX8_goesBy_113 ?_
          refine x_ast C (σ' := va_up σ b (upd (upd (drainsG (pourG g) k) (20 + k) (((drainsG (pourG g) k) (20 + k)) - (leakG (drainsG (pourG g) k) k))) 8 (((drainsG (pourG g) k) 8) + (leakG (drainsG (pourG g) k) k)))) (xm_lt hb) (xm_d hb) (by decide) (vp_in_nI (show 8 < 284 by omega) (by decide)) (by rw [(show (8 : Int32).toNatClampNeg = 8 from by decide), Nat.zero_add, Nat.one_mul]; exact (u2_bank _ _ _ _ _)) dX8_goesBy_114 ?_
          refine WM.to (σ1 := va_up σ b (lossG (drainsG (pourG g) k) k)) ?_ rfl rfl rfl rfl
          refine x_iload_n C 3 dX8_goesBy_115 rfl rfl ?_
          refine x_iconst C (v := 1) dX8_goesBy_116 (by decide) ?_
          refine x_iadd C dX8_goesBy_117 ?_
          refine WM.topi (y := nI (k + 1)) (nI_add k 1) ?_
          refine x_bipush C (v := 12) dX8_goesBy_118 (by decide) ?_
          refine x_irem C dX8_goesBy_120 (by decide) ?_
          refine WM.topi (y := nI ((k + 1) % 12)) (pk_rem (by omega) (by decide) (by decide)) ?_
          refine x_istore C (lv1 := [(4, .int (nI ((k + 1) % 12))), (3, .int (leakG (drainsG (pourG g) k) k)), (0, .ref (xad E (81))), (1, .ref (xad E (72 + b))), (2, .int (nI k))]) dX8_goesBy_121 (by decide) rfl ?_
          refine x_aload_n C 3 dX8_goesBy_123 rfl rfl ?_
          refine x_bipush C (v := 32) dX8_goesBy_124 (by decide) ?_
          refine x_iload_n C 4 dX8_goesBy_126 rfl rfl ?_
          refine x_iadd C dX8_goesBy_127 ?_
          refine WM.topi (y := nI (32 + k)) (nI_add 32 k) ?_
          refine x_ald C (xm_lt hb) (xm_d hb) (v := (lossG (drainsG (pourG g) k) k) (32 + k)) (vp_in_nI (show 32 + k < 284 by omega) (by decide)) (by rw [(nI_clamp (show 32 + k < 2 ^ 31 by omega)), Nat.zero_add, Nat.one_mul]; exact (congrFun (va_up_self _ _ _) _)) dX8_goesBy_128 ?_
          refine x_bipush C (v := 6) dX8_goesBy_129 (by decide) ?_
          refine x_icmp_ne C (tgt := 187) dX8_goesBy_131 (by decide) (fun h4 => ?_) (fun h4 => ?_)
          · refine x_iinc C (v := nI (k + 1)) (lv1 := [(2, .int (nI (k + 1))), (4, .int (nI ((k + 1) % 12))), (3, .int (leakG (drainsG (pourG g) k) k)), (0, .ref (xad E (81))), (1, .ref (xad E (72 + b)))]) 4 dX8_goesBy_187 rfl (nI_add k 1) (by decide) rfl ?_
            refine x_goto2 C (tgt := 85) dX8_goesBy_190 (by decide) ?_
            refine WM.keep [3, 4, 0] (lv' := [(0, .ref (xad E (81))), (1, .ref (xad E (72 + b))), (2, .int (nI (k + 1)))]) rfl ?_
            exact WM.to (ih (k + 1) (by omega)) (congrArg (va_up _ _) (drain_no h4)) rfl rfl rfl
          · refine x_aload_n C 3 dX8_goesBy_134 rfl rfl ?_
            refine x_bipush C (v := 20) dX8_goesBy_135 (by decide) ?_
            refine x_iload_n C 4 dX8_goesBy_137 rfl rfl ?_
            refine x_iadd C dX8_goesBy_138 ?_
            refine WM.topi (y := nI (20 + k)) (nI_add 20 k) ?_
            refine x_ald C (xm_lt hb) (xm_d hb) (v := (lossG (drainsG (pourG g) k) k) (20 + k)) (vp_in_nI (show 20 + k < 284 by omega) (by decide)) (by rw [(nI_clamp (show 20 + k < 2 ^ 31 by omega)), Nat.zero_add, Nat.one_mul]; exact (congrFun (va_up_self _ _ _) _)) dX8_goesBy_139 ?_
            refine x_aload_n C 3 dX8_goesBy_140 rfl rfl ?_
            refine x_bipush C (v := 20) dX8_goesBy_141 (by decide) ?_
            refine x_iload C 0 dX8_goesBy_143 rfl ?_
            refine x_iadd C dX8_goesBy_145 ?_
            refine WM.topi (y := nI (20 + ((k + 1) % 12))) (nI_add 20 ((k + 1) % 12)) ?_
            refine x_ald C (xm_lt hb) (xm_d hb) (v := (lossG (drainsG (pourG g) k) k) (20 + ((k + 1) % 12))) (vp_in_nI (show 20 + ((k + 1) % 12) < 284 by omega) (by decide)) (by rw [(nI_clamp (show 20 + ((k + 1) % 12) < 2 ^ 31 by omega)), Nat.zero_add, Nat.one_mul]; exact (congrFun (va_up_self _ _ _) _)) dX8_goesBy_146 ?_
            refine x_icmp_le C (tgt := 187) dX8_goesBy_147 (by decide) (fun h5 => ?_) (fun h5 => ?_)
            · refine x_iinc C (v := nI (k + 1)) (lv1 := [(2, .int (nI (k + 1))), (4, .int (nI ((k + 1) % 12))), (3, .int (leakG (drainsG (pourG g) k) k)), (0, .ref (xad E (81))), (1, .ref (xad E (72 + b)))]) 4 dX8_goesBy_187 rfl (nI_add k 1) (by decide) rfl ?_
              refine x_goto2 C (tgt := 85) dX8_goesBy_190 (by decide) ?_
              refine WM.keep [3, 4, 0] (lv' := [(0, .ref (xad E (81))), (1, .ref (xad E (72 + b))), (2, .int (nI (k + 1)))]) rfl ?_
              exact WM.to (ih (k + 1) (by omega)) (congrArg (va_up _ _) (drain_n1 h4 h5)) rfl rfl rfl
            · refine x_aload_n C 3 dX8_goesBy_150 rfl rfl ?_
              refine x_bipush C (v := 20) dX8_goesBy_151 (by decide) ?_
              refine x_iload C 0 dX8_goesBy_153 rfl ?_
              refine x_iadd C dX8_goesBy_155 ?_
              refine WM.topi (y := nI (20 + ((k + 1) % 12))) (nI_add 20 ((k + 1) % 12)) ?_
              refine x_ald C (xm_lt hb) (xm_d hb) (v := (lossG (drainsG (pourG g) k) k) (20 + ((k + 1) % 12))) (vp_in_nI (show 20 + ((k + 1) % 12) < 284 by omega) (by decide)) (by rw [(nI_clamp (show 20 + ((k + 1) % 12) < 2 ^ 31 by omega)), Nat.zero_add, Nat.one_mul]; exact (congrFun (va_up_self _ _ _) _)) dX8_goesBy_156 ?_
              refine x_aload_n C 3 dX8_goesBy_157 rfl rfl ?_
              refine x_iload C 0 dX8_goesBy_158 rfl ?_
              refine x_callSi C (As := [.ref (xad E (72 + b)), .int (nI ((k + 1) % 12))]) (rest := [.int ((lossG (drainsG (pourG g) k) k) (20 + ((k + 1) % 12)))]) (cM_roomOf l E σ τ b hb (lossG (drainsG (pourG g) k) k) ((k + 1) % 12) (by omega)) ks_X8_77 ⟨Nat.le_of_ble_eq_true rfl, Nat.le_of_ble_eq_true rfl⟩ rfl rfl (Nat.le_of_ble_eq_true rfl) dX8_goesBy_160 ?_
              refine x_icmp_ge C (tgt := 187) dX8_goesBy_163 (by decide) (fun h6 => ?_) (fun h6 => ?_)
              · refine x_iinc C (v := nI (k + 1)) (lv1 := [(2, .int (nI (k + 1))), (4, .int (nI ((k + 1) % 12))), (3, .int (leakG (drainsG (pourG g) k) k)), (0, .ref (xad E (81))), (1, .ref (xad E (72 + b)))]) 4 dX8_goesBy_187 rfl (nI_add k 1) (by decide) rfl ?_
                refine x_goto2 C (tgt := 85) dX8_goesBy_190 (by decide) ?_
                refine WM.keep [3, 4, 0] (lv' := [(0, .ref (xad E (81))), (1, .ref (xad E (72 + b))), (2, .int (nI (k + 1)))]) rfl ?_
                exact WM.to (ih (k + 1) (by omega)) (congrArg (va_up _ _) (drain_n2 h4 h6)) rfl rfl rfl
              · refine x_aload_n C 3 dX8_goesBy_166 rfl rfl ?_
                refine x_bipush C (v := 20) dX8_goesBy_167 (by decide) ?_
                refine x_iload_n C 4 dX8_goesBy_169 rfl rfl ?_
                refine x_iadd C dX8_goesBy_170 ?_
                refine WM.topi (y := nI (20 + k)) (nI_add 20 k) ?_
                refine x_dup2 C dX8_goesBy_171 rfl rfl ?_
                refine x_ald C (xm_lt hb) (xm_d hb) (v := (lossG (drainsG (pourG g) k) k) (20 + k)) (vp_in_nI (show 20 + k < 284 by omega) (by decide)) (by rw [(nI_clamp (show 20 + k < 2 ^ 31 by omega)), Nat.zero_add, Nat.one_mul]; exact (congrFun (va_up_self _ _ _) _)) dX8_goesBy_172 ?_
                refine x_iconst C (v := 1) dX8_goesBy_173 (by decide) ?_
                refine x_isub C dX8_goesBy_174 ?_
                refine x_ast C (σ' := va_up σ b (upd (lossG (drainsG (pourG g) k) k) (20 + k) (((lossG (drainsG (pourG g) k) k) (20 + k)) - 1))) (xm_lt hb) (xm_d hb) (by decide) (vp_in_nI (show 20 + k < 284 by omega) (by decide)) (by rw [(nI_clamp (show 20 + k < 2 ^ 31 by omega)), Nat.zero_add, Nat.one_mul]; exact (u2_bank _ _ _ _ _)) dX8_goesBy_175 ?_
                refine x_aload_n C 3 dX8_goesBy_176 rfl rfl ?_
                refine x_bipush C (v := 20) dX8_goesBy_177 (by decide) ?_
                refine x_iload C 0 dX8_goesBy_179 rfl ?_
                refine x_iadd C dX8_goesBy_181 ?_
                refine WM.topi (y := nI (20 + ((k + 1) % 12))) (nI_add 20 ((k + 1) % 12)) ?_
                refine x_dup2 C dX8_goesBy_182 rfl rfl ?_
                refine x_ald C (xm_lt hb) (xm_d hb) (v := (lossG (drainsG (pourG g) k) k) (20 + ((k + 1) % 12))) (vp_in_nI (show 20 + ((k + 1) % 12) < 284 by omega) (by decide)) (by rw [(nI_clamp (show 20 + ((k + 1) % 12) < 2 ^ 31 by omega)), Nat.zero_add, Nat.one_mul]; exact (Eq.trans (congrFun (va_up_self _ _ _) _) (upd_ne (j := 20 + ((k + 1) % 12)) (k := 20 + k) (by omega)))) dX8_goesBy_183 ?_
                refine x_iconst C (v := 1) dX8_goesBy_184 (by decide) ?_
                refine x_iadd C dX8_goesBy_185 ?_
                refine x_ast C (σ' := va_up σ b (upd (upd (lossG (drainsG (pourG g) k) k) (20 + k) (((lossG (drainsG (pourG g) k) k) (20 + k)) - 1)) (20 + ((k + 1) % 12)) (((lossG (drainsG (pourG g) k) k) (20 + ((k + 1) % 12))) + 1))) (xm_lt hb) (xm_d hb) (by decide) (vp_in_nI (show 20 + ((k + 1) % 12) < 284 by omega) (by decide)) (by rw [(nI_clamp (show 20 + ((k + 1) % 12) < 2 ^ 31 by omega)), Nat.zero_add, Nat.one_mul]; exact (u2_bank _ _ _ _ _)) dX8_goesBy_186 ?_
                refine x_iinc C (v := nI (k + 1)) (lv1 := [(2, .int (nI (k + 1))), (4, .int (nI ((k + 1) % 12))), (3, .int (leakG (drainsG (pourG g) k) k)), (0, .ref (xad E (81))), (1, .ref (xad E (72 + b)))]) 4 dX8_goesBy_187 rfl (nI_add k 1) (by decide) rfl ?_
                refine x_goto2 C (tgt := 85) dX8_goesBy_190 (by decide) ?_
                refine WM.keep [3, 4, 0] (lv' := [(0, .ref (xad E (81))), (1, .ref (xad E (72 + b))), (2, .int (nI (k + 1)))]) rfl ?_
                exact WM.to (ih (k + 1) (by omega)) (congrArg (va_up _ _) (drain_yes h4 h5 h6)) rfl rfl rfl
      refine WM.keep [1, 2, 0] rfl ?_
      exact WM.to (loop2 (12) 0 (by omega)) rfl rfl rfl rfl
    | succ j ih =>
      intro k hk
      refine x_iload_n C 2 dX8_goesBy_2 rfl rfl ?_
      refine x_bipush C (v := 12) dX8_goesBy_3 (by decide) ?_
      refine x_icmp_ge C (tgt := 83) dX8_goesBy_5 (by decide) (fun h7 => absurd (nI_lt (a := k) (b := 12) (by omega) (by omega)) h7) (fun h7 => ?_)
      refine x_aload_n C 1 dX8_goesBy_8 rfl rfl ?_
      refine x_iload_n C 2 dX8_goesBy_9 rfl rfl ?_
      refine x_callSi C (As := [.ref (xad E (72 + b)), .int (nI k)]) (rest := []) (cM_placeOf l E σ τ b hb (pourK g k) k (by omega)) ks_X8_71 ⟨Nat.le_of_ble_eq_true rfl, Nat.le_of_ble_eq_true rfl⟩ rfl rfl (Nat.le_of_ble_eq_true rfl) dX8_goesBy_10 ?_
      refine x_if_ne C (tgt := 77) dX8_goesBy_13 (by decide) (fun h8 => ?_) (fun h8 => ?_)
      · refine x_iinc C (v := nI (k + 1)) (lv1 := [(2, .int (nI (k + 1))), (0, .ref (xad E (81))), (1, .ref (xad E (72 + b)))]) 2 dX8_goesBy_77 rfl (nI_add k 1) (by decide) rfl ?_
        refine x_goto2 C (tgt := 2) dX8_goesBy_80 (by decide) ?_
        refine WM.keep [1, 2, 0] (lv' := [(0, .ref (xad E (81))), (1, .ref (xad E (72 + b))), (2, .int (nI (k + 1)))]) rfl ?_
        exact WM.to (ih (k + 1) (by omega)) (congrArg (va_up _ _) (pourK_no hg (by omega) h8)) rfl rfl rfl
      · have hkt : k = topN g := (pourK_top hg (by omega)).mp h8
        refine WM.to (σ1 := va_up σ b (g)) ?_ (congrArg (va_up _ _) (pourK_eq hkt)) rfl rfl rfl
        refine x_aload_n C 1 dX8_goesBy_16 rfl rfl ?_
        refine x_iload_n C 2 dX8_goesBy_17 rfl rfl ?_
        refine x_callSi C (As := [.ref (xad E (72 + b)), .int (nI k)]) (rest := []) (cM_roomOf l E σ τ b hb g k (by omega)) ks_X8_77 ⟨Nat.le_of_ble_eq_true rfl, Nat.le_of_ble_eq_true rfl⟩ rfl rfl (Nat.le_of_ble_eq_true rfl) dX8_goesBy_18 ?_
        refine x_aload_n C 1 dX8_goesBy_21 rfl rfl ?_
        refine x_bipush C (v := 20) dX8_goesBy_22 (by decide) ?_
        refine x_iload_n C 2 dX8_goesBy_24 rfl rfl ?_
        refine x_iadd C dX8_goesBy_25 ?_
        refine WM.topi (y := nI (20 + k)) (nI_add 20 k) ?_
        refine x_ald C (xm_lt hb) (xm_d hb) (v := g (20 + k)) (vp_in_nI (show 20 + k < 284 by omega) (by decide)) (by rw [(nI_clamp (show 20 + k < 2 ^ 31 by omega)), Nat.zero_add, Nat.one_mul]; exact (congrFun (va_up_self _ _ _) _)) dX8_goesBy_26 ?_
        refine x_isub C dX8_goesBy_27 ?_
        refine x_istore_n C (lv1 := [(3, .int ((roomG g k) - (g (20 + k)))), (0, .ref (xad E (81))), (1, .ref (xad E (72 + b))), (2, .int (nI k))]) dX8_goesBy_28 rfl (by decide) rfl ?_
        refine x_iload_n C 0 dX8_goesBy_29 rfl rfl ?_
        refine x_if_ge C (tgt := 37) dX8_goesBy_30 (by decide) (fun h9 => ?_) (fun h9 => ?_)
        · refine x_iload_n C 0 dX8_goesBy_37 rfl rfl ?_
          refine x_aload_n C 2 dX8_goesBy_38 rfl rfl ?_
          refine x_iconst C (v := 0) dX8_goesBy_39 (by decide) ?_
          refine x_ald C (xm_lt hb) (xm_d hb) (v := g 0) (vp_in_nI (show 0 < 284 by omega) (by decide)) (by rw [(show (0 : Int32).toNatClampNeg = 0 from by decide), Nat.zero_add, Nat.one_mul]; exact (congrFun (va_up_self _ _ _) _)) dX8_goesBy_40 ?_
          refine x_icmp_ge C (tgt := 48) dX8_goesBy_41 (by decide) (fun h10 => ?_) (fun h10 => ?_)
          · refine x_aload_n C 2 dX8_goesBy_48 rfl rfl ?_
            refine x_iconst C (v := 0) dX8_goesBy_49 (by decide) ?_
            refine x_ald C (xm_lt hb) (xm_d hb) (v := g 0) (vp_in_nI (show 0 < 284 by omega) (by decide)) (by rw [(show (0 : Int32).toNatClampNeg = 0 from by decide), Nat.zero_add, Nat.one_mul]; exact (congrFun (va_up_self _ _ _) _)) dX8_goesBy_50 ?_
            refine WM.topi (y := comesG g k) (comes_C h9 h10) ?_
            refine x_istore C (lv1 := [(4, .int (comesG g k)), (3, .int ((roomG g k) - (g (20 + k)))), (0, .ref (xad E (81))), (1, .ref (xad E (72 + b))), (2, .int (nI k))]) dX8_goesBy_51 (by decide) rfl ?_
            refine x_aload_n C 3 dX8_goesBy_53 rfl rfl ?_
            refine x_bipush C (v := 20) dX8_goesBy_54 (by decide) ?_
            refine x_iload_n C 4 dX8_goesBy_56 rfl rfl ?_
            refine x_iadd C dX8_goesBy_57 ?_
            refine WM.topi (y := nI (20 + k)) (nI_add 20 k) ?_
            refine x_dup2 C dX8_goesBy_58 rfl rfl ?_
            refine x_ald C (xm_lt hb) (xm_d hb) (v := g (20 + k)) (vp_in_nI (show 20 + k < 284 by omega) (by decide)) (by rw [(nI_clamp (show 20 + k < 2 ^ 31 by omega)), Nat.zero_add, Nat.one_mul]; exact (congrFun (va_up_self _ _ _) _)) dX8_goesBy_59 ?_
            refine x_iload C 0 dX8_goesBy_60 rfl ?_
            refine x_iadd C dX8_goesBy_62 ?_
            refine x_ast C (σ' := va_up σ b (upd g (20 + k) ((g (20 + k)) + (comesG g k)))) (xm_lt hb) (xm_d hb) (by decide) (vp_in_nI (show 20 + k < 284 by omega) (by decide)) (by rw [(nI_clamp (show 20 + k < 2 ^ 31 by omega)), Nat.zero_add, Nat.one_mul]; exact (u2_bank _ _ _ _ _)) dX8_goesBy_63 ?_
            refine x_aload_n C 3 dX8_goesBy_64 rfl rfl ?_
            refine x_bipush C (v := 7) dX8_goesBy_65 (by decide) ?_
            refine x_dup2 C dX8_goesBy_67 rfl rfl ?_
            refine x_ald C (xm_lt hb) (xm_d hb) (v := g 7) (vp_in_nI (show 7 < 284 by omega) (by decide)) (by rw [(show (7 : Int32).toNatClampNeg = 7 from by decide), Nat.zero_add, Nat.one_mul]; exact (Eq.trans (congrFun (va_up_self _ _ _) _) (upd_ne (j := 7) (k := 20 + k) (by omega)))) dX8_goesBy_68 ?_
            refine x_aload_n C 3 dX8_goesBy_69 rfl rfl ?_
            refine x_iconst C (v := 0) dX8_goesBy_70 (by decide) ?_
            refine x_ald C (xm_lt hb) (xm_d hb) (v := g 0) (vp_in_nI (show 0 < 284 by omega) (by decide)) (by rw [(show (0 : Int32).toNatClampNeg = 0 from by decide), Nat.zero_add, Nat.one_mul]; exact (Eq.trans (congrFun (va_up_self _ _ _) _) (upd_ne (j := 0) (k := 20 + k) (by omega)))) dX8_goesBy_71 ?_
            refine x_iload C 0 dX8_goesBy_72 rfl ?_
            refine x_isub C dX8_goesBy_74 ?_
            refine x_iadd C dX8_goesBy_75 ?_
            refine x_ast C (σ' := va_up σ b (upd (upd g (20 + k) ((g (20 + k)) + (comesG g k))) 7 ((g 7) + ((g 0) - (comesG g k))))) (xm_lt hb) (xm_d hb) (by decide) (vp_in_nI (show 7 < 284 by omega) (by decide)) (by rw [(show (7 : Int32).toNatClampNeg = 7 from by decide), Nat.zero_add, Nat.one_mul]; exact (u2_bank _ _ _ _ _)) dX8_goesBy_76 ?_
            refine x_iinc C (v := nI (k + 1)) (lv1 := [(2, .int (nI (k + 1))), (4, .int (comesG g k)), (3, .int ((roomG g k) - (g (20 + k)))), (0, .ref (xad E (81))), (1, .ref (xad E (72 + b)))]) 4 dX8_goesBy_77 rfl (nI_add k 1) (by decide) rfl ?_
            refine x_goto2 C (tgt := 2) dX8_goesBy_80 (by decide) ?_
            refine WM.keep [3, 4, 0] (lv' := [(0, .ref (xad E (81))), (1, .ref (xad E (72 + b))), (2, .int (nI (k + 1)))]) rfl ?_
            exact WM.to (ih (k + 1) (by omega)) (congrArg (va_up _ _) (pourK_yes hkt)) rfl rfl rfl
          · refine x_iload_n C 0 dX8_goesBy_44 rfl rfl ?_
            refine x_goto2 C (tgt := 51) dX8_goesBy_45 (by decide) ?_
            refine WM.topi (y := comesG g k) (comes_B h9 h10) ?_
            refine x_istore C (lv1 := [(4, .int (comesG g k)), (3, .int ((roomG g k) - (g (20 + k)))), (0, .ref (xad E (81))), (1, .ref (xad E (72 + b))), (2, .int (nI k))]) dX8_goesBy_51 (by decide) rfl ?_
            refine x_aload_n C 3 dX8_goesBy_53 rfl rfl ?_
            refine x_bipush C (v := 20) dX8_goesBy_54 (by decide) ?_
            refine x_iload_n C 4 dX8_goesBy_56 rfl rfl ?_
            refine x_iadd C dX8_goesBy_57 ?_
            refine WM.topi (y := nI (20 + k)) (nI_add 20 k) ?_
            refine x_dup2 C dX8_goesBy_58 rfl rfl ?_
            refine x_ald C (xm_lt hb) (xm_d hb) (v := g (20 + k)) (vp_in_nI (show 20 + k < 284 by omega) (by decide)) (by rw [(nI_clamp (show 20 + k < 2 ^ 31 by omega)), Nat.zero_add, Nat.one_mul]; exact (congrFun (va_up_self _ _ _) _)) dX8_goesBy_59 ?_
            refine x_iload C 0 dX8_goesBy_60 rfl ?_
            refine x_iadd C dX8_goesBy_62 ?_
            refine x_ast C (σ' := va_up σ b (upd g (20 + k) ((g (20 + k)) + (comesG g k)))) (xm_lt hb) (xm_d hb) (by decide) (vp_in_nI (show 20 + k < 284 by omega) (by decide)) (by rw [(nI_clamp (show 20 + k < 2 ^ 31 by omega)), Nat.zero_add, Nat.one_mul]; exact (u2_bank _ _ _ _ _)) dX8_goesBy_63 ?_
            refine x_aload_n C 3 dX8_goesBy_64 rfl rfl ?_
            refine x_bipush C (v := 7) dX8_goesBy_65 (by decide) ?_
            refine x_dup2 C dX8_goesBy_67 rfl rfl ?_
            refine x_ald C (xm_lt hb) (xm_d hb) (v := g 7) (vp_in_nI (show 7 < 284 by omega) (by decide)) (by rw [(show (7 : Int32).toNatClampNeg = 7 from by decide), Nat.zero_add, Nat.one_mul]; exact (Eq.trans (congrFun (va_up_self _ _ _) _) (upd_ne (j := 7) (k := 20 + k) (by omega)))) dX8_goesBy_68 ?_
            refine x_aload_n C 3 dX8_goesBy_69 rfl rfl ?_
            refine x_iconst C (v := 0) dX8_goesBy_70 (by decide) ?_
            refine x_ald C (xm_lt hb) (xm_d hb) (v := g 0) (vp_in_nI (show 0 < 284 by omega) (by decide)) (by rw [(show (0 : Int32).toNatClampNeg = 0 from by decide), Nat.zero_add, Nat.one_mul]; exact (Eq.trans (congrFun (va_up_self _ _ _) _) (upd_ne (j := 0) (k := 20 + k) (by omega)))) dX8_goesBy_71 ?_
            refine x_iload C 0 dX8_goesBy_72 rfl ?_
            refine x_isub C dX8_goesBy_74 ?_
            refine x_iadd C dX8_goesBy_75 ?_
            refine x_ast C (σ' := va_up σ b (upd (upd g (20 + k) ((g (20 + k)) + (comesG g k))) 7 ((g 7) + ((g 0) - (comesG g k))))) (xm_lt hb) (xm_d hb) (by decide) (vp_in_nI (show 7 < 284 by omega) (by decide)) (by rw [(show (7 : Int32).toNatClampNeg = 7 from by decide), Nat.zero_add, Nat.one_mul]; exact (u2_bank _ _ _ _ _)) dX8_goesBy_76 ?_
            refine x_iinc C (v := nI (k + 1)) (lv1 := [(2, .int (nI (k + 1))), (4, .int (comesG g k)), (3, .int ((roomG g k) - (g (20 + k)))), (0, .ref (xad E (81))), (1, .ref (xad E (72 + b)))]) 4 dX8_goesBy_77 rfl (nI_add k 1) (by decide) rfl ?_
            refine x_goto2 C (tgt := 2) dX8_goesBy_80 (by decide) ?_
            refine WM.keep [3, 4, 0] (lv' := [(0, .ref (xad E (81))), (1, .ref (xad E (72 + b))), (2, .int (nI (k + 1)))]) rfl ?_
            exact WM.to (ih (k + 1) (by omega)) (congrArg (va_up _ _) (pourK_yes hkt)) rfl rfl rfl
        · refine x_iconst C (v := 0) dX8_goesBy_33 (by decide) ?_
          refine x_goto2 C (tgt := 51) dX8_goesBy_34 (by decide) ?_
          refine WM.topi (y := comesG g k) (comes_A hg h9) ?_
          refine x_istore C (lv1 := [(4, .int (comesG g k)), (3, .int ((roomG g k) - (g (20 + k)))), (0, .ref (xad E (81))), (1, .ref (xad E (72 + b))), (2, .int (nI k))]) dX8_goesBy_51 (by decide) rfl ?_
          refine x_aload_n C 3 dX8_goesBy_53 rfl rfl ?_
          refine x_bipush C (v := 20) dX8_goesBy_54 (by decide) ?_
          refine x_iload_n C 4 dX8_goesBy_56 rfl rfl ?_
          refine x_iadd C dX8_goesBy_57 ?_
          refine WM.topi (y := nI (20 + k)) (nI_add 20 k) ?_
          refine x_dup2 C dX8_goesBy_58 rfl rfl ?_
          refine x_ald C (xm_lt hb) (xm_d hb) (v := g (20 + k)) (vp_in_nI (show 20 + k < 284 by omega) (by decide)) (by rw [(nI_clamp (show 20 + k < 2 ^ 31 by omega)), Nat.zero_add, Nat.one_mul]; exact (congrFun (va_up_self _ _ _) _)) dX8_goesBy_59 ?_
          refine x_iload C 0 dX8_goesBy_60 rfl ?_
          refine x_iadd C dX8_goesBy_62 ?_
          refine x_ast C (σ' := va_up σ b (upd g (20 + k) ((g (20 + k)) + (comesG g k)))) (xm_lt hb) (xm_d hb) (by decide) (vp_in_nI (show 20 + k < 284 by omega) (by decide)) (by rw [(nI_clamp (show 20 + k < 2 ^ 31 by omega)), Nat.zero_add, Nat.one_mul]; exact (u2_bank _ _ _ _ _)) dX8_goesBy_63 ?_
          refine x_aload_n C 3 dX8_goesBy_64 rfl rfl ?_
          refine x_bipush C (v := 7) dX8_goesBy_65 (by decide) ?_
          refine x_dup2 C dX8_goesBy_67 rfl rfl ?_
          refine x_ald C (xm_lt hb) (xm_d hb) (v := g 7) (vp_in_nI (show 7 < 284 by omega) (by decide)) (by rw [(show (7 : Int32).toNatClampNeg = 7 from by decide), Nat.zero_add, Nat.one_mul]; exact (Eq.trans (congrFun (va_up_self _ _ _) _) (upd_ne (j := 7) (k := 20 + k) (by omega)))) dX8_goesBy_68 ?_
          refine x_aload_n C 3 dX8_goesBy_69 rfl rfl ?_
          refine x_iconst C (v := 0) dX8_goesBy_70 (by decide) ?_
          refine x_ald C (xm_lt hb) (xm_d hb) (v := g 0) (vp_in_nI (show 0 < 284 by omega) (by decide)) (by rw [(show (0 : Int32).toNatClampNeg = 0 from by decide), Nat.zero_add, Nat.one_mul]; exact (Eq.trans (congrFun (va_up_self _ _ _) _) (upd_ne (j := 0) (k := 20 + k) (by omega)))) dX8_goesBy_71 ?_
          refine x_iload C 0 dX8_goesBy_72 rfl ?_
          refine x_isub C dX8_goesBy_74 ?_
          refine x_iadd C dX8_goesBy_75 ?_
          refine x_ast C (σ' := va_up σ b (upd (upd g (20 + k) ((g (20 + k)) + (comesG g k))) 7 ((g 7) + ((g 0) - (comesG g k))))) (xm_lt hb) (xm_d hb) (by decide) (vp_in_nI (show 7 < 284 by omega) (by decide)) (by rw [(show (7 : Int32).toNatClampNeg = 7 from by decide), Nat.zero_add, Nat.one_mul]; exact (u2_bank _ _ _ _ _)) dX8_goesBy_76 ?_
          refine x_iinc C (v := nI (k + 1)) (lv1 := [(2, .int (nI (k + 1))), (4, .int (comesG g k)), (3, .int ((roomG g k) - (g (20 + k)))), (0, .ref (xad E (81))), (1, .ref (xad E (72 + b)))]) 4 dX8_goesBy_77 rfl (nI_add k 1) (by decide) rfl ?_
          refine x_goto2 C (tgt := 2) dX8_goesBy_80 (by decide) ?_
          refine WM.keep [3, 4, 0] (lv' := [(0, .ref (xad E (81))), (1, .ref (xad E (72 + b))), (2, .int (nI (k + 1)))]) rfl ?_
          exact WM.to (ih (k + 1) (by omega)) (congrArg (va_up _ _) (pourK_yes hkt)) rfl rfl rfl
  refine WM.keep [1, 2, 0] rfl ?_
  exact WM.to (loop (12) 0 (by omega)) (congrArg (va_up _ _) (pourK_0 g).symm) rfl rfl rfl
set_option maxHeartbeats 4000000 in
set_option maxRecDepth 100000 in
theorem cM_goesOn (l : Launch) (E : xE) (σ : Nat → Nat → Int32) (τ : Nat → Int64) (b : Nat) (hb : b = 10 ∨ b = 11 ∨ b = 12) (g : Nat → Int32) (n T : Nat) (hn : n ≤ 1000) (hg : gI g) (hT : gT g T) (hTn : T + n < 2147483647) (hlv : ∀ j, j < 12 → σ 15 j = (xzl 1).getD j 0) : xMv l yX8_goesOn cX8_goesOn 4 3 69 E [.ref (xad E (81)), .ref (xad E (72 + b)), .int (nI n)] (va_up σ b (g)) (τ) (va_up σ b (stepsG g n)) (τ) := by
  refine xMv_of (own := RX8) (by decide +kernel) rfl (Nat.le_of_ble_eq_true rfl) ?_
  intro zp ze zs zm za zb zh zc C
  refine WM.to (lv1 := [(0, .ref (xad E (81))), (1, .ref (xad E (72 + b))), (2, .int (nI n))]) (st1 := []) (σ1 := va_up σ b (g)) (τ1 := τ) ?_ rfl rfl rfl rfl
  refine x_iconst C (v := 0) dX8_goesOn_0 (by decide) ?_
  refine x_istore_n C (lv1 := [(3, .int (0)), (0, .ref (xad E (81))), (1, .ref (xad E (72 + b))), (2, .int (nI n))]) dX8_goesOn_1 rfl (by decide) rfl ?_
  have loop : ∀ (j k : Nat), j + k = n → WM zp l ze { frames := 3, cells := 0, slots := 0, locals := 69 } zs zm za zb zh zc 0 0 (MQ zb (va_Qv (fun _ : Unit => True) (fun _ t => xP E (va_up σ b (stepsG g n)) (τ) t.heap) (xA E)) za zs 0 0 (xA E)) E (xA E) 4 (va_up σ b (stepsG g k)) (τ) 2 [(0, .ref (xad E (81))), (1, .ref (xad E (72 + b))), (2, .int (nI n)), (3, .int (nI k))] [] := by
    intro j
    induction j with
    | zero =>
      intro k hk
      refine x_iload_n C 3 dX8_goesOn_2 rfl rfl ?_
      refine x_iload_n C 2 dX8_goesOn_3 rfl rfl ?_
      refine x_icmp_ge C (tgt := 18) dX8_goesOn_4 (by decide) (fun h1 => ?_) (fun h1 => absurd h1 (nI_nlt (a := k) (b := n) (by omega) (by omega)))
      exact x_vret C (by rw [show k = n by omega]) rfl dX8_goesOn_18
    | succ j ih =>
      intro k hk
      refine x_iload_n C 3 dX8_goesOn_2 rfl rfl ?_
      refine x_iload_n C 2 dX8_goesOn_3 rfl rfl ?_
      refine x_icmp_ge C (tgt := 18) dX8_goesOn_4 (by decide) (fun h2 => absurd (nI_lt (a := k) (b := n) (by omega) (by omega)) h2) (fun h2 => ?_)
      refine x_aload_n C 0 dX8_goesOn_7 rfl rfl ?_
      refine x_aload_n C 1 dX8_goesOn_8 rfl rfl ?_
      refine x_callVv C (As := [.ref (xad E (72 + b))]) (rest := []) (cM_goesBy l E σ τ b hb (stepsG g k) (gI_steps hg k) (gT_steps hT k (by omega)).1 hlv) kv_X8_108 (x_recv C (Nat.le_of_ble_eq_true rfl) xd_81 rfl) ⟨Nat.le_of_ble_eq_true rfl, Nat.le_of_ble_eq_true rfl⟩ rfl rfl (Nat.le_of_ble_eq_true rfl) dX8_goesOn_9 ?_
      refine x_iinc C (v := nI (k + 1)) (lv1 := [(3, .int (nI (k + 1))), (0, .ref (xad E (81))), (1, .ref (xad E (72 + b))), (2, .int (nI n))]) 3 dX8_goesOn_12 rfl (nI_add k 1) (by decide) rfl ?_
      refine x_goto2 C (tgt := 2) dX8_goesOn_15 (by decide) ?_
      refine WM.keep [1, 2, 3, 0] (lv' := [(0, .ref (xad E (81))), (1, .ref (xad E (72 + b))), (2, .int (nI n)), (3, .int (nI (k + 1)))]) rfl ?_
      exact WM.to (ih (k + 1) (by omega)) rfl rfl rfl rfl
  refine WM.keep [1, 2, 3, 0] rfl ?_
  exact WM.to (loop (n) 0 (by omega)) rfl rfl rfl rfl
