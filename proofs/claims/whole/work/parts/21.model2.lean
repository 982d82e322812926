/-! notes: the end of a tick -/
theorem tI_0 : (0 : Int32).toInt = 0 := by decide
theorem nI_get {x : Int32} (h : 0 ≤ x.toInt) : ∃ t : Nat, t < 2 ^ 31 ∧ x = nI t := by
  obtain ⟨j, hj, e⟩ := nI_is h (n := 2147483647) (i32_cases x).2 (by decide)
  exact ⟨j, by omega, e⟩
theorem t40 {x : Int32} {t : Nat} (e : x = nI t) (ht : t < 2 ^ 31) (h : x < 40) : t < 40 := by
  rw [e] at h
  exact (nI_ltI ht (by decide)).mp (show nI t < nI 40 from h)
theorem note_tn {g : Nat → Int32} (h : ¬ g 10 < 40) : upd (upd g 10 (g 10 + 1)) 11 0 = logG g := by
  unfold logG logT
  rw [if_neg h]
theorem note_tp {g : Nat → Int32} {t : Nat} (et : g 10 = nI t) (ht : t < 2 ^ 31) (h : g 10 < 40) : upd (upd (upd (upd g (44 + 2 * t) (g 9)) (44 + 2 * t + 1) (g 11)) 10 (g 10 + 1)) 11 0 = logG g := by
  unfold logG logT
  rw [if_pos h, et, nI_clamp ht, show 44 + 2 * t + 1 = 45 + 2 * t by omega]
theorem q4 (g : Nat → Int32) : g 4 = (if turnsQ g then logG g else g) 4 := by
  split
  · exact (log_4 g).symm
  · rfl
theorem way_0 {g : Nat → Int32} {z : Int32} (e : z = g 4) (h : z = 0) : upd (upd g 11 (if g 11 < absG z then absG z else g 11)) 6 (g 6) = noteG g := by
  subst e
  unfold noteG
  rw [if_pos h]
theorem way_p {g : Nat → Int32} {z : Int32} (e : z = g 4) (h : ¬ z = 0) (h2 : 0 < z) : upd (upd g 11 (if g 11 < absG z then absG z else g 11)) 6 1 = noteG g := by
  subst e
  have hs : sgn (g 4) = 1 := by
    unfold sgn
    rw [if_neg (by rw [tI_lt] at h2 ⊢; omega), if_neg h]
  unfold noteG
  rw [if_neg h, hs]
theorem way_n {g : Nat → Int32} {z : Int32} (e : z = g 4) (h : ¬ z = 0) (h2 : ¬ 0 < z) : upd (upd g 11 (if g 11 < absG z then absG z else g 11)) 6 (-1) = noteG g := by
  subst e
  have hs : sgn (g 4) = -1 := by
    unfold sgn
    rw [if_pos (by rw [tI_lt] at h2 ⊢; rw [tI_eq] at h; omega)]
  unfold noteG
  rw [if_neg h, hs]
set_option maxHeartbeats 4000000 in
set_option maxRecDepth 100000 in
theorem cM_notes (l : Launch) (E : xE) (σ : Nat → Nat → Int32) (τ : Nat → Int64) (b : Nat) (hb : b = 10 ∨ b = 11 ∨ b = 12) (g : Nat → Int32) (hg : gI g) (h0 : 0 ≤ (g 10).toInt) : xMv l yX8_notes cX8_notes 3 0 0 E [.ref (xad E (72 + b))] (va_up σ b (g)) (τ) (va_up σ b (watchG g)) (τ) := by
  refine xMv_of (own := RX8) (by decide +kernel) rfl (Nat.le_of_ble_eq_true rfl) ?_
  intro zp ze zs zm za zb zh zc C
  refine WM.to (lv1 := [(0, .ref (xad E (72 + b)))]) (st1 := []) (σ1 := va_up σ b (g)) (τ1 := τ) ?_ rfl rfl rfl rfl
  obtain ⟨t, ht, et⟩ : ∃ t : Nat, t < 2 ^ 31 ∧ g 10 = nI t := nI_get h0
  refine x_aload_n C 0 dX8_notes_0 rfl rfl ?_
  refine x_iconst C (v := 4) dX8_notes_1 (by decide) ?_
  refine x_ald C (xm_lt hb) (xm_d hb) (v := g 4) (vp_in_nI (show 4 < 284 by omega) (by decide)) (by rw [(show (4 : Int32).toNatClampNeg = 4 from by decide), Nat.zero_add, Nat.one_mul]; exact (congrFun (va_up_self _ _ _) _)) dX8_notes_2 ?_
  refine x_istore_n C (lv1 := [(1, .int (g 4)), (0, .ref (xad E (72 + b)))]) dX8_notes_3 rfl (by decide) rfl ?_
  have J1 : WM zp l ze { frames := 0, cells := 0, slots := 0, locals := 0 } zs zm za zb zh zc 0 0 (MQ zb (va_Qv (fun _ : Unit => True) (fun _ t => xP E (va_up σ b (watchG g)) (τ) t.heap) (xA E)) za zs 0 0 (xA E)) E (xA E) 3 (va_up σ b (g)) (τ) 15 [(2, .int (absG (g 4))), (1, .int (g 4)), (0, .ref (xad E (72 + b)))] [] := by
    have J2 : WM zp l ze { frames := 0, cells := 0, slots := 0, locals := 0 } zs zm za zb zh zc 0 0 (MQ zb (va_Qv (fun _ : Unit => True) (fun _ t => xP E (va_up σ b (watchG g)) (τ) t.heap) (xA E)) za zs 0 0 (xA E)) E (xA E) 3 (va_up σ b (if turnsQ g then logG g else g)) (τ) 104 [(2, .int (absG (g 4))), (1, .int (g 4)), (0, .ref (xad E (72 + b)))] [] := by
      refine x_aload_n C 2 dX8_notes_104 rfl rfl ?_
      refine x_bipush C (v := 11) dX8_notes_105 (by decide) ?_
      refine x_iload_n C 0 dX8_notes_107 rfl rfl ?_
      refine x_aload_n C 2 dX8_notes_108 rfl rfl ?_
      refine x_bipush C (v := 11) dX8_notes_109 (by decide) ?_
      refine x_ald C (xm_lt hb) (xm_d hb) (v := (if turnsQ g then logG g else g) 11) (vp_in_nI (show 11 < 284 by omega) (by decide)) (by rw [(show (11 : Int32).toNatClampNeg = 11 from by decide), Nat.zero_add, Nat.one_mul]; exact (congrFun (va_up_self _ _ _) _)) dX8_notes_111 ?_
      refine x_icmp_le C (tgt := 119) dX8_notes_112 (by decide) (fun h1 => ?_) (fun h1 => ?_)
      · refine x_aload_n C 2 dX8_notes_119 rfl rfl ?_
        refine x_bipush C (v := 11) dX8_notes_120 (by decide) ?_
        refine x_ald C (xm_lt hb) (xm_d hb) (v := (if turnsQ g then logG g else g) 11) (vp_in_nI (show 11 < 284 by omega) (by decide)) (by rw [(show (11 : Int32).toNatClampNeg = 11 from by decide), Nat.zero_add, Nat.one_mul]; exact (congrFun (va_up_self _ _ _) _)) dX8_notes_122 ?_
        refine WM.topi (y := if (if turnsQ g then logG g else g) 11 < absG (g 4) then absG (g 4) else (if turnsQ g then logG g else g) 11) (by rw [if_neg h1]) ?_
        refine x_ast C (σ' := va_up σ b (upd (if turnsQ g then logG g else g) 11 (if (if turnsQ g then logG g else g) 11 < absG (g 4) then absG (g 4) else (if turnsQ g then logG g else g) 11))) (xm_lt hb) (xm_d hb) (by decide) (vp_in_nI (show 11 < 284 by omega) (by decide)) (by rw [(show (11 : Int32).toNatClampNeg = 11 from by decide), Nat.zero_add, Nat.one_mul]; exact (u2_bank _ _ _ _ _)) dX8_notes_123 ?_
        refine x_aload_n C 2 dX8_notes_124 rfl rfl ?_
        refine x_bipush C (v := 6) dX8_notes_125 (by decide) ?_
        refine x_iload_n C 1 dX8_notes_127 rfl rfl ?_
        refine x_if_ne C (tgt := 138) dX8_notes_128 (by decide) (fun h2 => ?_) (fun h2 => ?_)
        · refine x_iload_n C 1 dX8_notes_138 rfl rfl ?_
          refine x_if_le C (tgt := 146) dX8_notes_139 (by decide) (fun h3 => ?_) (fun h3 => ?_)
          · refine x_iconst C (v := -1) dX8_notes_146 (by decide) ?_
            refine x_ast C (σ' := va_up σ b (upd (upd (if turnsQ g then logG g else g) 11 (if (if turnsQ g then logG g else g) 11 < absG (g 4) then absG (g 4) else (if turnsQ g then logG g else g) 11)) 6 ((-1)))) (xm_lt hb) (xm_d hb) (by decide) (vp_in_nI (show 6 < 284 by omega) (by decide)) (by rw [(show (6 : Int32).toNatClampNeg = 6 from by decide), Nat.zero_add, Nat.one_mul]; exact (u2_bank _ _ _ _ _)) dX8_notes_147 ?_
            exact x_vret C (congrArg (va_up _ _) (way_n (q4 g) h2 h3)) rfl dX8_notes_148
          · refine x_iconst C (v := 1) dX8_notes_142 (by decide) ?_
            refine x_goto2 C (tgt := 147) dX8_notes_143 (by decide) ?_
            refine x_ast C (σ' := va_up σ b (upd (upd (if turnsQ g then logG g else g) 11 (if (if turnsQ g then logG g else g) 11 < absG (g 4) then absG (g 4) else (if turnsQ g then logG g else g) 11)) 6 (1))) (xm_lt hb) (xm_d hb) (by decide) (vp_in_nI (show 6 < 284 by omega) (by decide)) (by rw [(show (6 : Int32).toNatClampNeg = 6 from by decide), Nat.zero_add, Nat.one_mul]; exact (u2_bank _ _ _ _ _)) dX8_notes_147 ?_
            exact x_vret C (congrArg (va_up _ _) (way_p (q4 g) h2 h3)) rfl dX8_notes_148
        · refine x_aload_n C 2 dX8_notes_131 rfl rfl ?_
          refine x_bipush C (v := 6) dX8_notes_132 (by decide) ?_
          refine x_ald C (xm_lt hb) (xm_d hb) (v := (if turnsQ g then logG g else g) 6) (vp_in_nI (show 6 < 284 by omega) (by decide)) (by rw [(show (6 : Int32).toNatClampNeg = 6 from by decide), Nat.zero_add, Nat.one_mul]; exact (Eq.trans (congrFun (va_up_self _ _ _) _) (upd_ne (j := 6) (k := 11) (by decide)))) dX8_notes_134 ?_
          refine x_goto2 C (tgt := 147) dX8_notes_135 (by decide) ?_
          refine x_ast C (σ' := va_up σ b (upd (upd (if turnsQ g then logG g else g) 11 (if (if turnsQ g then logG g else g) 11 < absG (g 4) then absG (g 4) else (if turnsQ g then logG g else g) 11)) 6 ((if turnsQ g then logG g else g) 6))) (xm_lt hb) (xm_d hb) (by decide) (vp_in_nI (show 6 < 284 by omega) (by decide)) (by rw [(show (6 : Int32).toNatClampNeg = 6 from by decide), Nat.zero_add, Nat.one_mul]; exact (u2_bank _ _ _ _ _)) dX8_notes_147 ?_
          exact x_vret C (congrArg (va_up _ _) (way_0 (q4 g) h2)) rfl dX8_notes_148
      · refine x_iload_n C 0 dX8_notes_115 rfl rfl ?_
        refine x_goto2 C (tgt := 123) dX8_notes_116 (by decide) ?_
        refine WM.topi (y := if (if turnsQ g then logG g else g) 11 < absG (g 4) then absG (g 4) else (if turnsQ g then logG g else g) 11) (by rw [if_pos h1]) ?_
        refine x_ast C (σ' := va_up σ b (upd (if turnsQ g then logG g else g) 11 (if (if turnsQ g then logG g else g) 11 < absG (g 4) then absG (g 4) else (if turnsQ g then logG g else g) 11))) (xm_lt hb) (xm_d hb) (by decide) (vp_in_nI (show 11 < 284 by omega) (by decide)) (by rw [(show (11 : Int32).toNatClampNeg = 11 from by decide), Nat.zero_add, Nat.one_mul]; exact (u2_bank _ _ _ _ _)) dX8_notes_123 ?_
        refine x_aload_n C 2 dX8_notes_124 rfl rfl ?_
        refine x_bipush C (v := 6) dX8_notes_125 (by decide) ?_
        refine x_iload_n C 1 dX8_notes_127 rfl rfl ?_
        refine x_if_ne C (tgt := 138) dX8_notes_128 (by decide) (fun h4 => ?_) (fun h4 => ?_)
        · refine x_iload_n C 1 dX8_notes_138 rfl rfl ?_
          refine x_if_le C (tgt := 146) dX8_notes_139 (by decide) (fun h5 => ?_) (fun h5 => ?_)
          · refine x_iconst C (v := -1) dX8_notes_146 (by decide) ?_
            refine x_ast C (σ' := va_up σ b (upd (upd (if turnsQ g then logG g else g) 11 (if (if turnsQ g then logG g else g) 11 < absG (g 4) then absG (g 4) else (if turnsQ g then logG g else g) 11)) 6 ((-1)))) (xm_lt hb) (xm_d hb) (by decide) (vp_in_nI (show 6 < 284 by omega) (by decide)) (by rw [(show (6 : Int32).toNatClampNeg = 6 from by decide), Nat.zero_add, Nat.one_mul]; exact (u2_bank _ _ _ _ _)) dX8_notes_147 ?_
            exact x_vret C (congrArg (va_up _ _) (way_n (q4 g) h4 h5)) rfl dX8_notes_148
          · refine x_iconst C (v := 1) dX8_notes_142 (by decide) ?_
            refine x_goto2 C (tgt := 147) dX8_notes_143 (by decide) ?_
            refine x_ast C (σ' := va_up σ b (upd (upd (if turnsQ g then logG g else g) 11 (if (if turnsQ g then logG g else g) 11 < absG (g 4) then absG (g 4) else (if turnsQ g then logG g else g) 11)) 6 (1))) (xm_lt hb) (xm_d hb) (by decide) (vp_in_nI (show 6 < 284 by omega) (by decide)) (by rw [(show (6 : Int32).toNatClampNeg = 6 from by decide), Nat.zero_add, Nat.one_mul]; exact (u2_bank _ _ _ _ _)) dX8_notes_147 ?_
            exact x_vret C (congrArg (va_up _ _) (way_p (q4 g) h4 h5)) rfl dX8_notes_148
        · refine x_aload_n C 2 dX8_notes_131 rfl rfl ?_
          refine x_bipush C (v := 6) dX8_notes_132 (by decide) ?_
          refine x_ald C (xm_lt hb) (xm_d hb) (v := (if turnsQ g then logG g else g) 6) (vp_in_nI (show 6 < 284 by omega) (by decide)) (by rw [(show (6 : Int32).toNatClampNeg = 6 from by decide), Nat.zero_add, Nat.one_mul]; exact (Eq.trans (congrFun (va_up_self _ _ _) _) (upd_ne (j := 6) (k := 11) (by decide)))) dX8_notes_134 ?_
          refine x_goto2 C (tgt := 147) dX8_notes_135 (by decide) ?_
          refine x_ast C (σ' := va_up σ b (upd (upd (if turnsQ g then logG g else g) 11 (if (if turnsQ g then logG g else g) 11 < absG (g 4) then absG (g 4) else (if turnsQ g then logG g else g) 11)) 6 ((if turnsQ g then logG g else g) 6))) (xm_lt hb) (xm_d hb) (by decide) (vp_in_nI (show 6 < 284 by omega) (by decide)) (by rw [(show (6 : Int32).toNatClampNeg = 6 from by decide), Nat.zero_add, Nat.one_mul]; exact (u2_bank _ _ _ _ _)) dX8_notes_147 ?_
          exact x_vret C (congrArg (va_up _ _) (way_0 (q4 g) h4)) rfl dX8_notes_148
    refine x_iload_n C 1 dX8_notes_15 rfl rfl ?_
    refine x_if_eq C (tgt := 104) dX8_notes_16 (by decide) (fun h6 => ?_) (fun h6 => ?_)
    · exact WM.to J2 (congrArg (va_up _ _) (if_neg (by intro q; simp only [turnsQ, tI_lt, tI_eq, tI_0] at q h6; omega)).symm) rfl rfl rfl
    · refine x_aload_n C 2 dX8_notes_19 rfl rfl ?_
      refine x_bipush C (v := 6) dX8_notes_20 (by decide) ?_
      refine x_ald C (xm_lt hb) (xm_d hb) (v := g 6) (vp_in_nI (show 6 < 284 by omega) (by decide)) (by rw [(show (6 : Int32).toNatClampNeg = 6 from by decide), Nat.zero_add, Nat.one_mul]; exact (congrFun (va_up_self _ _ _) _)) dX8_notes_22 ?_
      refine x_if_eq C (tgt := 104) dX8_notes_23 (by decide) (fun h7 => ?_) (fun h7 => ?_)
      · exact WM.to J2 (congrArg (va_up _ _) (if_neg (by intro q; simp only [turnsQ, tI_lt, tI_eq, tI_0] at q h6 h7; omega)).symm) rfl rfl rfl
      · refine x_iload_n C 1 dX8_notes_26 rfl rfl ?_
        refine x_if_le C (tgt := 34) dX8_notes_27 (by decide) (fun h8 => ?_) (fun h8 => ?_)
        · refine x_iconst C (v := 0) dX8_notes_34 (by decide) ?_
          refine x_aload_n C 2 dX8_notes_35 rfl rfl ?_
          refine x_bipush C (v := 6) dX8_notes_36 (by decide) ?_
          refine x_ald C (xm_lt hb) (xm_d hb) (v := g 6) (vp_in_nI (show 6 < 284 by omega) (by decide)) (by rw [(show (6 : Int32).toNatClampNeg = 6 from by decide), Nat.zero_add, Nat.one_mul]; exact (congrFun (va_up_self _ _ _) _)) dX8_notes_38 ?_
          refine x_if_le C (tgt := 46) dX8_notes_39 (by decide) (fun h9 => ?_) (fun h9 => ?_)
          · refine x_iconst C (v := 0) dX8_notes_46 (by decide) ?_
            refine x_icmp_eq C (tgt := 104) dX8_notes_47 (by decide) (fun h10 => ?_) (fun h10 => absurd h10 (by decide))
            exact WM.to J2 (congrArg (va_up _ _) (if_neg (by intro q; simp only [turnsQ, tI_lt, tI_eq, tI_0] at q h6 h7 h8 h9; omega)).symm) rfl rfl rfl
          · refine x_iconst C (v := 1) dX8_notes_42 (by decide) ?_
            refine x_goto2 C (tgt := 47) dX8_notes_43 (by decide) ?_
            refine x_icmp_eq C (tgt := 104) dX8_notes_47 (by decide) (fun h11 => absurd h11 (by decide)) (fun h11 => ?_)
            refine x_aload_n C 2 dX8_notes_50 rfl rfl ?_
            refine x_bipush C (v := 10) dX8_notes_51 (by decide) ?_
            refine x_ald C (xm_lt hb) (xm_d hb) (v := g 10) (vp_in_nI (show 10 < 284 by omega) (by decide)) (by rw [(show (10 : Int32).toNatClampNeg = 10 from by decide), Nat.zero_add, Nat.one_mul]; exact (congrFun (va_up_self _ _ _) _)) dX8_notes_53 ?_
            refine x_bipush C (v := 40) dX8_notes_54 (by decide) ?_
            refine x_icmp_ge C (tgt := 91) dX8_notes_56 (by decide) (fun h12 => ?_) (fun h12 => ?_)
            · refine x_aload_n C 2 dX8_notes_91 rfl rfl ?_
              refine x_bipush C (v := 10) dX8_notes_92 (by decide) ?_
              refine x_dup2 C dX8_notes_94 rfl rfl ?_
              refine x_ald C (xm_lt hb) (xm_d hb) (v := g 10) (vp_in_nI (show 10 < 284 by omega) (by decide)) (by rw [(show (10 : Int32).toNatClampNeg = 10 from by decide), Nat.zero_add, Nat.one_mul]; exact (congrFun (va_up_self _ _ _) _)) dX8_notes_95 ?_
              refine x_iconst C (v := 1) dX8_notes_96 (by decide) ?_
              refine x_iadd C dX8_notes_97 ?_
              refine x_ast C (σ' := va_up σ b (upd g 10 ((g 10) + 1))) (xm_lt hb) (xm_d hb) (by decide) (vp_in_nI (show 10 < 284 by omega) (by decide)) (by rw [(show (10 : Int32).toNatClampNeg = 10 from by decide), Nat.zero_add, Nat.one_mul]; exact (u2_bank _ _ _ _ _)) dX8_notes_98 ?_
              refine x_aload_n C 2 dX8_notes_99 rfl rfl ?_
              refine x_bipush C (v := 11) dX8_notes_100 (by decide) ?_
              refine x_iconst C (v := 0) dX8_notes_102 (by decide) ?_
              refine x_ast C (σ' := va_up σ b (upd (upd g 10 ((g 10) + 1)) 11 (0))) (xm_lt hb) (xm_d hb) (by decide) (vp_in_nI (show 11 < 284 by omega) (by decide)) (by rw [(show (11 : Int32).toNatClampNeg = 11 from by decide), Nat.zero_add, Nat.one_mul]; exact (u2_bank _ _ _ _ _)) dX8_notes_103 ?_
              exact WM.to J2 (Eq.trans (congrArg (va_up _ _) (note_tn h12)) (congrArg (va_up _ _) (if_pos (by simp only [turnsQ, tI_lt, tI_eq, tI_0] at h6 h7 h8 h9 ⊢; omega)).symm)) rfl rfl rfl
            · have ht40 := t40 et ht h12
              refine x_aload_n C 2 dX8_notes_59 rfl rfl ?_
              refine x_bipush C (v := 44) dX8_notes_60 (by decide) ?_
              refine x_iconst C (v := 2) dX8_notes_62 (by decide) ?_
              refine x_aload_n C 2 dX8_notes_63 rfl rfl ?_
              refine x_bipush C (v := 10) dX8_notes_64 (by decide) ?_
              refine x_ald C (xm_lt hb) (xm_d hb) (v := nI t) (vp_in_nI (show 10 < 284 by omega) (by decide)) (by rw [show (0 + 1 * (10 : Int32).toNatClampNeg) = 10 from by decide, va_up_self]; exact et) dX8_notes_66 ?_
              refine x_imul C dX8_notes_67 ?_
              refine WM.topi (y := nI (2 * t)) (pk_mul 2 t) ?_
              refine x_iadd C dX8_notes_68 ?_
              refine WM.topi (y := nI (44 + (2 * t))) (nI_add 44 (2 * t)) ?_
              refine x_aload_n C 2 dX8_notes_69 rfl rfl ?_
              refine x_bipush C (v := 9) dX8_notes_70 (by decide) ?_
              refine x_ald C (xm_lt hb) (xm_d hb) (v := g 9) (vp_in_nI (show 9 < 284 by omega) (by decide)) (by rw [(show (9 : Int32).toNatClampNeg = 9 from by decide), Nat.zero_add, Nat.one_mul]; exact (congrFun (va_up_self _ _ _) _)) dX8_notes_72 ?_
              refine x_ast C (σ' := va_up σ b (upd g (44 + (2 * t)) (g 9))) (xm_lt hb) (xm_d hb) (by decide) (vp_in_nI (show 44 + (2 * t) < 284 by omega) (by decide)) (by rw [(nI_clamp (show 44 + (2 * t) < 2 ^ 31 by omega)), Nat.zero_add, Nat.one_mul]; exact (u2_bank _ _ _ _ _)) dX8_notes_73 ?_
              refine x_aload_n C 2 dX8_notes_74 rfl rfl ?_
              refine x_bipush C (v := 44) dX8_notes_75 (by decide) ?_
              refine x_iconst C (v := 2) dX8_notes_77 (by decide) ?_
              refine x_aload_n C 2 dX8_notes_78 rfl rfl ?_
              refine x_bipush C (v := 10) dX8_notes_79 (by decide) ?_
              refine x_ald C (xm_lt hb) (xm_d hb) (v := nI t) (vp_in_nI (show 10 < 284 by omega) (by decide)) (by rw [show (0 + 1 * (10 : Int32).toNatClampNeg) = 10 from by decide, va_up_self, upd_ne (by omega)]; exact et) dX8_notes_81 ?_
              refine x_imul C dX8_notes_82 ?_
              refine WM.topi (y := nI (2 * t)) (pk_mul 2 t) ?_
              refine x_iadd C dX8_notes_83 ?_
              refine WM.topi (y := nI (44 + (2 * t))) (nI_add 44 (2 * t)) ?_
              refine x_iconst C (v := 1) dX8_notes_84 (by decide) ?_
              refine x_iadd C dX8_notes_85 ?_
              refine WM.topi (y := nI (44 + (2 * t) + 1)) (nI_add (44 + (2 * t)) 1) ?_
              refine x_aload_n C 2 dX8_notes_86 rfl rfl ?_
              refine x_bipush C (v := 11) dX8_notes_87 (by decide) ?_
              refine x_ald C (xm_lt hb) (xm_d hb) (v := g 11) (vp_in_nI (show 11 < 284 by omega) (by decide)) (by rw [(show (11 : Int32).toNatClampNeg = 11 from by decide), Nat.zero_add, Nat.one_mul]; exact (Eq.trans (congrFun (va_up_self _ _ _) _) (upd_ne (j := 11) (k := 44 + (2 * t)) (by omega)))) dX8_notes_89 ?_
              refine x_ast C (σ' := va_up σ b (upd (upd g (44 + (2 * t)) (g 9)) (44 + (2 * t) + 1) (g 11))) (xm_lt hb) (xm_d hb) (by decide) (vp_in_nI (show 44 + (2 * t) + 1 < 284 by omega) (by decide)) (by rw [(nI_clamp (show 44 + (2 * t) + 1 < 2 ^ 31 by omega)), Nat.zero_add, Nat.one_mul]; exact (u2_bank _ _ _ _ _)) dX8_notes_90 ?_
              refine x_aload_n C 2 dX8_notes_91 rfl rfl ?_
              refine x_bipush C (v := 10) dX8_notes_92 (by decide) ?_
              refine x_dup2 C dX8_notes_94 rfl rfl ?_
              refine x_ald C (xm_lt hb) (xm_d hb) (v := g 10) (vp_in_nI (show 10 < 284 by omega) (by decide)) (by rw [(show (10 : Int32).toNatClampNeg = 10 from by decide), Nat.zero_add, Nat.one_mul]; exact (Eq.trans (congrFun (va_up_self _ _ _) _) (Eq.trans (upd_ne (j := 10) (k := 44 + (2 * t) + 1) (by omega)) (upd_ne (j := 10) (k := 44 + (2 * t)) (by omega))))) dX8_notes_95 ?_
              refine x_iconst C (v := 1) dX8_notes_96 (by decide) ?_
              refine x_iadd C dX8_notes_97 ?_
              refine x_ast C (σ' := va_up σ b (upd (upd (upd g (44 + (2 * t)) (g 9)) (44 + (2 * t) + 1) (g 11)) 10 ((g 10) + 1))) (xm_lt hb) (xm_d hb) (by decide) (vp_in_nI (show 10 < 284 by omega) (by decide)) (by rw [(show (10 : Int32).toNatClampNeg = 10 from by decide), Nat.zero_add, Nat.one_mul]; exact (u2_bank _ _ _ _ _)) dX8_notes_98 ?_
              refine x_aload_n C 2 dX8_notes_99 rfl rfl ?_
              refine x_bipush C (v := 11) dX8_notes_100 (by decide) ?_
              refine x_iconst C (v := 0) dX8_notes_102 (by decide) ?_
              refine x_ast C (σ' := va_up σ b (upd (upd (upd (upd g (44 + (2 * t)) (g 9)) (44 + (2 * t) + 1) (g 11)) 10 ((g 10) + 1)) 11 (0))) (xm_lt hb) (xm_d hb) (by decide) (vp_in_nI (show 11 < 284 by omega) (by decide)) (by rw [(show (11 : Int32).toNatClampNeg = 11 from by decide), Nat.zero_add, Nat.one_mul]; exact (u2_bank _ _ _ _ _)) dX8_notes_103 ?_
              exact WM.to J2 (Eq.trans (congrArg (va_up _ _) (note_tp et ht h12)) (congrArg (va_up _ _) (if_pos (by simp only [turnsQ, tI_lt, tI_eq, tI_0] at h6 h7 h8 h9 ⊢; omega)).symm)) rfl rfl rfl
        · refine x_iconst C (v := 1) dX8_notes_30 (by decide) ?_
          refine x_goto2 C (tgt := 35) dX8_notes_31 (by decide) ?_
          refine x_aload_n C 2 dX8_notes_35 rfl rfl ?_
          refine x_bipush C (v := 6) dX8_notes_36 (by decide) ?_
          refine x_ald C (xm_lt hb) (xm_d hb) (v := g 6) (vp_in_nI (show 6 < 284 by omega) (by decide)) (by rw [(show (6 : Int32).toNatClampNeg = 6 from by decide), Nat.zero_add, Nat.one_mul]; exact (congrFun (va_up_self _ _ _) _)) dX8_notes_38 ?_
          refine x_if_le C (tgt := 46) dX8_notes_39 (by decide) (fun h13 => ?_) (fun h13 => ?_)
          · refine x_iconst C (v := 0) dX8_notes_46 (by decide) ?_
            refine x_icmp_eq C (tgt := 104) dX8_notes_47 (by decide) (fun h14 => absurd h14 (by decide)) (fun h14 => ?_)
            refine x_aload_n C 2 dX8_notes_50 rfl rfl ?_
            refine x_bipush C (v := 10) dX8_notes_51 (by decide) ?_
            refine x_ald C (xm_lt hb) (xm_d hb) (v := g 10) (vp_in_nI (show 10 < 284 by omega) (by decide)) (by rw [(show (10 : Int32).toNatClampNeg = 10 from by decide), Nat.zero_add, Nat.one_mul]; exact (congrFun (va_up_self _ _ _) _)) dX8_notes_53 ?_
            refine x_bipush C (v := 40) dX8_notes_54 (by decide) ?_
            refine x_icmp_ge C (tgt := 91) dX8_notes_56 (by decide) (fun h15 => ?_) (fun h15 => ?_)
            · refine x_aload_n C 2 dX8_notes_91 rfl rfl ?_
              refine x_bipush C (v := 10) dX8_notes_92 (by decide) ?_
              refine x_dup2 C dX8_notes_94 rfl rfl ?_
              refine x_ald C (xm_lt hb) (xm_d hb) (v := g 10) (vp_in_nI (show 10 < 284 by omega) (by decide)) (by rw [(show (10 : Int32).toNatClampNeg = 10 from by decide), Nat.zero_add, Nat.one_mul]; exact (congrFun (va_up_self _ _ _) _)) dX8_notes_95 ?_
              refine x_iconst C (v := 1) dX8_notes_96 (by decide) ?_
              refine x_iadd C dX8_notes_97 ?_
              refine x_ast C (σ' := va_up σ b (upd g 10 ((g 10) + 1))) (xm_lt hb) (xm_d hb) (by decide) (vp_in_nI (show 10 < 284 by omega) (by decide)) (by rw [(show (10 : Int32).toNatClampNeg = 10 from by decide), Nat.zero_add, Nat.one_mul]; exact (u2_bank _ _ _ _ _)) dX8_notes_98 ?_
              refine x_aload_n C 2 dX8_notes_99 rfl rfl ?_
              refine x_bipush C (v := 11) dX8_notes_100 (by decide) ?_
              refine x_iconst C (v := 0) dX8_notes_102 (by decide) ?_
              refine x_ast C (σ' := va_up σ b (upd (upd g 10 ((g 10) + 1)) 11 (0))) (xm_lt hb) (xm_d hb) (by decide) (vp_in_nI (show 11 < 284 by omega) (by decide)) (by rw [(show (11 : Int32).toNatClampNeg = 11 from by decide), Nat.zero_add, Nat.one_mul]; exact (u2_bank _ _ _ _ _)) dX8_notes_103 ?_
              exact WM.to J2 (Eq.trans (congrArg (va_up _ _) (note_tn h15)) (congrArg (va_up _ _) (if_pos (by simp only [turnsQ, tI_lt, tI_eq, tI_0] at h6 h7 h8 h13 ⊢; omega)).symm)) rfl rfl rfl
            · have ht40 := t40 et ht h15
              refine x_aload_n C 2 dX8_notes_59 rfl rfl ?_
              refine x_bipush C (v := 44) dX8_notes_60 (by decide) ?_
              refine x_iconst C (v := 2) dX8_notes_62 (by decide) ?_
              refine x_aload_n C 2 dX8_notes_63 rfl rfl ?_
              refine x_bipush C (v := 10) dX8_notes_64 (by decide) ?_
              refine x_ald C (xm_lt hb) (xm_d hb) (v := nI t) (vp_in_nI (show 10 < 284 by omega) (by decide)) (by rw [show (0 + 1 * (10 : Int32).toNatClampNeg) = 10 from by decide, va_up_self]; exact et) dX8_notes_66 ?_
              refine x_imul C dX8_notes_67 ?_
              refine WM.topi (y := nI (2 * t)) (pk_mul 2 t) ?_
              refine x_iadd C dX8_notes_68 ?_
              refine WM.topi (y := nI (44 + (2 * t))) (nI_add 44 (2 * t)) ?_
              refine x_aload_n C 2 dX8_notes_69 rfl rfl ?_
              refine x_bipush C (v := 9) dX8_notes_70 (by decide) ?_
              refine x_ald C (xm_lt hb) (xm_d hb) (v := g 9) (vp_in_nI (show 9 < 284 by omega) (by decide)) (by rw [(show (9 : Int32).toNatClampNeg = 9 from by decide), Nat.zero_add, Nat.one_mul]; exact (congrFun (va_up_self _ _ _) _)) dX8_notes_72 ?_
              refine x_ast C (σ' := va_up σ b (upd g (44 + (2 * t)) (g 9))) (xm_lt hb) (xm_d hb) (by decide) (vp_in_nI (show 44 + (2 * t) < 284 by omega) (by decide)) (by rw [(nI_clamp (show 44 + (2 * t) < 2 ^ 31 by omega)), Nat.zero_add, Nat.one_mul]; exact (u2_bank _ _ _ _ _)) dX8_notes_73 ?_
              refine x_aload_n C 2 dX8_notes_74 rfl rfl ?_
              refine x_bipush C (v := 44) dX8_notes_75 (by decide) ?_
              refine x_iconst C (v := 2) dX8_notes_77 (by decide) ?_
              refine x_aload_n C 2 dX8_notes_78 rfl rfl ?_
              refine x_bipush C (v := 10) dX8_notes_79 (by decide) ?_
              refine x_ald C (xm_lt hb) (xm_d hb) (v := nI t) (vp_in_nI (show 10 < 284 by omega) (by decide)) (by rw [show (0 + 1 * (10 : Int32).toNatClampNeg) = 10 from by decide, va_up_self, upd_ne (by omega)]; exact et) dX8_notes_81 ?_
              refine x_imul C dX8_notes_82 ?_
              refine WM.topi (y := nI (2 * t)) (pk_mul 2 t) ?_
              refine x_iadd C dX8_notes_83 ?_
              refine WM.topi (y := nI (44 + (2 * t))) (nI_add 44 (2 * t)) ?_
              refine x_iconst C (v := 1) dX8_notes_84 (by decide) ?_
              refine x_iadd C dX8_notes_85 ?_
              refine WM.topi (y := nI (44 + (2 * t) + 1)) (nI_add (44 + (2 * t)) 1) ?_
              refine x_aload_n C 2 dX8_notes_86 rfl rfl ?_
              refine x_bipush C (v := 11) dX8_notes_87 (by decide) ?_
              refine x_ald C (xm_lt hb) (xm_d hb) (v := g 11) (vp_in_nI (show 11 < 284 by omega) (by decide)) (by rw [(show (11 : Int32).toNatClampNeg = 11 from by decide), Nat.zero_add, Nat.one_mul]; exact (Eq.trans (congrFun (va_up_self _ _ _) _) (upd_ne (j := 11) (k := 44 + (2 * t)) (by omega)))) dX8_notes_89 ?_
              refine x_ast C (σ' := va_up σ b (upd (upd g (44 + (2 * t)) (g 9)) (44 + (2 * t) + 1) (g 11))) (xm_lt hb) (xm_d hb) (by decide) (vp_in_nI (show 44 + (2 * t) + 1 < 284 by omega) (by decide)) (by rw [(nI_clamp (show 44 + (2 * t) + 1 < 2 ^ 31 by omega)), Nat.zero_add, Nat.one_mul]; exact (u2_bank _ _ _ _ _)) dX8_notes_90 ?_
              refine x_aload_n C 2 dX8_notes_91 rfl rfl ?_
              refine x_bipush C (v := 10) dX8_notes_92 (by decide) ?_
              refine x_dup2 C dX8_notes_94 rfl rfl ?_
              refine x_ald C (xm_lt hb) (xm_d hb) (v := g 10) (vp_in_nI (show 10 < 284 by omega) (by decide)) (by rw [(show (10 : Int32).toNatClampNeg = 10 from by decide), Nat.zero_add, Nat.one_mul]; exact (Eq.trans (congrFun (va_up_self _ _ _) _) (Eq.trans (upd_ne (j := 10) (k := 44 + (2 * t) + 1) (by omega)) (upd_ne (j := 10) (k := 44 + (2 * t)) (by omega))))) dX8_notes_95 ?_
              refine x_iconst C (v := 1) dX8_notes_96 (by decide) ?_
              refine x_iadd C dX8_notes_97 ?_
              refine x_ast C (σ' := va_up σ b (upd (upd (upd g (44 + (2 * t)) (g 9)) (44 + (2 * t) + 1) (g 11)) 10 ((g 10) + 1))) (xm_lt hb) (xm_d hb) (by decide) (vp_in_nI (show 10 < 284 by omega) (by decide)) (by rw [(show (10 : Int32).toNatClampNeg = 10 from by decide), Nat.zero_add, Nat.one_mul]; exact (u2_bank _ _ _ _ _)) dX8_notes_98 ?_
              refine x_aload_n C 2 dX8_notes_99 rfl rfl ?_
              refine x_bipush C (v := 11) dX8_notes_100 (by decide) ?_
              refine x_iconst C (v := 0) dX8_notes_102 (by decide) ?_
              refine x_ast C (σ' := va_up σ b (upd (upd (upd (upd g (44 + (2 * t)) (g 9)) (44 + (2 * t) + 1) (g 11)) 10 ((g 10) + 1)) 11 (0))) (xm_lt hb) (xm_d hb) (by decide) (vp_in_nI (show 11 < 284 by omega) (by decide)) (by rw [(show (11 : Int32).toNatClampNeg = 11 from by decide), Nat.zero_add, Nat.one_mul]; exact (u2_bank _ _ _ _ _)) dX8_notes_103 ?_
              exact WM.to J2 (Eq.trans (congrArg (va_up _ _) (note_tp et ht h15)) (congrArg (va_up _ _) (if_pos (by simp only [turnsQ, tI_lt, tI_eq, tI_0] at h6 h7 h8 h13 ⊢; omega)).symm)) rfl rfl rfl
          · refine x_iconst C (v := 1) dX8_notes_42 (by decide) ?_
            refine x_goto2 C (tgt := 47) dX8_notes_43 (by decide) ?_
            refine x_icmp_eq C (tgt := 104) dX8_notes_47 (by decide) (fun h16 => ?_) (fun h16 => absurd h16 (by decide))
            exact WM.to J2 (congrArg (va_up _ _) (if_neg (by intro q; simp only [turnsQ, tI_lt, tI_eq, tI_0] at q h6 h7 h8 h13; omega)).symm) rfl rfl rfl
  refine x_iload_n C 0 dX8_notes_4 rfl rfl ?_
  refine x_if_ge C (tgt := 13) dX8_notes_5 (by decide) (fun h17 => ?_) (fun h17 => ?_)
  · refine x_iload_n C 0 dX8_notes_13 rfl rfl ?_
    refine WM.topi (y := absG (g 4)) (by unfold absG; rw [if_neg h17]) ?_
    refine x_istore_n C (lv1 := [(2, .int (absG (g 4))), (1, .int (g 4)), (0, .ref (xad E (72 + b)))]) dX8_notes_14 rfl (by decide) rfl ?_
    exact WM.to J1 rfl rfl rfl rfl
  · refine x_iload_n C 0 dX8_notes_8 rfl rfl ?_
    refine x_ineg C dX8_notes_9 ?_
    refine x_goto2 C (tgt := 14) dX8_notes_10 (by decide) ?_
    refine WM.topi (y := absG (g 4)) (by unfold absG; rw [if_pos h17]) ?_
    refine x_istore_n C (lv1 := [(2, .int (absG (g 4))), (1, .int (g 4)), (0, .ref (xad E (72 + b)))]) dX8_notes_14 rfl (by decide) rfl ?_
    exact WM.to J1 rfl rfl rfl rfl
