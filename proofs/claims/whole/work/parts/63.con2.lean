def prL (cI : ClassId) (a : Nat) (q : Nat → Nat) : va_W := (a, .inr (0, [.ref (q 0), .ref (q 1), .int 0])) :: (ysn (ysn ([] : va_W) ((q 0), .inl (cI, 12, .inl (fun _ => 0)))) ((q 1), .inl (cI, 12, .inl (fun _ => 0))))
set_option maxHeartbeats 4000000 in
set_option maxRecDepth 100000 in
theorem i_Pr (l : Launch) (D : va_G) (cI cP cS : ClassId) : yM l yX0_init cX0_init 1 1 12 2 24 D cI cP cS 0 [.null, .null, .int 0] [] (prL cI) := by
  refine yM_of (own := RX0) (by decide) rfl rfl (fun h0 => Nat.le_of_ble_eq_true rfl) ?_
  intro h0 p e s m args below meth c C hin2
  refine yW.to (ws' := (h0, .inr (0, [.null, .null, .int 0])) :: ([] : va_W)) ?_ rfl
  refine y_aload_n C 0 dX0_init_0 rfl rfl ?_
  refine y_obj C (xm 136 (by decide +kernel) (by decide +kernel)) dX0_init_1 ⟨Nat.le_of_ble_eq_true rfl, Nat.le_of_ble_eq_true rfl⟩ ?_
  refine y_aload_n C 0 dX0_init_4 rfl rfl ?_
  refine y_bipush C (v := 12) dX0_init_5 (by decide +kernel) ?_
  refine y_newa' C (N := 12) (by decide +kernel) (by decide +kernel) (Nat.le_of_ble_eq_true rfl) ⟨Nat.le_of_ble_eq_true rfl, Nat.le_of_ble_eq_true rfl⟩ dX0_init_7 (fun a1 => ?_)
  refine y_putF C hin2 (fs := [.null, .null, .int 0]) tyX0 xin_X0 tyX0_ok nmX0 rfl 0 (by decide) (xm 137 (by decide +kernel) (by decide +kernel)) rfl rfl (tyX0_ok 0 (by decide)) (v := .ref a1) rfl rfl (Nat.le_of_ble_eq_true rfl) dX0_init_9 ?_
  refine y_aload_n C 0 dX0_init_12 rfl rfl ?_
  refine y_bipush C (v := 12) dX0_init_13 (by decide +kernel) ?_
  refine y_newa' C (N := 12) (by decide +kernel) (by decide +kernel) (Nat.le_of_ble_eq_true rfl) ⟨Nat.le_of_ble_eq_true rfl, Nat.le_of_ble_eq_true rfl⟩ dX0_init_15 (fun a2 => ?_)
  refine y_putF C hin2 (fs := [.ref a1, .null, .int 0]) tyX0 xin_X0 tyX0_ok nmX0 rfl 1 (by decide) (xm 138 (by decide +kernel) (by decide +kernel)) rfl rfl (tyX0_ok 1 (by decide)) (v := .ref a2) rfl rfl (Nat.le_of_ble_eq_true rfl) dX0_init_17 ?_
  exact y_ret C (res := prL cI) (fun i => ([a1, a2] : List Nat).getD i 0) rfl ⟨Nat.le_of_ble_eq_true rfl, Nat.le_of_ble_eq_true rfl⟩ dX0_init_20
def shL (cI : ClassId) (a : Nat) (q : Nat → Nat) : va_W := (a, .inr (1, [.ref (q 0), .int 0, .int 0])) :: (ysn ([] : va_W) ((q 0), .inl (cI, 40, .inl (fun _ => 0))))
set_option maxHeartbeats 4000000 in
set_option maxRecDepth 100000 in
theorem i_Sh (l : Launch) (D : va_G) (cI cP cS : ClassId) : yM l yX1_init cX1_init 1 1 12 1 40 D cI cP cS 1 [.null, .int 0, .int 0] [] (shL cI) := by
  refine yM_of (own := RX1) (by decide) rfl rfl (fun h0 => Nat.le_of_ble_eq_true rfl) ?_
  intro h0 p e s m args below meth c C hin2
  refine yW.to (ws' := (h0, .inr (1, [.null, .int 0, .int 0])) :: ([] : va_W)) ?_ rfl
  refine y_aload_n C 0 dX1_init_0 rfl rfl ?_
  refine y_obj C (xm 235 (by decide +kernel) (by decide +kernel)) dX1_init_1 ⟨Nat.le_of_ble_eq_true rfl, Nat.le_of_ble_eq_true rfl⟩ ?_
  refine y_aload_n C 0 dX1_init_4 rfl rfl ?_
  refine y_bipush C (v := 40) dX1_init_5 (by decide +kernel) ?_
  refine y_newa' C (N := 40) (by decide +kernel) (by decide +kernel) (Nat.le_of_ble_eq_true rfl) ⟨Nat.le_of_ble_eq_true rfl, Nat.le_of_ble_eq_true rfl⟩ dX1_init_7 (fun a1 => ?_)
  refine y_putF C hin2 (fs := [.null, .int 0, .int 0]) tyX1 xin_X1 tyX1_ok nmX1 rfl 0 (by decide) (xm 236 (by decide +kernel) (by decide +kernel)) rfl rfl (tyX1_ok 0 (by decide)) (v := .ref a1) rfl rfl (Nat.le_of_ble_eq_true rfl) dX1_init_9 ?_
  exact y_ret C (res := shL cI) (fun i => ([a1] : List Nat).getD i 0) rfl ⟨Nat.le_of_ble_eq_true rfl, Nat.le_of_ble_eq_true rfl⟩ dX1_init_12
def ruL (a : Nat) (q : Nat → Nat) : va_W := (a, .inr (2, [.long 0, .long 0, .long 0])) :: ([] : va_W)
set_option maxHeartbeats 4000000 in
set_option maxRecDepth 100000 in
theorem i_Ru (l : Launch) (D : va_G) (cI cP cS : ClassId) : yM l yX2_init cX2_init 1 1 12 0 0 D cI cP cS 2 [.long 0, .long 0, .long 0] [] (ruL) := by
  refine yM_of (own := RX2) (by decide) rfl rfl (fun h0 => Nat.le_of_ble_eq_true rfl) ?_
  intro h0 p e s m args below meth c C hin2
  refine yW.to (ws' := (h0, .inr (2, [.long 0, .long 0, .long 0])) :: ([] : va_W)) ?_ rfl
  refine y_aload_n C 0 dX2_init_0 rfl rfl ?_
  refine y_obj C (xm 217 (by decide +kernel) (by decide +kernel)) dX2_init_1 ⟨Nat.le_of_ble_eq_true rfl, Nat.le_of_ble_eq_true rfl⟩ ?_
  exact y_ret C (res := ruL) (fun i => ([] : List Nat).getD i 0) rfl ⟨Nat.le_of_ble_eq_true rfl, Nat.le_of_ble_eq_true rfl⟩ dX2_init_4
def taL (cI : ClassId) (a : Nat) (q : Nat → Nat) : va_W := (a, .inr (4, [.ref (q 0), .int 0])) :: (ysn ([] : va_W) ((q 0), .inl (cI, 100, .inl (fun _ => 0))))
set_option maxHeartbeats 4000000 in
set_option maxRecDepth 100000 in
theorem i_Ta (l : Launch) (D : va_G) (cI cP cS : ClassId) : yM l yX4_init cX4_init 1 1 12 1 100 D cI cP cS 4 [.null, .int 0] [] (taL cI) := by
  refine yM_of (own := RX4) (by decide) rfl rfl (fun h0 => Nat.le_of_ble_eq_true rfl) ?_
  intro h0 p e s m args below meth c C hin2
  refine yW.to (ws' := (h0, .inr (4, [.null, .int 0])) :: ([] : va_W)) ?_ rfl
  refine y_aload_n C 0 dX4_init_0 rfl rfl ?_
  refine y_obj C (xm 181 (by decide +kernel) (by decide +kernel)) dX4_init_1 ⟨Nat.le_of_ble_eq_true rfl, Nat.le_of_ble_eq_true rfl⟩ ?_
  refine y_aload_n C 0 dX4_init_4 rfl rfl ?_
  refine y_bipush C (v := 100) dX4_init_5 (by decide +kernel) ?_
  refine y_newa' C (N := 100) (by decide +kernel) (by decide +kernel) (Nat.le_of_ble_eq_true rfl) ⟨Nat.le_of_ble_eq_true rfl, Nat.le_of_ble_eq_true rfl⟩ dX4_init_7 (fun a1 => ?_)
  refine y_putF C hin2 (fs := [.null, .int 0]) tyX4 xin_X4 tyX4_ok nmX4 rfl 0 (by decide) (xm 182 (by decide +kernel) (by decide +kernel)) rfl rfl (tyX4_ok 0 (by decide)) (v := .ref a1) rfl rfl (Nat.le_of_ble_eq_true rfl) dX4_init_9 ?_
  exact y_ret C (res := taL cI) (fun i => ([a1] : List Nat).getD i 0) rfl ⟨Nat.le_of_ble_eq_true rfl, Nat.le_of_ble_eq_true rfl⟩ dX4_init_12
def reL (cI : ClassId) (a : Nat) (q : Nat → Nat) : va_W := (a, .inr (5, [.ref (q 0), .int 0, .int 0, .int 0, .int 0])) :: (yapp ([] : va_W) ((taL cI) (q 0) (fun i => q (1 + i))))
set_option maxHeartbeats 4000000 in
set_option maxRecDepth 100000 in
theorem i_Re (l : Launch) (D : va_G) (cI cP cS : ClassId) : yM l yX5_init cX5_init 1 2 32 2 102 D cI cP cS 5 [.null, .int 0, .int 0, .int 0, .int 0] [] (reL cI) := by
  refine yM_of (own := RX5) (by decide) rfl rfl (fun h0 => Nat.le_of_ble_eq_true rfl) ?_
  intro h0 p e s m args below meth c C hin2
  refine yW.to (ws' := (h0, .inr (5, [.null, .int 0, .int 0, .int 0, .int 0])) :: ([] : va_W)) ?_ rfl
  refine y_aload_n C 0 dX5_init_0 rfl rfl ?_
  refine y_obj C (xm 175 (by decide +kernel) (by decide +kernel)) dX5_init_1 ⟨Nat.le_of_ble_eq_true rfl, Nat.le_of_ble_eq_true rfl⟩ ?_
  refine y_aload_n C 0 dX5_init_4 rfl rfl ?_
  refine y_new' C (ci := 4) (N := 2) (Cn := RX4) (T := TX4) tyX4 xin_X4 tyX4_ok (xm 176 (by decide +kernel) (by decide +kernel)) (xm 177 (by decide +kernel) (by decide +kernel)) (xm 43 (by decide +kernel) (by decide +kernel)) rfl (fs := [.null, .int 0]) (by decide) ⟨Nat.le_of_ble_eq_true rfl, Nat.le_of_ble_eq_true rfl⟩ dX5_init_5 (fun b1 => ?_)
  refine y_dup C dX5_init_8 rfl ?_
  refine y_initN' C (n := 0) (As := []) (rest := [.ref b1, .ref h0]) (res := taL cI) (host := "LeakCups") (List.mem_of_getElem? (i := 178) (by decide +kernel)) (i_Ta l D cI cP cS) (xm 180 (by decide +kernel) (by decide +kernel)) (xm 43 (by decide +kernel) (by decide +kernel)) (xm 179 (by decide +kernel) (by decide +kernel)) rfl (by decide) ⟨Nat.le_of_ble_eq_true rfl, Nat.le_of_ble_eq_true rfl⟩ ⟨Nat.le_of_ble_eq_true rfl, Nat.le_of_ble_eq_true rfl⟩ rfl rfl (Nat.le_of_ble_eq_true rfl) dX5_init_9 (fun q2 => ?_)
  refine y_putF C hin2 (fs := [.null, .int 0, .int 0, .int 0, .int 0]) tyX5 xin_X5 tyX5_ok nmX5 rfl 0 (by decide) (xm 191 (by decide +kernel) (by decide +kernel)) rfl rfl (tyX5_ok 0 (by decide)) (v := .ref b1) rfl rfl (Nat.le_of_ble_eq_true rfl) dX5_init_12 ?_
  exact y_ret C (res := reL cI) (fun i => ([b1, q2 0] : List Nat).getD i 0) rfl ⟨Nat.le_of_ble_eq_true rfl, Nat.le_of_ble_eq_true rfl⟩ dX5_init_15
def whL (cI : ClassId) (a : Nat) (q : Nat → Nat) : va_W := (a, .inr (6, [.ref (q 0), .ref (q 1), .ref (q 2), .ref (q 3), .ref (q 4), .int 0, .int 0, .int 0, .int 0, .int 0, .int 0, .int 0, .int 0])) :: (ysn (ysn (ysn (ysn (ysn ([] : va_W) ((q 0), .inl (cI, 4, .inl (upd (upd (upd (upd (fun _ => 0) 0 10) 1 5) 2 10) 3 10)))) ((q 1), .inl (cI, 12, .inl (fun _ => 0)))) ((q 2), .inl (cI, 12, .inl (fun _ => 0)))) ((q 3), .inl (cI, 40, .inl (fun _ => 0)))) ((q 4), .inl (cI, 40, .inl (fun _ => 0))))
set_option maxHeartbeats 4000000 in
set_option maxRecDepth 100000 in
theorem i_Wh (l : Launch) (D : va_G) (cI cP cS : ClassId) : yM l yX6_init cX6_init 1 1 12 5 108 D cI cP cS 6 [.null, .null, .null, .null, .null, .int 0, .int 0, .int 0, .int 0, .int 0, .int 0, .int 0, .int 0] [] (whL cI) := by
  refine yM_of (own := RX6) (by decide) rfl rfl (fun h0 => Nat.le_of_ble_eq_true rfl) ?_
  intro h0 p e s m args below meth c C hin2
  refine yW.to (ws' := (h0, .inr (6, [.null, .null, .null, .null, .null, .int 0, .int 0, .int 0, .int 0, .int 0, .int 0, .int 0, .int 0])) :: ([] : va_W)) ?_ rfl
  refine y_aload_n C 0 dX6_init_0 rfl rfl ?_
  refine y_obj C (xm 74 (by decide +kernel) (by decide +kernel)) dX6_init_1 ⟨Nat.le_of_ble_eq_true rfl, Nat.le_of_ble_eq_true rfl⟩ ?_
  refine y_aload_n C 0 dX6_init_4 rfl rfl ?_
  refine y_iconst C (v := 4) dX6_init_5 (by decide +kernel) ?_
  refine y_newa' C (N := 4) (by decide +kernel) (by decide +kernel) (Nat.le_of_ble_eq_true rfl) ⟨Nat.le_of_ble_eq_true rfl, Nat.le_of_ble_eq_true rfl⟩ dX6_init_6 (fun a1 => ?_)
  refine y_dup C dX6_init_8 rfl ?_
  refine y_iconst C (v := 0) dX6_init_9 (by decide +kernel) ?_
  refine y_bipush C (v := 10) dX6_init_10 (by decide +kernel) ?_
  refine y_astL' C (j := 0) (by decide +kernel) (vp_in_nI (n := 0) (by decide +kernel) (by decide +kernel)) dX6_init_12 ?_
  refine y_dup C dX6_init_13 rfl ?_
  refine y_iconst C (v := 1) dX6_init_14 (by decide +kernel) ?_
  refine y_iconst C (v := 5) dX6_init_15 (by decide +kernel) ?_
  refine y_astL' C (j := 1) (by decide +kernel) (vp_in_nI (n := 1) (by decide +kernel) (by decide +kernel)) dX6_init_16 ?_
  refine y_dup C dX6_init_17 rfl ?_
  refine y_iconst C (v := 2) dX6_init_18 (by decide +kernel) ?_
  refine y_bipush C (v := 10) dX6_init_19 (by decide +kernel) ?_
  refine y_astL' C (j := 2) (by decide +kernel) (vp_in_nI (n := 2) (by decide +kernel) (by decide +kernel)) dX6_init_21 ?_
  refine y_dup C dX6_init_22 rfl ?_
  refine y_iconst C (v := 3) dX6_init_23 (by decide +kernel) ?_
  refine y_bipush C (v := 10) dX6_init_24 (by decide +kernel) ?_
  refine y_astL' C (j := 3) (by decide +kernel) (vp_in_nI (n := 3) (by decide +kernel) (by decide +kernel)) dX6_init_26 ?_
  refine y_putF C hin2 (fs := [.null, .null, .null, .null, .null, .int 0, .int 0, .int 0, .int 0, .int 0, .int 0, .int 0, .int 0]) tyX6 xin_X6 tyX6_ok nmX6 rfl 0 (by decide) (xm 75 (by decide +kernel) (by decide +kernel)) rfl rfl (tyX6_ok 0 (by decide)) (v := .ref a1) rfl rfl (Nat.le_of_ble_eq_true rfl) dX6_init_27 ?_
  refine y_aload_n C 0 dX6_init_30 rfl rfl ?_
  refine y_bipush C (v := 12) dX6_init_31 (by decide +kernel) ?_
  refine y_newa' C (N := 12) (by decide +kernel) (by decide +kernel) (Nat.le_of_ble_eq_true rfl) ⟨Nat.le_of_ble_eq_true rfl, Nat.le_of_ble_eq_true rfl⟩ dX6_init_33 (fun a2 => ?_)
  refine y_putF C hin2 (fs := [.ref a1, .null, .null, .null, .null, .int 0, .int 0, .int 0, .int 0, .int 0, .int 0, .int 0, .int 0]) tyX6 xin_X6 tyX6_ok nmX6 rfl 1 (by decide) (xm 78 (by decide +kernel) (by decide +kernel)) rfl rfl (tyX6_ok 1 (by decide)) (v := .ref a2) rfl rfl (Nat.le_of_ble_eq_true rfl) dX6_init_35 ?_
  refine y_aload_n C 0 dX6_init_38 rfl rfl ?_
  refine y_bipush C (v := 12) dX6_init_39 (by decide +kernel) ?_
  refine y_newa' C (N := 12) (by decide +kernel) (by decide +kernel) (Nat.le_of_ble_eq_true rfl) ⟨Nat.le_of_ble_eq_true rfl, Nat.le_of_ble_eq_true rfl⟩ dX6_init_41 (fun a3 => ?_)
  refine y_putF C hin2 (fs := [.ref a1, .ref a2, .null, .null, .null, .int 0, .int 0, .int 0, .int 0, .int 0, .int 0, .int 0, .int 0]) tyX6 xin_X6 tyX6_ok nmX6 rfl 2 (by decide) (xm 81 (by decide +kernel) (by decide +kernel)) rfl rfl (tyX6_ok 2 (by decide)) (v := .ref a3) rfl rfl (Nat.le_of_ble_eq_true rfl) dX6_init_43 ?_
  refine y_aload_n C 0 dX6_init_46 rfl rfl ?_
  refine y_bipush C (v := 40) dX6_init_47 (by decide +kernel) ?_
  refine y_newa' C (N := 40) (by decide +kernel) (by decide +kernel) (Nat.le_of_ble_eq_true rfl) ⟨Nat.le_of_ble_eq_true rfl, Nat.le_of_ble_eq_true rfl⟩ dX6_init_49 (fun a4 => ?_)
  refine y_putF C hin2 (fs := [.ref a1, .ref a2, .ref a3, .null, .null, .int 0, .int 0, .int 0, .int 0, .int 0, .int 0, .int 0, .int 0]) tyX6 xin_X6 tyX6_ok nmX6 rfl 3 (by decide) (xm 83 (by decide +kernel) (by decide +kernel)) rfl rfl (tyX6_ok 3 (by decide)) (v := .ref a4) rfl rfl (Nat.le_of_ble_eq_true rfl) dX6_init_51 ?_
  refine y_aload_n C 0 dX6_init_54 rfl rfl ?_
  refine y_bipush C (v := 40) dX6_init_55 (by decide +kernel) ?_
  refine y_newa' C (N := 40) (by decide +kernel) (by decide +kernel) (Nat.le_of_ble_eq_true rfl) ⟨Nat.le_of_ble_eq_true rfl, Nat.le_of_ble_eq_true rfl⟩ dX6_init_57 (fun a5 => ?_)
  refine y_putF C hin2 (fs := [.ref a1, .ref a2, .ref a3, .ref a4, .null, .int 0, .int 0, .int 0, .int 0, .int 0, .int 0, .int 0, .int 0]) tyX6 xin_X6 tyX6_ok nmX6 rfl 4 (by decide) (xm 85 (by decide +kernel) (by decide +kernel)) rfl rfl (tyX6_ok 4 (by decide)) (v := .ref a5) rfl rfl (Nat.le_of_ble_eq_true rfl) dX6_init_59 ?_
  exact y_ret C (res := whL cI) (fun i => ([a1, a2, a3, a4, a5] : List Nat).getD i 0) rfl ⟨Nat.le_of_ble_eq_true rfl, Nat.le_of_ble_eq_true rfl⟩ dX6_init_62
def stL (cI cP : ClassId) (a : Nat) (q : Nat → Nat) : va_W := (a, .inr (3, [.ref (q 0), .ref (q 6), .int 0, .ref (q 7), .int 1])) :: (yapp (yapp (yapp (yapp (yapp (yapp (ysn (ysn (yapp ([] : va_W) ((whL cI) (q 0) (fun i => q (1 + i)))) ((q 6), .inl (cP, 6, .inr (.inr (.inr (.inr (va_up (va_up (va_up (va_up (va_up (va_up (fun _ => none) 0 (some (q 8))) 1 (some (q 11))) 2 (some (q 14))) 3 (some (q 17))) 4 (some (q 20))) 5 (some (q 23))))))))) ((q 7), .inl (cI, 10, .inl (upd (upd (upd (upd (upd (upd (upd (upd (upd (upd (fun _ => 0) 0 (-1)) 1 (-1)) 2 (-1)) 3 (-1)) 4 (-1)) 5 (-1)) 6 (-1)) 7 (-1)) 8 (-1)) 9 (-1))))) ((prL cI) (q 8) (fun i => q (9 + i)))) ((prL cI) (q 11) (fun i => q (12 + i)))) ((prL cI) (q 14) (fun i => q (15 + i)))) ((prL cI) (q 17) (fun i => q (18 + i)))) ((prL cI) (q 20) (fun i => q (21 + i)))) ((prL cI) (q 23) (fun i => q (24 + i))))
set_option maxHeartbeats 4000000 in
set_option maxRecDepth 100000 in
theorem i_St (l : Launch) (D : va_G) (cI cP cS : ClassId) : yM l yX3_init cX3_init 2 2 32 26 299 D cI cP cS 3 [.null, .null, .int 0, .null, .int 0] [] (stL cI cP) := by
  refine yM_of (own := RX3) (by decide) rfl rfl (fun h0 => Nat.le_of_ble_eq_true rfl) ?_
  intro h0 p e s m args below meth c C hin2
  refine yW.to (ws' := (h0, .inr (3, [.null, .null, .int 0, .null, .int 0])) :: ([] : va_W)) ?_ rfl
  refine y_aload_n C 0 dX3_init_0 rfl rfl ?_
  refine y_obj C (xm 68 (by decide +kernel) (by decide +kernel)) dX3_init_1 ⟨Nat.le_of_ble_eq_true rfl, Nat.le_of_ble_eq_true rfl⟩ ?_
  refine y_aload_n C 0 dX3_init_4 rfl rfl ?_
  refine y_new' C (ci := 6) (N := 13) (Cn := RX6) (T := TX6) tyX6 xin_X6 tyX6_ok (xm 69 (by decide +kernel) (by decide +kernel)) (xm 70 (by decide +kernel) (by decide +kernel)) (xm 40 (by decide +kernel) (by decide +kernel)) rfl (fs := [.null, .null, .null, .null, .null, .int 0, .int 0, .int 0, .int 0, .int 0, .int 0, .int 0, .int 0]) (by decide) ⟨Nat.le_of_ble_eq_true rfl, Nat.le_of_ble_eq_true rfl⟩ dX3_init_5 (fun b1 => ?_)
  refine y_dup C dX3_init_8 rfl ?_
  refine y_initN' C (n := 0) (As := []) (rest := [.ref b1, .ref h0]) (res := whL cI) (host := "LeakCups") (List.mem_of_getElem? (i := 71) (by decide +kernel)) (i_Wh l D cI cP cS) (xm 73 (by decide +kernel) (by decide +kernel)) (xm 40 (by decide +kernel) (by decide +kernel)) (xm 72 (by decide +kernel) (by decide +kernel)) rfl (by decide) ⟨Nat.le_of_ble_eq_true rfl, Nat.le_of_ble_eq_true rfl⟩ ⟨Nat.le_of_ble_eq_true rfl, Nat.le_of_ble_eq_true rfl⟩ rfl rfl (Nat.le_of_ble_eq_true rfl) dX3_init_9 (fun q2 => ?_)
  refine y_putF C hin2 (fs := [.null, .null, .int 0, .null, .int 0]) tyX3 xin_X3 tyX3_ok nmX3 rfl 0 (by decide) (xm 149 (by decide +kernel) (by decide +kernel)) rfl rfl (tyX3_ok 0 (by decide)) (v := .ref b1) rfl rfl (Nat.le_of_ble_eq_true rfl) dX3_init_12 ?_
  refine y_aload_n C 0 dX3_init_15 rfl rfl ?_
  refine y_bipush C (v := 6) dX3_init_16 (by decide +kernel) ?_
  refine y_newq' C (t := 1) (cA := cP) (N := 6) rfl (xm 130 (by decide +kernel) (by decide +kernel)) C.hk.2.2.1 (by decide +kernel) (by decide +kernel) (Nat.le_of_ble_eq_true rfl) ⟨Nat.le_of_ble_eq_true rfl, Nat.le_of_ble_eq_true rfl⟩ dX3_init_18 (fun a3 => ?_)
  refine y_putF C hin2 (fs := [.ref b1, .null, .int 0, .null, .int 0]) tyX3 xin_X3 tyX3_ok nmX3 rfl 1 (by decide) (xm 151 (by decide +kernel) (by decide +kernel)) rfl rfl (tyX3_ok 1 (by decide)) (v := .ref a3) rfl rfl (Nat.le_of_ble_eq_true rfl) dX3_init_21 ?_
  refine y_aload_n C 0 dX3_init_24 rfl rfl ?_
  refine y_bipush C (v := 10) dX3_init_25 (by decide +kernel) ?_
  refine y_newa' C (N := 10) (by decide +kernel) (by decide +kernel) (Nat.le_of_ble_eq_true rfl) ⟨Nat.le_of_ble_eq_true rfl, Nat.le_of_ble_eq_true rfl⟩ dX3_init_27 (fun a4 => ?_)
  refine y_putF C hin2 (fs := [.ref b1, .ref a3, .int 0, .null, .int 0]) tyX3 xin_X3 tyX3_ok nmX3 rfl 3 (by decide) (xm 155 (by decide +kernel) (by decide +kernel)) rfl rfl (tyX3_ok 3 (by decide)) (v := .ref a4) rfl rfl (Nat.le_of_ble_eq_true rfl) dX3_init_29 ?_
  refine y_aload_n C 0 dX3_init_32 rfl rfl ?_
  refine y_iconst C (v := 1) dX3_init_33 (by decide +kernel) ?_
  refine y_put C (fs := [.ref b1, .ref a3, .int 0, .ref a4, .int 0]) tyX3 xin_X3 tyX3_ok nmX3 rfl 4 (by decide) (xm 157 (by decide +kernel) (by decide +kernel)) rfl rfl (tyX3_ok 4 (by decide)) (v := .int 1) rfl rfl (Nat.le_of_ble_eq_true rfl) dX3_init_34 ?_
  refine y_iconst C (v := 0) dX3_init_37 (by decide +kernel) ?_
  refine y_istore_n C (lv1 := [(1, .int 0), (0, .ref h0)]) dX3_init_38 rfl (by decide) rfl ?_
  refine y_iload_n C 0 dX3_init_39 rfl rfl ?_
  refine y_bipush C (v := 6) dX3_init_40 (by decide +kernel) ?_
  refine y_ge_f C (tgt := 64) dX3_init_42 (by decide) (by decide) ?_
  refine y_aload_n C 1 dX3_init_45 rfl rfl ?_
  refine y_get C (fs := [.ref b1, .ref a3, .int 0, .ref a4, .int 1]) xin_X3 rfl 1 (by decide) (xm 151 (by decide +kernel) (by decide +kernel)) rfl (v := .ref a3) rfl dX3_init_46 ?_
  refine y_iload_n C 0 dX3_init_49 rfl rfl ?_
  refine y_new' C (ci := 0) (N := 3) (Cn := RX0) (T := TX0) tyX0 xin_X0 tyX0_ok (xm 130 (by decide +kernel) (by decide +kernel)) (xm 132 (by decide +kernel) (by decide +kernel)) (xm 41 (by decide +kernel) (by decide +kernel)) rfl (fs := [.null, .null, .int 0]) (by decide) ⟨Nat.le_of_ble_eq_true rfl, Nat.le_of_ble_eq_true rfl⟩ dX3_init_50 (fun b5 => ?_)
  refine y_dup C dX3_init_53 rfl ?_
  refine y_initN' C (n := 0) (As := []) (rest := [.ref b5, .int 0, .ref a3]) (res := prL cI) (host := "LeakCups") (List.mem_of_getElem? (i := 133) (by decide +kernel)) (i_Pr l D cI cP cS) (xm 135 (by decide +kernel) (by decide +kernel)) (xm 41 (by decide +kernel) (by decide +kernel)) (xm 134 (by decide +kernel) (by decide +kernel)) rfl (by decide) ⟨Nat.le_of_ble_eq_true rfl, Nat.le_of_ble_eq_true rfl⟩ ⟨Nat.le_of_ble_eq_true rfl, Nat.le_of_ble_eq_true rfl⟩ rfl rfl (Nat.le_of_ble_eq_true rfl) dX3_init_54 (fun q6 => ?_)
  refine y_aast C 7 1 9 0 (r := (RX0, TX0, 3)) (j := 0) (ws' := (h0, .inr (3, [.ref b1, .ref a3, .int 0, .ref a4, .int 1])) :: (yapp (ysn (ysn (yapp ([] : va_W) ((whL cI) b1 q2)) (a3, .inl (cP, 6, .inr (.inr (.inr (.inr (va_up (fun _ => none) 0 (some b5)))))))) (a4, .inl (cI, 10, .inl (fun _ => 0)))) ((prL cI) b5 q6))) rfl rfl rfl rfl rfl (by decide) (vp_in_nI (n := 0) (by decide) (by decide)) dX3_init_57 ?_
  refine y_iinc C (v := 1) (lv1 := [(1, .int 1), (0, .ref h0)]) 0 dX3_init_58 rfl (by decide) (by decide) rfl ?_
  refine y_goto C (tgt := 39) dX3_init_61 (by decide) ?_
  refine y_iload_n C 0 dX3_init_39 rfl rfl ?_
  refine y_bipush C (v := 6) dX3_init_40 (by decide +kernel) ?_
  refine y_ge_f C (tgt := 64) dX3_init_42 (by decide) (by decide) ?_
  refine y_aload_n C 1 dX3_init_45 rfl rfl ?_
  refine y_get C (fs := [.ref b1, .ref a3, .int 0, .ref a4, .int 1]) xin_X3 rfl 1 (by decide) (xm 151 (by decide +kernel) (by decide +kernel)) rfl (v := .ref a3) rfl dX3_init_46 ?_
  refine y_iload_n C 0 dX3_init_49 rfl rfl ?_
  refine y_new' C (ci := 0) (N := 3) (Cn := RX0) (T := TX0) tyX0 xin_X0 tyX0_ok (xm 130 (by decide +kernel) (by decide +kernel)) (xm 132 (by decide +kernel) (by decide +kernel)) (xm 41 (by decide +kernel) (by decide +kernel)) rfl (fs := [.null, .null, .int 0]) (by decide) ⟨Nat.le_of_ble_eq_true rfl, Nat.le_of_ble_eq_true rfl⟩ dX3_init_50 (fun b7 => ?_)
  refine y_dup C dX3_init_53 rfl ?_
  refine y_initN' C (n := 0) (As := []) (rest := [.ref b7, .int 1, .ref a3]) (res := prL cI) (host := "LeakCups") (List.mem_of_getElem? (i := 133) (by decide +kernel)) (i_Pr l D cI cP cS) (xm 135 (by decide +kernel) (by decide +kernel)) (xm 41 (by decide +kernel) (by decide +kernel)) (xm 134 (by decide +kernel) (by decide +kernel)) rfl (by decide) ⟨Nat.le_of_ble_eq_true rfl, Nat.le_of_ble_eq_true rfl⟩ ⟨Nat.le_of_ble_eq_true rfl, Nat.le_of_ble_eq_true rfl⟩ rfl rfl (Nat.le_of_ble_eq_true rfl) dX3_init_54 (fun q8 => ?_)
  refine y_aast C 7 1 12 0 (r := (RX0, TX0, 3)) (j := 1) (ws' := (h0, .inr (3, [.ref b1, .ref a3, .int 0, .ref a4, .int 1])) :: (yapp (yapp (ysn (ysn (yapp ([] : va_W) ((whL cI) b1 q2)) (a3, .inl (cP, 6, .inr (.inr (.inr (.inr (va_up (va_up (fun _ => none) 0 (some b5)) 1 (some b7)))))))) (a4, .inl (cI, 10, .inl (fun _ => 0)))) ((prL cI) b5 q6)) ((prL cI) b7 q8))) rfl rfl rfl rfl rfl (by decide) (vp_in_nI (n := 1) (by decide) (by decide)) dX3_init_57 ?_
  refine y_iinc C (v := 2) (lv1 := [(1, .int 2), (0, .ref h0)]) 0 dX3_init_58 rfl (by decide) (by decide) rfl ?_
  refine y_goto C (tgt := 39) dX3_init_61 (by decide) ?_
  refine y_iload_n C 0 dX3_init_39 rfl rfl ?_
  refine y_bipush C (v := 6) dX3_init_40 (by decide +kernel) ?_
  refine y_ge_f C (tgt := 64) dX3_init_42 (by decide) (by decide) ?_
  refine y_aload_n C 1 dX3_init_45 rfl rfl ?_
  refine y_get C (fs := [.ref b1, .ref a3, .int 0, .ref a4, .int 1]) xin_X3 rfl 1 (by decide) (xm 151 (by decide +kernel) (by decide +kernel)) rfl (v := .ref a3) rfl dX3_init_46 ?_
  refine y_iload_n C 0 dX3_init_49 rfl rfl ?_
  refine y_new' C (ci := 0) (N := 3) (Cn := RX0) (T := TX0) tyX0 xin_X0 tyX0_ok (xm 130 (by decide +kernel) (by decide +kernel)) (xm 132 (by decide +kernel) (by decide +kernel)) (xm 41 (by decide +kernel) (by decide +kernel)) rfl (fs := [.null, .null, .int 0]) (by decide) ⟨Nat.le_of_ble_eq_true rfl, Nat.le_of_ble_eq_true rfl⟩ dX3_init_50 (fun b9 => ?_)
  refine y_dup C dX3_init_53 rfl ?_
  refine y_initN' C (n := 0) (As := []) (rest := [.ref b9, .int 2, .ref a3]) (res := prL cI) (host := "LeakCups") (List.mem_of_getElem? (i := 133) (by decide +kernel)) (i_Pr l D cI cP cS) (xm 135 (by decide +kernel) (by decide +kernel)) (xm 41 (by decide +kernel) (by decide +kernel)) (xm 134 (by decide +kernel) (by decide +kernel)) rfl (by decide) ⟨Nat.le_of_ble_eq_true rfl, Nat.le_of_ble_eq_true rfl⟩ ⟨Nat.le_of_ble_eq_true rfl, Nat.le_of_ble_eq_true rfl⟩ rfl rfl (Nat.le_of_ble_eq_true rfl) dX3_init_54 (fun q10 => ?_)
  refine y_aast C 7 1 15 0 (r := (RX0, TX0, 3)) (j := 2) (ws' := (h0, .inr (3, [.ref b1, .ref a3, .int 0, .ref a4, .int 1])) :: (yapp (yapp (yapp (ysn (ysn (yapp ([] : va_W) ((whL cI) b1 q2)) (a3, .inl (cP, 6, .inr (.inr (.inr (.inr (va_up (va_up (va_up (fun _ => none) 0 (some b5)) 1 (some b7)) 2 (some b9)))))))) (a4, .inl (cI, 10, .inl (fun _ => 0)))) ((prL cI) b5 q6)) ((prL cI) b7 q8)) ((prL cI) b9 q10))) rfl rfl rfl rfl rfl (by decide) (vp_in_nI (n := 2) (by decide) (by decide)) dX3_init_57 ?_
  refine y_iinc C (v := 3) (lv1 := [(1, .int 3), (0, .ref h0)]) 0 dX3_init_58 rfl (by decide) (by decide) rfl ?_
  refine y_goto C (tgt := 39) dX3_init_61 (by decide) ?_
  refine y_iload_n C 0 dX3_init_39 rfl rfl ?_
  refine y_bipush C (v := 6) dX3_init_40 (by decide +kernel) ?_
  refine y_ge_f C (tgt := 64) dX3_init_42 (by decide) (by decide) ?_
  refine y_aload_n C 1 dX3_init_45 rfl rfl ?_
  refine y_get C (fs := [.ref b1, .ref a3, .int 0, .ref a4, .int 1]) xin_X3 rfl 1 (by decide) (xm 151 (by decide +kernel) (by decide +kernel)) rfl (v := .ref a3) rfl dX3_init_46 ?_
  refine y_iload_n C 0 dX3_init_49 rfl rfl ?_
  refine y_new' C (ci := 0) (N := 3) (Cn := RX0) (T := TX0) tyX0 xin_X0 tyX0_ok (xm 130 (by decide +kernel) (by decide +kernel)) (xm 132 (by decide +kernel) (by decide +kernel)) (xm 41 (by decide +kernel) (by decide +kernel)) rfl (fs := [.null, .null, .int 0]) (by decide) ⟨Nat.le_of_ble_eq_true rfl, Nat.le_of_ble_eq_true rfl⟩ dX3_init_50 (fun b11 => ?_)
  refine y_dup C dX3_init_53 rfl ?_
  refine y_initN' C (n := 0) (As := []) (rest := [.ref b11, .int 3, .ref a3]) (res := prL cI) (host := "LeakCups") (List.mem_of_getElem? (i := 133) (by decide +kernel)) (i_Pr l D cI cP cS) (xm 135 (by decide +kernel) (by decide +kernel)) (xm 41 (by decide +kernel) (by decide +kernel)) (xm 134 (by decide +kernel) (by decide +kernel)) rfl (by decide) ⟨Nat.le_of_ble_eq_true rfl, Nat.le_of_ble_eq_true rfl⟩ ⟨Nat.le_of_ble_eq_true rfl, Nat.le_of_ble_eq_true rfl⟩ rfl rfl (Nat.le_of_ble_eq_true rfl) dX3_init_54 (fun q12 => ?_)
  refine y_aast C 7 1 18 0 (r := (RX0, TX0, 3)) (j := 3) (ws' := (h0, .inr (3, [.ref b1, .ref a3, .int 0, .ref a4, .int 1])) :: (yapp (yapp (yapp (yapp (ysn (ysn (yapp ([] : va_W) ((whL cI) b1 q2)) (a3, .inl (cP, 6, .inr (.inr (.inr (.inr (va_up (va_up (va_up (va_up (fun _ => none) 0 (some b5)) 1 (some b7)) 2 (some b9)) 3 (some b11)))))))) (a4, .inl (cI, 10, .inl (fun _ => 0)))) ((prL cI) b5 q6)) ((prL cI) b7 q8)) ((prL cI) b9 q10)) ((prL cI) b11 q12))) rfl rfl rfl rfl rfl (by decide) (vp_in_nI (n := 3) (by decide) (by decide)) dX3_init_57 ?_
  refine y_iinc C (v := 4) (lv1 := [(1, .int 4), (0, .ref h0)]) 0 dX3_init_58 rfl (by decide) (by decide) rfl ?_
  refine y_goto C (tgt := 39) dX3_init_61 (by decide) ?_
  refine y_iload_n C 0 dX3_init_39 rfl rfl ?_
  refine y_bipush C (v := 6) dX3_init_40 (by decide +kernel) ?_
  refine y_ge_f C (tgt := 64) dX3_init_42 (by decide) (by decide) ?_
  refine y_aload_n C 1 dX3_init_45 rfl rfl ?_
  refine y_get C (fs := [.ref b1, .ref a3, .int 0, .ref a4, .int 1]) xin_X3 rfl 1 (by decide) (xm 151 (by decide +kernel) (by decide +kernel)) rfl (v := .ref a3) rfl dX3_init_46 ?_
  refine y_iload_n C 0 dX3_init_49 rfl rfl ?_
  refine y_new' C (ci := 0) (N := 3) (Cn := RX0) (T := TX0) tyX0 xin_X0 tyX0_ok (xm 130 (by decide +kernel) (by decide +kernel)) (xm 132 (by decide +kernel) (by decide +kernel)) (xm 41 (by decide +kernel) (by decide +kernel)) rfl (fs := [.null, .null, .int 0]) (by decide) ⟨Nat.le_of_ble_eq_true rfl, Nat.le_of_ble_eq_true rfl⟩ dX3_init_50 (fun b13 => ?_)
  refine y_dup C dX3_init_53 rfl ?_
  refine y_initN' C (n := 0) (As := []) (rest := [.ref b13, .int 4, .ref a3]) (res := prL cI) (host := "LeakCups") (List.mem_of_getElem? (i := 133) (by decide +kernel)) (i_Pr l D cI cP cS) (xm 135 (by decide +kernel) (by decide +kernel)) (xm 41 (by decide +kernel) (by decide +kernel)) (xm 134 (by decide +kernel) (by decide +kernel)) rfl (by decide) ⟨Nat.le_of_ble_eq_true rfl, Nat.le_of_ble_eq_true rfl⟩ ⟨Nat.le_of_ble_eq_true rfl, Nat.le_of_ble_eq_true rfl⟩ rfl rfl (Nat.le_of_ble_eq_true rfl) dX3_init_54 (fun q14 => ?_)
  refine y_aast C 7 1 21 0 (r := (RX0, TX0, 3)) (j := 4) (ws' := (h0, .inr (3, [.ref b1, .ref a3, .int 0, .ref a4, .int 1])) :: (yapp (yapp (yapp (yapp (yapp (ysn (ysn (yapp ([] : va_W) ((whL cI) b1 q2)) (a3, .inl (cP, 6, .inr (.inr (.inr (.inr (va_up (va_up (va_up (va_up (va_up (fun _ => none) 0 (some b5)) 1 (some b7)) 2 (some b9)) 3 (some b11)) 4 (some b13)))))))) (a4, .inl (cI, 10, .inl (fun _ => 0)))) ((prL cI) b5 q6)) ((prL cI) b7 q8)) ((prL cI) b9 q10)) ((prL cI) b11 q12)) ((prL cI) b13 q14))) rfl rfl rfl rfl rfl (by decide) (vp_in_nI (n := 4) (by decide) (by decide)) dX3_init_57 ?_
  refine y_iinc C (v := 5) (lv1 := [(1, .int 5), (0, .ref h0)]) 0 dX3_init_58 rfl (by decide) (by decide) rfl ?_
  refine y_goto C (tgt := 39) dX3_init_61 (by decide) ?_
  refine y_iload_n C 0 dX3_init_39 rfl rfl ?_
  refine y_bipush C (v := 6) dX3_init_40 (by decide +kernel) ?_
  refine y_ge_f C (tgt := 64) dX3_init_42 (by decide) (by decide) ?_
  refine y_aload_n C 1 dX3_init_45 rfl rfl ?_
  refine y_get C (fs := [.ref b1, .ref a3, .int 0, .ref a4, .int 1]) xin_X3 rfl 1 (by decide) (xm 151 (by decide +kernel) (by decide +kernel)) rfl (v := .ref a3) rfl dX3_init_46 ?_
  refine y_iload_n C 0 dX3_init_49 rfl rfl ?_
  refine y_new' C (ci := 0) (N := 3) (Cn := RX0) (T := TX0) tyX0 xin_X0 tyX0_ok (xm 130 (by decide +kernel) (by decide +kernel)) (xm 132 (by decide +kernel) (by decide +kernel)) (xm 41 (by decide +kernel) (by decide +kernel)) rfl (fs := [.null, .null, .int 0]) (by decide) ⟨Nat.le_of_ble_eq_true rfl, Nat.le_of_ble_eq_true rfl⟩ dX3_init_50 (fun b15 => ?_)
  refine y_dup C dX3_init_53 rfl ?_
  refine y_initN' C (n := 0) (As := []) (rest := [.ref b15, .int 5, .ref a3]) (res := prL cI) (host := "LeakCups") (List.mem_of_getElem? (i := 133) (by decide +kernel)) (i_Pr l D cI cP cS) (xm 135 (by decide +kernel) (by decide +kernel)) (xm 41 (by decide +kernel) (by decide +kernel)) (xm 134 (by decide +kernel) (by decide +kernel)) rfl (by decide) ⟨Nat.le_of_ble_eq_true rfl, Nat.le_of_ble_eq_true rfl⟩ ⟨Nat.le_of_ble_eq_true rfl, Nat.le_of_ble_eq_true rfl⟩ rfl rfl (Nat.le_of_ble_eq_true rfl) dX3_init_54 (fun q16 => ?_)
  refine y_aast C 7 1 24 0 (r := (RX0, TX0, 3)) (j := 5) (ws' := (h0, .inr (3, [.ref b1, .ref a3, .int 0, .ref a4, .int 1])) :: (yapp (yapp (yapp (yapp (yapp (yapp (ysn (ysn (yapp ([] : va_W) ((whL cI) b1 q2)) (a3, .inl (cP, 6, .inr (.inr (.inr (.inr (va_up (va_up (va_up (va_up (va_up (va_up (fun _ => none) 0 (some b5)) 1 (some b7)) 2 (some b9)) 3 (some b11)) 4 (some b13)) 5 (some b15)))))))) (a4, .inl (cI, 10, .inl (fun _ => 0)))) ((prL cI) b5 q6)) ((prL cI) b7 q8)) ((prL cI) b9 q10)) ((prL cI) b11 q12)) ((prL cI) b13 q14)) ((prL cI) b15 q16))) rfl rfl rfl rfl rfl (by decide) (vp_in_nI (n := 5) (by decide) (by decide)) dX3_init_57 ?_
  refine y_iinc C (v := 6) (lv1 := [(1, .int 6), (0, .ref h0)]) 0 dX3_init_58 rfl (by decide) (by decide) rfl ?_
  refine y_goto C (tgt := 39) dX3_init_61 (by decide) ?_
  refine y_iload_n C 0 dX3_init_39 rfl rfl ?_
  refine y_bipush C (v := 6) dX3_init_40 (by decide +kernel) ?_
  refine y_ge_t C (tgt := 64) dX3_init_42 (by decide) (by decide) ?_
  refine y_iconst C (v := 0) dX3_init_64 (by decide +kernel) ?_
  refine y_istore_n C (lv1 := [(1, .int 0), (0, .ref h0)]) dX3_init_65 rfl (by decide) rfl ?_
  refine y_iload_n C 0 dX3_init_66 rfl rfl ?_
  refine y_bipush C (v := 10) dX3_init_67 (by decide +kernel) ?_
  refine y_ge_f C (tgt := 85) dX3_init_69 (by decide) (by decide) ?_
  refine y_aload_n C 1 dX3_init_72 rfl rfl ?_
  refine y_get C (fs := [.ref b1, .ref a3, .int 0, .ref a4, .int 1]) xin_X3 rfl 3 (by decide) (xm 155 (by decide +kernel) (by decide +kernel)) rfl (v := .ref a4) rfl dX3_init_73 ?_
  refine y_iload_n C 0 dX3_init_76 rfl rfl ?_
  refine y_iconst C (v := (-1)) dX3_init_77 (by decide +kernel) ?_
  refine y_ast C 8 (j := 0) (ws' := (h0, .inr (3, [.ref b1, .ref a3, .int 0, .ref a4, .int 1])) :: (yapp (yapp (yapp (yapp (yapp (yapp (ysn (ysn (yapp ([] : va_W) ((whL cI) b1 q2)) (a3, .inl (cP, 6, .inr (.inr (.inr (.inr (va_up (va_up (va_up (va_up (va_up (va_up (fun _ => none) 0 (some b5)) 1 (some b7)) 2 (some b9)) 3 (some b11)) 4 (some b13)) 5 (some b15)))))))) (a4, .inl (cI, 10, .inl (upd (fun _ => 0) 0 (-1))))) ((prL cI) b5 q6)) ((prL cI) b7 q8)) ((prL cI) b9 q10)) ((prL cI) b11 q12)) ((prL cI) b13 q14)) ((prL cI) b15 q16))) rfl rfl (by decide +kernel) (vp_in_nI (n := 0) (by decide +kernel) (by decide +kernel)) dX3_init_78 ?_
  refine y_iinc C (v := 1) (lv1 := [(1, .int 1), (0, .ref h0)]) 0 dX3_init_79 rfl (by decide) (by decide) rfl ?_
  refine y_goto C (tgt := 66) dX3_init_82 (by decide) ?_
  refine y_iload_n C 0 dX3_init_66 rfl rfl ?_
  refine y_bipush C (v := 10) dX3_init_67 (by decide +kernel) ?_
  refine y_ge_f C (tgt := 85) dX3_init_69 (by decide) (by decide) ?_
  refine y_aload_n C 1 dX3_init_72 rfl rfl ?_
  refine y_get C (fs := [.ref b1, .ref a3, .int 0, .ref a4, .int 1]) xin_X3 rfl 3 (by decide) (xm 155 (by decide +kernel) (by decide +kernel)) rfl (v := .ref a4) rfl dX3_init_73 ?_
  refine y_iload_n C 0 dX3_init_76 rfl rfl ?_
  refine y_iconst C (v := (-1)) dX3_init_77 (by decide +kernel) ?_
  refine y_ast C 8 (j := 1) (ws' := (h0, .inr (3, [.ref b1, .ref a3, .int 0, .ref a4, .int 1])) :: (yapp (yapp (yapp (yapp (yapp (yapp (ysn (ysn (yapp ([] : va_W) ((whL cI) b1 q2)) (a3, .inl (cP, 6, .inr (.inr (.inr (.inr (va_up (va_up (va_up (va_up (va_up (va_up (fun _ => none) 0 (some b5)) 1 (some b7)) 2 (some b9)) 3 (some b11)) 4 (some b13)) 5 (some b15)))))))) (a4, .inl (cI, 10, .inl (upd (upd (fun _ => 0) 0 (-1)) 1 (-1))))) ((prL cI) b5 q6)) ((prL cI) b7 q8)) ((prL cI) b9 q10)) ((prL cI) b11 q12)) ((prL cI) b13 q14)) ((prL cI) b15 q16))) rfl rfl (by decide +kernel) (vp_in_nI (n := 1) (by decide +kernel) (by decide +kernel)) dX3_init_78 ?_
  refine y_iinc C (v := 2) (lv1 := [(1, .int 2), (0, .ref h0)]) 0 dX3_init_79 rfl (by decide) (by decide) rfl ?_
  refine y_goto C (tgt := 66) dX3_init_82 (by decide) ?_
  refine y_iload_n C 0 dX3_init_66 rfl rfl ?_
  refine y_bipush C (v := 10) dX3_init_67 (by decide +kernel) ?_
  refine y_ge_f C (tgt := 85) dX3_init_69 (by decide) (by decide) ?_
  refine y_aload_n C 1 dX3_init_72 rfl rfl ?_
  refine y_get C (fs := [.ref b1, .ref a3, .int 0, .ref a4, .int 1]) xin_X3 rfl 3 (by decide) (xm 155 (by decide +kernel) (by decide +kernel)) rfl (v := .ref a4) rfl dX3_init_73 ?_
  refine y_iload_n C 0 dX3_init_76 rfl rfl ?_
  refine y_iconst C (v := (-1)) dX3_init_77 (by decide +kernel) ?_
  refine y_ast C 8 (j := 2) (ws' := (h0, .inr (3, [.ref b1, .ref a3, .int 0, .ref a4, .int 1])) :: (yapp (yapp (yapp (yapp (yapp (yapp (ysn (ysn (yapp ([] : va_W) ((whL cI) b1 q2)) (a3, .inl (cP, 6, .inr (.inr (.inr (.inr (va_up (va_up (va_up (va_up (va_up (va_up (fun _ => none) 0 (some b5)) 1 (some b7)) 2 (some b9)) 3 (some b11)) 4 (some b13)) 5 (some b15)))))))) (a4, .inl (cI, 10, .inl (upd (upd (upd (fun _ => 0) 0 (-1)) 1 (-1)) 2 (-1))))) ((prL cI) b5 q6)) ((prL cI) b7 q8)) ((prL cI) b9 q10)) ((prL cI) b11 q12)) ((prL cI) b13 q14)) ((prL cI) b15 q16))) rfl rfl (by decide +kernel) (vp_in_nI (n := 2) (by decide +kernel) (by decide +kernel)) dX3_init_78 ?_
  refine y_iinc C (v := 3) (lv1 := [(1, .int 3), (0, .ref h0)]) 0 dX3_init_79 rfl (by decide) (by decide) rfl ?_
  refine y_goto C (tgt := 66) dX3_init_82 (by decide) ?_
  refine y_iload_n C 0 dX3_init_66 rfl rfl ?_
  refine y_bipush C (v := 10) dX3_init_67 (by decide +kernel) ?_
  refine y_ge_f C (tgt := 85) dX3_init_69 (by decide) (by decide) ?_
  refine y_aload_n C 1 dX3_init_72 rfl rfl ?_
  refine y_get C (fs := [.ref b1, .ref a3, .int 0, .ref a4, .int 1]) xin_X3 rfl 3 (by decide) (xm 155 (by decide +kernel) (by decide +kernel)) rfl (v := .ref a4) rfl dX3_init_73 ?_
  refine y_iload_n C 0 dX3_init_76 rfl rfl ?_
  refine y_iconst C (v := (-1)) dX3_init_77 (by decide +kernel) ?_
  refine y_ast C 8 (j := 3) (ws' := (h0, .inr (3, [.ref b1, .ref a3, .int 0, .ref a4, .int 1])) :: (yapp (yapp (yapp (yapp (yapp (yapp (ysn (ysn (yapp ([] : va_W) ((whL cI) b1 q2)) (a3, .inl (cP, 6, .inr (.inr (.inr (.inr (va_up (va_up (va_up (va_up (va_up (va_up (fun _ => none) 0 (some b5)) 1 (some b7)) 2 (some b9)) 3 (some b11)) 4 (some b13)) 5 (some b15)))))))) (a4, .inl (cI, 10, .inl (upd (upd (upd (upd (fun _ => 0) 0 (-1)) 1 (-1)) 2 (-1)) 3 (-1))))) ((prL cI) b5 q6)) ((prL cI) b7 q8)) ((prL cI) b9 q10)) ((prL cI) b11 q12)) ((prL cI) b13 q14)) ((prL cI) b15 q16))) rfl rfl (by decide +kernel) (vp_in_nI (n := 3) (by decide +kernel) (by decide +kernel)) dX3_init_78 ?_
  refine y_iinc C (v := 4) (lv1 := [(1, .int 4), (0, .ref h0)]) 0 dX3_init_79 rfl (by decide) (by decide) rfl ?_
  refine y_goto C (tgt := 66) dX3_init_82 (by decide) ?_
  refine y_iload_n C 0 dX3_init_66 rfl rfl ?_
  refine y_bipush C (v := 10) dX3_init_67 (by decide +kernel) ?_
  refine y_ge_f C (tgt := 85) dX3_init_69 (by decide) (by decide) ?_
  refine y_aload_n C 1 dX3_init_72 rfl rfl ?_
  refine y_get C (fs := [.ref b1, .ref a3, .int 0, .ref a4, .int 1]) xin_X3 rfl 3 (by decide) (xm 155 (by decide +kernel) (by decide +kernel)) rfl (v := .ref a4) rfl dX3_init_73 ?_
  refine y_iload_n C 0 dX3_init_76 rfl rfl ?_
  refine y_iconst C (v := (-1)) dX3_init_77 (by decide +kernel) ?_
  refine y_ast C 8 (j := 4) (ws' := (h0, .inr (3, [.ref b1, .ref a3, .int 0, .ref a4, .int 1])) :: (yapp (yapp (yapp (yapp (yapp (yapp (ysn (ysn (yapp ([] : va_W) ((whL cI) b1 q2)) (a3, .inl (cP, 6, .inr (.inr (.inr (.inr (va_up (va_up (va_up (va_up (va_up (va_up (fun _ => none) 0 (some b5)) 1 (some b7)) 2 (some b9)) 3 (some b11)) 4 (some b13)) 5 (some b15)))))))) (a4, .inl (cI, 10, .inl (upd (upd (upd (upd (upd (fun _ => 0) 0 (-1)) 1 (-1)) 2 (-1)) 3 (-1)) 4 (-1))))) ((prL cI) b5 q6)) ((prL cI) b7 q8)) ((prL cI) b9 q10)) ((prL cI) b11 q12)) ((prL cI) b13 q14)) ((prL cI) b15 q16))) rfl rfl (by decide +kernel) (vp_in_nI (n := 4) (by decide +kernel) (by decide +kernel)) dX3_init_78 ?_
  refine y_iinc C (v := 5) (lv1 := [(1, .int 5), (0, .ref h0)]) 0 dX3_init_79 rfl (by decide) (by decide) rfl ?_
  refine y_goto C (tgt := 66) dX3_init_82 (by decide) ?_
  refine y_iload_n C 0 dX3_init_66 rfl rfl ?_
  refine y_bipush C (v := 10) dX3_init_67 (by decide +kernel) ?_
  refine y_ge_f C (tgt := 85) dX3_init_69 (by decide) (by decide) ?_
  refine y_aload_n C 1 dX3_init_72 rfl rfl ?_
  refine y_get C (fs := [.ref b1, .ref a3, .int 0, .ref a4, .int 1]) xin_X3 rfl 3 (by decide) (xm 155 (by decide +kernel) (by decide +kernel)) rfl (v := .ref a4) rfl dX3_init_73 ?_
  refine y_iload_n C 0 dX3_init_76 rfl rfl ?_
  refine y_iconst C (v := (-1)) dX3_init_77 (by decide +kernel) ?_
  refine y_ast C 8 (j := 5) (ws' := (h0, .inr (3, [.ref b1, .ref a3, .int 0, .ref a4, .int 1])) :: (yapp (yapp (yapp (yapp (yapp (yapp (ysn (ysn (yapp ([] : va_W) ((whL cI) b1 q2)) (a3, .inl (cP, 6, .inr (.inr (.inr (.inr (va_up (va_up (va_up (va_up (va_up (va_up (fun _ => none) 0 (some b5)) 1 (some b7)) 2 (some b9)) 3 (some b11)) 4 (some b13)) 5 (some b15)))))))) (a4, .inl (cI, 10, .inl (upd (upd (upd (upd (upd (upd (fun _ => 0) 0 (-1)) 1 (-1)) 2 (-1)) 3 (-1)) 4 (-1)) 5 (-1))))) ((prL cI) b5 q6)) ((prL cI) b7 q8)) ((prL cI) b9 q10)) ((prL cI) b11 q12)) ((prL cI) b13 q14)) ((prL cI) b15 q16))) rfl rfl (by decide +kernel) (vp_in_nI (n := 5) (by decide +kernel) (by decide +kernel)) dX3_init_78 ?_
  refine y_iinc C (v := 6) (lv1 := [(1, .int 6), (0, .ref h0)]) 0 dX3_init_79 rfl (by decide) (by decide) rfl ?_
  refine y_goto C (tgt := 66) dX3_init_82 (by decide) ?_
  refine y_iload_n C 0 dX3_init_66 rfl rfl ?_
  refine y_bipush C (v := 10) dX3_init_67 (by decide +kernel) ?_
  refine y_ge_f C (tgt := 85) dX3_init_69 (by decide) (by decide) ?_
  refine y_aload_n C 1 dX3_init_72 rfl rfl ?_
  refine y_get C (fs := [.ref b1, .ref a3, .int 0, .ref a4, .int 1]) xin_X3 rfl 3 (by decide) (xm 155 (by decide +kernel) (by decide +kernel)) rfl (v := .ref a4) rfl dX3_init_73 ?_
  refine y_iload_n C 0 dX3_init_76 rfl rfl ?_
  refine y_iconst C (v := (-1)) dX3_init_77 (by decide +kernel) ?_
  refine y_ast C 8 (j := 6) (ws' := (h0, .inr (3, [.ref b1, .ref a3, .int 0, .ref a4, .int 1])) :: (yapp (yapp (yapp (yapp (yapp (yapp (ysn (ysn (yapp ([] : va_W) ((whL cI) b1 q2)) (a3, .inl (cP, 6, .inr (.inr (.inr (.inr (va_up (va_up (va_up (va_up (va_up (va_up (fun _ => none) 0 (some b5)) 1 (some b7)) 2 (some b9)) 3 (some b11)) 4 (some b13)) 5 (some b15)))))))) (a4, .inl (cI, 10, .inl (upd (upd (upd (upd (upd (upd (upd (fun _ => 0) 0 (-1)) 1 (-1)) 2 (-1)) 3 (-1)) 4 (-1)) 5 (-1)) 6 (-1))))) ((prL cI) b5 q6)) ((prL cI) b7 q8)) ((prL cI) b9 q10)) ((prL cI) b11 q12)) ((prL cI) b13 q14)) ((prL cI) b15 q16))) rfl rfl (by decide +kernel) (vp_in_nI (n := 6) (by decide +kernel) (by decide +kernel)) dX3_init_78 ?_
  refine y_iinc C (v := 7) (lv1 := [(1, .int 7), (0, .ref h0)]) 0 dX3_init_79 rfl (by decide) (by decide) rfl ?_
  refine y_goto C (tgt := 66) dX3_init_82 (by decide) ?_
  refine y_iload_n C 0 dX3_init_66 rfl rfl ?_
  refine y_bipush C (v := 10) dX3_init_67 (by decide +kernel) ?_
  refine y_ge_f C (tgt := 85) dX3_init_69 (by decide) (by decide) ?_
  refine y_aload_n C 1 dX3_init_72 rfl rfl ?_
  refine y_get C (fs := [.ref b1, .ref a3, .int 0, .ref a4, .int 1]) xin_X3 rfl 3 (by decide) (xm 155 (by decide +kernel) (by decide +kernel)) rfl (v := .ref a4) rfl dX3_init_73 ?_
  refine y_iload_n C 0 dX3_init_76 rfl rfl ?_
  refine y_iconst C (v := (-1)) dX3_init_77 (by decide +kernel) ?_
  refine y_ast C 8 (j := 7) (ws' := (h0, .inr (3, [.ref b1, .ref a3, .int 0, .ref a4, .int 1])) :: (yapp (yapp (yapp (yapp (yapp (yapp (ysn (ysn (yapp ([] : va_W) ((whL cI) b1 q2)) (a3, .inl (cP, 6, .inr (.inr (.inr (.inr (va_up (va_up (va_up (va_up (va_up (va_up (fun _ => none) 0 (some b5)) 1 (some b7)) 2 (some b9)) 3 (some b11)) 4 (some b13)) 5 (some b15)))))))) (a4, .inl (cI, 10, .inl (upd (upd (upd (upd (upd (upd (upd (upd (fun _ => 0) 0 (-1)) 1 (-1)) 2 (-1)) 3 (-1)) 4 (-1)) 5 (-1)) 6 (-1)) 7 (-1))))) ((prL cI) b5 q6)) ((prL cI) b7 q8)) ((prL cI) b9 q10)) ((prL cI) b11 q12)) ((prL cI) b13 q14)) ((prL cI) b15 q16))) rfl rfl (by decide +kernel) (vp_in_nI (n := 7) (by decide +kernel) (by decide +kernel)) dX3_init_78 ?_
  refine y_iinc C (v := 8) (lv1 := [(1, .int 8), (0, .ref h0)]) 0 dX3_init_79 rfl (by decide) (by decide) rfl ?_
  refine y_goto C (tgt := 66) dX3_init_82 (by decide) ?_
  refine y_iload_n C 0 dX3_init_66 rfl rfl ?_
  refine y_bipush C (v := 10) dX3_init_67 (by decide +kernel) ?_
  refine y_ge_f C (tgt := 85) dX3_init_69 (by decide) (by decide) ?_
  refine y_aload_n C 1 dX3_init_72 rfl rfl ?_
  refine y_get C (fs := [.ref b1, .ref a3, .int 0, .ref a4, .int 1]) xin_X3 rfl 3 (by decide) (xm 155 (by decide +kernel) (by decide +kernel)) rfl (v := .ref a4) rfl dX3_init_73 ?_
  refine y_iload_n C 0 dX3_init_76 rfl rfl ?_
  refine y_iconst C (v := (-1)) dX3_init_77 (by decide +kernel) ?_
  refine y_ast C 8 (j := 8) (ws' := (h0, .inr (3, [.ref b1, .ref a3, .int 0, .ref a4, .int 1])) :: (yapp (yapp (yapp (yapp (yapp (yapp (ysn (ysn (yapp ([] : va_W) ((whL cI) b1 q2)) (a3, .inl (cP, 6, .inr (.inr (.inr (.inr (va_up (va_up (va_up (va_up (va_up (va_up (fun _ => none) 0 (some b5)) 1 (some b7)) 2 (some b9)) 3 (some b11)) 4 (some b13)) 5 (some b15)))))))) (a4, .inl (cI, 10, .inl (upd (upd (upd (upd (upd (upd (upd (upd (upd (fun _ => 0) 0 (-1)) 1 (-1)) 2 (-1)) 3 (-1)) 4 (-1)) 5 (-1)) 6 (-1)) 7 (-1)) 8 (-1))))) ((prL cI) b5 q6)) ((prL cI) b7 q8)) ((prL cI) b9 q10)) ((prL cI) b11 q12)) ((prL cI) b13 q14)) ((prL cI) b15 q16))) rfl rfl (by decide +kernel) (vp_in_nI (n := 8) (by decide +kernel) (by decide +kernel)) dX3_init_78 ?_
  refine y_iinc C (v := 9) (lv1 := [(1, .int 9), (0, .ref h0)]) 0 dX3_init_79 rfl (by decide) (by decide) rfl ?_
  refine y_goto C (tgt := 66) dX3_init_82 (by decide) ?_
  refine y_iload_n C 0 dX3_init_66 rfl rfl ?_
  refine y_bipush C (v := 10) dX3_init_67 (by decide +kernel) ?_
  refine y_ge_f C (tgt := 85) dX3_init_69 (by decide) (by decide) ?_
  refine y_aload_n C 1 dX3_init_72 rfl rfl ?_
  refine y_get C (fs := [.ref b1, .ref a3, .int 0, .ref a4, .int 1]) xin_X3 rfl 3 (by decide) (xm 155 (by decide +kernel) (by decide +kernel)) rfl (v := .ref a4) rfl dX3_init_73 ?_
  refine y_iload_n C 0 dX3_init_76 rfl rfl ?_
  refine y_iconst C (v := (-1)) dX3_init_77 (by decide +kernel) ?_
  refine y_ast C 8 (j := 9) (ws' := (h0, .inr (3, [.ref b1, .ref a3, .int 0, .ref a4, .int 1])) :: (yapp (yapp (yapp (yapp (yapp (yapp (ysn (ysn (yapp ([] : va_W) ((whL cI) b1 q2)) (a3, .inl (cP, 6, .inr (.inr (.inr (.inr (va_up (va_up (va_up (va_up (va_up (va_up (fun _ => none) 0 (some b5)) 1 (some b7)) 2 (some b9)) 3 (some b11)) 4 (some b13)) 5 (some b15)))))))) (a4, .inl (cI, 10, .inl (upd (upd (upd (upd (upd (upd (upd (upd (upd (upd (fun _ => 0) 0 (-1)) 1 (-1)) 2 (-1)) 3 (-1)) 4 (-1)) 5 (-1)) 6 (-1)) 7 (-1)) 8 (-1)) 9 (-1))))) ((prL cI) b5 q6)) ((prL cI) b7 q8)) ((prL cI) b9 q10)) ((prL cI) b11 q12)) ((prL cI) b13 q14)) ((prL cI) b15 q16))) rfl rfl (by decide +kernel) (vp_in_nI (n := 9) (by decide +kernel) (by decide +kernel)) dX3_init_78 ?_
  refine y_iinc C (v := 10) (lv1 := [(1, .int 10), (0, .ref h0)]) 0 dX3_init_79 rfl (by decide) (by decide) rfl ?_
  refine y_goto C (tgt := 66) dX3_init_82 (by decide) ?_
  refine y_iload_n C 0 dX3_init_66 rfl rfl ?_
  refine y_bipush C (v := 10) dX3_init_67 (by decide +kernel) ?_
  refine y_ge_t C (tgt := 85) dX3_init_69 (by decide) (by decide) ?_
  exact y_ret C (res := stL cI cP) (fun i => ([b1, q2 0, q2 1, q2 2, q2 3, q2 4, a3, a4, b5, q6 0, q6 1, b7, q8 0, q8 1, b9, q10 0, q10 1, b11, q12 0, q12 1, b13, q14 0, q14 1, b15, q16 0, q16 1] : List Nat).getD i 0) rfl ⟨Nat.le_of_ble_eq_true rfl, Nat.le_of_ble_eq_true rfl⟩ dX3_init_85
def mdL (cI : ClassId) (a : Nat) (q : Nat → Nat) : va_W := (a, .inr (8, [.ref (q 0), .ref (q 1), .ref (q 2), .ref (q 3), .int 0, .ref (q 4), .ref (q 5), .ref (q 6), .int 0, .int 0, .int 0, .int 0, .long 0, .int 0, .int 0, .ref (q 7), .ref (q 8), .ref (q 9), .ref (q 10), .ref (q 11)])) :: (ysn (ysn (ysn (ysn (ysn (ysn (ysn (ysn (ysn (ysn (ysn (ysn ([] : va_W) ((q 0), .inl (cI, 284, .inl (upd (upd (upd (upd (upd (upd (upd (upd (upd (upd (upd (upd (upd (upd (upd (fun _ => 0) 0 10) 1 5) 2 10) 3 10) 12 1) 124 (-1)) 125 (-1)) 126 (-1)) 127 (-1)) 128 (-1)) 129 (-1)) 130 (-1)) 131 (-1)) 132 (-1)) 133 (-1))))) ((q 1), .inl (cI, 284, .inl (fun _ => 0)))) ((q 2), .inl (cI, 284, .inl (fun _ => 0)))) ((q 3), .inl (cI, 284, .inl (fun _ => 0)))) ((q 4), .inl (cI, 7, .inl (fun _ => 0)))) ((q 5), .inl (cI, 12, .inl (upd (upd (upd (upd (upd (upd (upd (upd (upd (upd (upd (upd (fun _ => 0) 0 0) 1 50) 2 87) 3 100) 4 87) 5 50) 6 0) 7 (-50)) 8 (-87)) 9 (-100)) 10 (-87)) 11 (-50))))) ((q 6), .inl (cI, 100, .inl (fun _ => 0)))) ((q 7), .inl (cI, 3, .inl (fun _ => 0)))) ((q 8), .inl (cI, 4, .inl (fun _ => 0)))) ((q 9), .inl (cI, 4, .inl (fun _ => 0)))) ((q 10), .inl (cI, 160, .inl (fun _ => 0)))) ((q 11), .inl (cI, 40, .inl (fun _ => 0))))
set_option maxHeartbeats 4000000 in
set_option maxRecDepth 100000 in
theorem i_Md (l : Launch) (D : va_G) (cI cP cS : ClassId) : yM l yX8_init cX8_init 2 1 12 12 1466 D cI cP cS 8 [.null, .null, .null, .null, .int 0, .null, .null, .null, .int 0, .int 0, .int 0, .int 0, .long 0, .int 0, .int 0, .null, .null, .null, .null, .null] [] (mdL cI) := by
  refine yM_of (own := RX8) (by decide) rfl rfl (fun h0 => Nat.le_of_ble_eq_true rfl) ?_
  intro h0 p e s m args below meth c C hin2
  refine yW.to (ws' := (h0, .inr (8, [.null, .null, .null, .null, .int 0, .null, .null, .null, .int 0, .int 0, .int 0, .int 0, .long 0, .int 0, .int 0, .null, .null, .null, .null, .null])) :: ([] : va_W)) ?_ rfl
  refine y_aload_n C 0 dX8_init_0 rfl rfl ?_
  refine y_obj C (xm 831 (by decide +kernel) (by decide +kernel)) dX8_init_1 ⟨Nat.le_of_ble_eq_true rfl, Nat.le_of_ble_eq_true rfl⟩ ?_
  refine y_aload_n C 0 dX8_init_4 rfl rfl ?_
  refine y_sipush C (v := 284) dX8_init_5 (by decide +kernel) ?_
  refine y_newa' C (N := 284) (by decide +kernel) (by decide +kernel) (Nat.le_of_ble_eq_true rfl) ⟨Nat.le_of_ble_eq_true rfl, Nat.le_of_ble_eq_true rfl⟩ dX8_init_8 (fun a1 => ?_)
  refine y_putF C hin2 (fs := [.null, .null, .null, .null, .int 0, .null, .null, .null, .int 0, .int 0, .int 0, .int 0, .long 0, .int 0, .int 0, .null, .null, .null, .null, .null]) tyX8 xin_X8 tyX8_ok nmX8 rfl 0 (by decide) (xm 832 (by decide +kernel) (by decide +kernel)) rfl rfl (tyX8_ok 0 (by decide)) (v := .ref a1) rfl rfl (Nat.le_of_ble_eq_true rfl) dX8_init_10 ?_
  refine y_aload_n C 0 dX8_init_13 rfl rfl ?_
  refine y_sipush C (v := 284) dX8_init_14 (by decide +kernel) ?_
  refine y_newa' C (N := 284) (by decide +kernel) (by decide +kernel) (Nat.le_of_ble_eq_true rfl) ⟨Nat.le_of_ble_eq_true rfl, Nat.le_of_ble_eq_true rfl⟩ dX8_init_17 (fun a2 => ?_)
  refine y_putF C hin2 (fs := [.ref a1, .null, .null, .null, .int 0, .null, .null, .null, .int 0, .int 0, .int 0, .int 0, .long 0, .int 0, .int 0, .null, .null, .null, .null, .null]) tyX8 xin_X8 tyX8_ok nmX8 rfl 1 (by decide) (xm 833 (by decide +kernel) (by decide +kernel)) rfl rfl (tyX8_ok 1 (by decide)) (v := .ref a2) rfl rfl (Nat.le_of_ble_eq_true rfl) dX8_init_19 ?_
  refine y_aload_n C 0 dX8_init_22 rfl rfl ?_
  refine y_sipush C (v := 284) dX8_init_23 (by decide +kernel) ?_
  refine y_newa' C (N := 284) (by decide +kernel) (by decide +kernel) (Nat.le_of_ble_eq_true rfl) ⟨Nat.le_of_ble_eq_true rfl, Nat.le_of_ble_eq_true rfl⟩ dX8_init_26 (fun a3 => ?_)
  refine y_putF C hin2 (fs := [.ref a1, .ref a2, .null, .null, .int 0, .null, .null, .null, .int 0, .int 0, .int 0, .int 0, .long 0, .int 0, .int 0, .null, .null, .null, .null, .null]) tyX8 xin_X8 tyX8_ok nmX8 rfl 2 (by decide) (xm 834 (by decide +kernel) (by decide +kernel)) rfl rfl (tyX8_ok 2 (by decide)) (v := .ref a3) rfl rfl (Nat.le_of_ble_eq_true rfl) dX8_init_28 ?_
  refine y_aload_n C 0 dX8_init_31 rfl rfl ?_
  refine y_sipush C (v := 284) dX8_init_32 (by decide +kernel) ?_
  refine y_newa' C (N := 284) (by decide +kernel) (by decide +kernel) (Nat.le_of_ble_eq_true rfl) ⟨Nat.le_of_ble_eq_true rfl, Nat.le_of_ble_eq_true rfl⟩ dX8_init_35 (fun a4 => ?_)
  refine y_putF C hin2 (fs := [.ref a1, .ref a2, .ref a3, .null, .int 0, .null, .null, .null, .int 0, .int 0, .int 0, .int 0, .long 0, .int 0, .int 0, .null, .null, .null, .null, .null]) tyX8 xin_X8 tyX8_ok nmX8 rfl 3 (by decide) (xm 835 (by decide +kernel) (by decide +kernel)) rfl rfl (tyX8_ok 3 (by decide)) (v := .ref a4) rfl rfl (Nat.le_of_ble_eq_true rfl) dX8_init_37 ?_
  refine y_aload_n C 0 dX8_init_40 rfl rfl ?_
  refine y_bipush C (v := 7) dX8_init_41 (by decide +kernel) ?_
  refine y_newa' C (N := 7) (by decide +kernel) (by decide +kernel) (Nat.le_of_ble_eq_true rfl) ⟨Nat.le_of_ble_eq_true rfl, Nat.le_of_ble_eq_true rfl⟩ dX8_init_43 (fun a5 => ?_)
  refine y_putF C hin2 (fs := [.ref a1, .ref a2, .ref a3, .ref a4, .int 0, .null, .null, .null, .int 0, .int 0, .int 0, .int 0, .long 0, .int 0, .int 0, .null, .null, .null, .null, .null]) tyX8 xin_X8 tyX8_ok nmX8 rfl 5 (by decide) (xm 837 (by decide +kernel) (by decide +kernel)) rfl rfl (tyX8_ok 5 (by decide)) (v := .ref a5) rfl rfl (Nat.le_of_ble_eq_true rfl) dX8_init_45 ?_
  refine y_aload_n C 0 dX8_init_48 rfl rfl ?_
  refine y_bipush C (v := 12) dX8_init_49 (by decide +kernel) ?_
  refine y_newa' C (N := 12) (by decide +kernel) (by decide +kernel) (Nat.le_of_ble_eq_true rfl) ⟨Nat.le_of_ble_eq_true rfl, Nat.le_of_ble_eq_true rfl⟩ dX8_init_51 (fun a6 => ?_)
  refine y_dup C dX8_init_53 rfl ?_
  refine y_iconst C (v := 0) dX8_init_54 (by decide +kernel) ?_
  refine y_iconst C (v := 0) dX8_init_55 (by decide +kernel) ?_
  refine y_astL' C (j := 0) (by decide +kernel) (vp_in_nI (n := 0) (by decide +kernel) (by decide +kernel)) dX8_init_56 ?_
  refine y_dup C dX8_init_57 rfl ?_
  refine y_iconst C (v := 1) dX8_init_58 (by decide +kernel) ?_
  refine y_bipush C (v := 50) dX8_init_59 (by decide +kernel) ?_
  refine y_astL' C (j := 1) (by decide +kernel) (vp_in_nI (n := 1) (by decide +kernel) (by decide +kernel)) dX8_init_61 ?_
  refine y_dup C dX8_init_62 rfl ?_
  refine y_iconst C (v := 2) dX8_init_63 (by decide +kernel) ?_
  refine y_bipush C (v := 87) dX8_init_64 (by decide +kernel) ?_
  refine y_astL' C (j := 2) (by decide +kernel) (vp_in_nI (n := 2) (by decide +kernel) (by decide +kernel)) dX8_init_66 ?_
  refine y_dup C dX8_init_67 rfl ?_
  refine y_iconst C (v := 3) dX8_init_68 (by decide +kernel) ?_
  refine y_bipush C (v := 100) dX8_init_69 (by decide +kernel) ?_
  refine y_astL' C (j := 3) (by decide +kernel) (vp_in_nI (n := 3) (by decide +kernel) (by decide +kernel)) dX8_init_71 ?_
  refine y_dup C dX8_init_72 rfl ?_
  refine y_iconst C (v := 4) dX8_init_73 (by decide +kernel) ?_
  refine y_bipush C (v := 87) dX8_init_74 (by decide +kernel) ?_
  refine y_astL' C (j := 4) (by decide +kernel) (vp_in_nI (n := 4) (by decide +kernel) (by decide +kernel)) dX8_init_76 ?_
  refine y_dup C dX8_init_77 rfl ?_
  refine y_iconst C (v := 5) dX8_init_78 (by decide +kernel) ?_
  refine y_bipush C (v := 50) dX8_init_79 (by decide +kernel) ?_
  refine y_astL' C (j := 5) (by decide +kernel) (vp_in_nI (n := 5) (by decide +kernel) (by decide +kernel)) dX8_init_81 ?_
  refine y_dup C dX8_init_82 rfl ?_
  refine y_bipush C (v := 6) dX8_init_83 (by decide +kernel) ?_
  refine y_iconst C (v := 0) dX8_init_85 (by decide +kernel) ?_
  refine y_astL' C (j := 6) (by decide +kernel) (vp_in_nI (n := 6) (by decide +kernel) (by decide +kernel)) dX8_init_86 ?_
  refine y_dup C dX8_init_87 rfl ?_
  refine y_bipush C (v := 7) dX8_init_88 (by decide +kernel) ?_
  refine y_bipush C (v := (-50)) dX8_init_90 (by decide +kernel) ?_
  refine y_astL' C (j := 7) (by decide +kernel) (vp_in_nI (n := 7) (by decide +kernel) (by decide +kernel)) dX8_init_92 ?_
  refine y_dup C dX8_init_93 rfl ?_
  refine y_bipush C (v := 8) dX8_init_94 (by decide +kernel) ?_
  refine y_bipush C (v := (-87)) dX8_init_96 (by decide +kernel) ?_
  refine y_astL' C (j := 8) (by decide +kernel) (vp_in_nI (n := 8) (by decide +kernel) (by decide +kernel)) dX8_init_98 ?_
  refine y_dup C dX8_init_99 rfl ?_
  refine y_bipush C (v := 9) dX8_init_100 (by decide +kernel) ?_
  refine y_bipush C (v := (-100)) dX8_init_102 (by decide +kernel) ?_
  refine y_astL' C (j := 9) (by decide +kernel) (vp_in_nI (n := 9) (by decide +kernel) (by decide +kernel)) dX8_init_104 ?_
  refine y_dup C dX8_init_105 rfl ?_
  refine y_bipush C (v := 10) dX8_init_106 (by decide +kernel) ?_
  refine y_bipush C (v := (-87)) dX8_init_108 (by decide +kernel) ?_
  refine y_astL' C (j := 10) (by decide +kernel) (vp_in_nI (n := 10) (by decide +kernel) (by decide +kernel)) dX8_init_110 ?_
  refine y_dup C dX8_init_111 rfl ?_
  refine y_bipush C (v := 11) dX8_init_112 (by decide +kernel) ?_
  refine y_bipush C (v := (-50)) dX8_init_114 (by decide +kernel) ?_
  refine y_astL' C (j := 11) (by decide +kernel) (vp_in_nI (n := 11) (by decide +kernel) (by decide +kernel)) dX8_init_116 ?_
  refine y_putF C hin2 (fs := [.ref a1, .ref a2, .ref a3, .ref a4, .int 0, .ref a5, .null, .null, .int 0, .int 0, .int 0, .int 0, .long 0, .int 0, .int 0, .null, .null, .null, .null, .null]) tyX8 xin_X8 tyX8_ok nmX8 rfl 6 (by decide) (xm 838 (by decide +kernel) (by decide +kernel)) rfl rfl (tyX8_ok 6 (by decide)) (v := .ref a6) rfl rfl (Nat.le_of_ble_eq_true rfl) dX8_init_117 ?_
  refine y_aload_n C 0 dX8_init_120 rfl rfl ?_
  refine y_bipush C (v := 100) dX8_init_121 (by decide +kernel) ?_
  refine y_newa' C (N := 100) (by decide +kernel) (by decide +kernel) (Nat.le_of_ble_eq_true rfl) ⟨Nat.le_of_ble_eq_true rfl, Nat.le_of_ble_eq_true rfl⟩ dX8_init_123 (fun a7 => ?_)
  refine y_putF C hin2 (fs := [.ref a1, .ref a2, .ref a3, .ref a4, .int 0, .ref a5, .ref a6, .null, .int 0, .int 0, .int 0, .int 0, .long 0, .int 0, .int 0, .null, .null, .null, .null, .null]) tyX8 xin_X8 tyX8_ok nmX8 rfl 7 (by decide) (xm 839 (by decide +kernel) (by decide +kernel)) rfl rfl (tyX8_ok 7 (by decide)) (v := .ref a7) rfl rfl (Nat.le_of_ble_eq_true rfl) dX8_init_125 ?_
  refine y_aload_n C 0 dX8_init_128 rfl rfl ?_
  refine y_iconst C (v := 3) dX8_init_129 (by decide +kernel) ?_
  refine y_newa' C (N := 3) (by decide +kernel) (by decide +kernel) (Nat.le_of_ble_eq_true rfl) ⟨Nat.le_of_ble_eq_true rfl, Nat.le_of_ble_eq_true rfl⟩ dX8_init_130 (fun a8 => ?_)
  refine y_putF C hin2 (fs := [.ref a1, .ref a2, .ref a3, .ref a4, .int 0, .ref a5, .ref a6, .ref a7, .int 0, .int 0, .int 0, .int 0, .long 0, .int 0, .int 0, .null, .null, .null, .null, .null]) tyX8 xin_X8 tyX8_ok nmX8 rfl 15 (by decide) (xm 847 (by decide +kernel) (by decide +kernel)) rfl rfl (tyX8_ok 15 (by decide)) (v := .ref a8) rfl rfl (Nat.le_of_ble_eq_true rfl) dX8_init_132 ?_
  refine y_aload_n C 0 dX8_init_135 rfl rfl ?_
  refine y_iconst C (v := 4) dX8_init_136 (by decide +kernel) ?_
  refine y_newa' C (N := 4) (by decide +kernel) (by decide +kernel) (Nat.le_of_ble_eq_true rfl) ⟨Nat.le_of_ble_eq_true rfl, Nat.le_of_ble_eq_true rfl⟩ dX8_init_137 (fun a9 => ?_)
  refine y_putF C hin2 (fs := [.ref a1, .ref a2, .ref a3, .ref a4, .int 0, .ref a5, .ref a6, .ref a7, .int 0, .int 0, .int 0, .int 0, .long 0, .int 0, .int 0, .ref a8, .null, .null, .null, .null]) tyX8 xin_X8 tyX8_ok nmX8 rfl 16 (by decide) (xm 848 (by decide +kernel) (by decide +kernel)) rfl rfl (tyX8_ok 16 (by decide)) (v := .ref a9) rfl rfl (Nat.le_of_ble_eq_true rfl) dX8_init_139 ?_
  refine y_aload_n C 0 dX8_init_142 rfl rfl ?_
  refine y_iconst C (v := 4) dX8_init_143 (by decide +kernel) ?_
  refine y_newa' C (N := 4) (by decide +kernel) (by decide +kernel) (Nat.le_of_ble_eq_true rfl) ⟨Nat.le_of_ble_eq_true rfl, Nat.le_of_ble_eq_true rfl⟩ dX8_init_144 (fun a10 => ?_)
  refine y_putF C hin2 (fs := [.ref a1, .ref a2, .ref a3, .ref a4, .int 0, .ref a5, .ref a6, .ref a7, .int 0, .int 0, .int 0, .int 0, .long 0, .int 0, .int 0, .ref a8, .ref a9, .null, .null, .null]) tyX8 xin_X8 tyX8_ok nmX8 rfl 17 (by decide) (xm 849 (by decide +kernel) (by decide +kernel)) rfl rfl (tyX8_ok 17 (by decide)) (v := .ref a10) rfl rfl (Nat.le_of_ble_eq_true rfl) dX8_init_146 ?_
  refine y_aload_n C 0 dX8_init_149 rfl rfl ?_
  refine y_sipush C (v := 160) dX8_init_150 (by decide +kernel) ?_
  refine y_newa' C (N := 160) (by decide +kernel) (by decide +kernel) (Nat.le_of_ble_eq_true rfl) ⟨Nat.le_of_ble_eq_true rfl, Nat.le_of_ble_eq_true rfl⟩ dX8_init_153 (fun a11 => ?_)
  refine y_putF C hin2 (fs := [.ref a1, .ref a2, .ref a3, .ref a4, .int 0, .ref a5, .ref a6, .ref a7, .int 0, .int 0, .int 0, .int 0, .long 0, .int 0, .int 0, .ref a8, .ref a9, .ref a10, .null, .null]) tyX8 xin_X8 tyX8_ok nmX8 rfl 18 (by decide) (xm 850 (by decide +kernel) (by decide +kernel)) rfl rfl (tyX8_ok 18 (by decide)) (v := .ref a11) rfl rfl (Nat.le_of_ble_eq_true rfl) dX8_init_155 ?_
  refine y_aload_n C 0 dX8_init_158 rfl rfl ?_
  refine y_bipush C (v := 40) dX8_init_159 (by decide +kernel) ?_
  refine y_newa' C (N := 40) (by decide +kernel) (by decide +kernel) (Nat.le_of_ble_eq_true rfl) ⟨Nat.le_of_ble_eq_true rfl, Nat.le_of_ble_eq_true rfl⟩ dX8_init_161 (fun a12 => ?_)
  refine y_putF C hin2 (fs := [.ref a1, .ref a2, .ref a3, .ref a4, .int 0, .ref a5, .ref a6, .ref a7, .int 0, .int 0, .int 0, .int 0, .long 0, .int 0, .int 0, .ref a8, .ref a9, .ref a10, .ref a11, .null]) tyX8 xin_X8 tyX8_ok nmX8 rfl 19 (by decide) (xm 851 (by decide +kernel) (by decide +kernel)) rfl rfl (tyX8_ok 19 (by decide)) (v := .ref a12) rfl rfl (Nat.le_of_ble_eq_true rfl) dX8_init_163 ?_
  refine y_aload_n C 0 dX8_init_166 rfl rfl ?_
  refine y_get C (fs := [.ref a1, .ref a2, .ref a3, .ref a4, .int 0, .ref a5, .ref a6, .ref a7, .int 0, .int 0, .int 0, .int 0, .long 0, .int 0, .int 0, .ref a8, .ref a9, .ref a10, .ref a11, .ref a12]) xin_X8 rfl 0 (by decide) (xm 832 (by decide +kernel) (by decide +kernel)) rfl (v := .ref a1) rfl dX8_init_167 ?_
  refine y_iconst C (v := 0) dX8_init_170 (by decide +kernel) ?_
  refine y_bipush C (v := 10) dX8_init_171 (by decide +kernel) ?_
  refine y_ast C 1 (j := 0) (ws' := (h0, .inr (8, [.ref a1, .ref a2, .ref a3, .ref a4, .int 0, .ref a5, .ref a6, .ref a7, .int 0, .int 0, .int 0, .int 0, .long 0, .int 0, .int 0, .ref a8, .ref a9, .ref a10, .ref a11, .ref a12])) :: (ysn (ysn (ysn (ysn (ysn (ysn (ysn (ysn (ysn (ysn (ysn (ysn ([] : va_W) (a1, .inl (cI, 284, .inl (upd (fun _ => 0) 0 10)))) (a2, .inl (cI, 284, .inl (fun _ => 0)))) (a3, .inl (cI, 284, .inl (fun _ => 0)))) (a4, .inl (cI, 284, .inl (fun _ => 0)))) (a5, .inl (cI, 7, .inl (fun _ => 0)))) (a6, .inl (cI, 12, .inl (upd (upd (upd (upd (upd (upd (upd (upd (upd (upd (upd (upd (fun _ => 0) 0 0) 1 50) 2 87) 3 100) 4 87) 5 50) 6 0) 7 (-50)) 8 (-87)) 9 (-100)) 10 (-87)) 11 (-50))))) (a7, .inl (cI, 100, .inl (fun _ => 0)))) (a8, .inl (cI, 3, .inl (fun _ => 0)))) (a9, .inl (cI, 4, .inl (fun _ => 0)))) (a10, .inl (cI, 4, .inl (fun _ => 0)))) (a11, .inl (cI, 160, .inl (fun _ => 0)))) (a12, .inl (cI, 40, .inl (fun _ => 0))))) rfl rfl (by decide +kernel) (vp_in_nI (n := 0) (by decide +kernel) (by decide +kernel)) dX8_init_173 ?_
  refine y_aload_n C 0 dX8_init_174 rfl rfl ?_
  refine y_get C (fs := [.ref a1, .ref a2, .ref a3, .ref a4, .int 0, .ref a5, .ref a6, .ref a7, .int 0, .int 0, .int 0, .int 0, .long 0, .int 0, .int 0, .ref a8, .ref a9, .ref a10, .ref a11, .ref a12]) xin_X8 rfl 0 (by decide) (xm 832 (by decide +kernel) (by decide +kernel)) rfl (v := .ref a1) rfl dX8_init_175 ?_
  refine y_iconst C (v := 1) dX8_init_178 (by decide +kernel) ?_
  refine y_iconst C (v := 5) dX8_init_179 (by decide +kernel) ?_
  refine y_ast C 1 (j := 1) (ws' := (h0, .inr (8, [.ref a1, .ref a2, .ref a3, .ref a4, .int 0, .ref a5, .ref a6, .ref a7, .int 0, .int 0, .int 0, .int 0, .long 0, .int 0, .int 0, .ref a8, .ref a9, .ref a10, .ref a11, .ref a12])) :: (ysn (ysn (ysn (ysn (ysn (ysn (ysn (ysn (ysn (ysn (ysn (ysn ([] : va_W) (a1, .inl (cI, 284, .inl (upd (upd (fun _ => 0) 0 10) 1 5)))) (a2, .inl (cI, 284, .inl (fun _ => 0)))) (a3, .inl (cI, 284, .inl (fun _ => 0)))) (a4, .inl (cI, 284, .inl (fun _ => 0)))) (a5, .inl (cI, 7, .inl (fun _ => 0)))) (a6, .inl (cI, 12, .inl (upd (upd (upd (upd (upd (upd (upd (upd (upd (upd (upd (upd (fun _ => 0) 0 0) 1 50) 2 87) 3 100) 4 87) 5 50) 6 0) 7 (-50)) 8 (-87)) 9 (-100)) 10 (-87)) 11 (-50))))) (a7, .inl (cI, 100, .inl (fun _ => 0)))) (a8, .inl (cI, 3, .inl (fun _ => 0)))) (a9, .inl (cI, 4, .inl (fun _ => 0)))) (a10, .inl (cI, 4, .inl (fun _ => 0)))) (a11, .inl (cI, 160, .inl (fun _ => 0)))) (a12, .inl (cI, 40, .inl (fun _ => 0))))) rfl rfl (by decide +kernel) (vp_in_nI (n := 1) (by decide +kernel) (by decide +kernel)) dX8_init_180 ?_
  refine y_aload_n C 0 dX8_init_181 rfl rfl ?_
  refine y_get C (fs := [.ref a1, .ref a2, .ref a3, .ref a4, .int 0, .ref a5, .ref a6, .ref a7, .int 0, .int 0, .int 0, .int 0, .long 0, .int 0, .int 0, .ref a8, .ref a9, .ref a10, .ref a11, .ref a12]) xin_X8 rfl 0 (by decide) (xm 832 (by decide +kernel) (by decide +kernel)) rfl (v := .ref a1) rfl dX8_init_182 ?_
  refine y_iconst C (v := 2) dX8_init_185 (by decide +kernel) ?_
  refine y_bipush C (v := 10) dX8_init_186 (by decide +kernel) ?_
  refine y_ast C 1 (j := 2) (ws' := (h0, .inr (8, [.ref a1, .ref a2, .ref a3, .ref a4, .int 0, .ref a5, .ref a6, .ref a7, .int 0, .int 0, .int 0, .int 0, .long 0, .int 0, .int 0, .ref a8, .ref a9, .ref a10, .ref a11, .ref a12])) :: (ysn (ysn (ysn (ysn (ysn (ysn (ysn (ysn (ysn (ysn (ysn (ysn ([] : va_W) (a1, .inl (cI, 284, .inl (upd (upd (upd (fun _ => 0) 0 10) 1 5) 2 10)))) (a2, .inl (cI, 284, .inl (fun _ => 0)))) (a3, .inl (cI, 284, .inl (fun _ => 0)))) (a4, .inl (cI, 284, .inl (fun _ => 0)))) (a5, .inl (cI, 7, .inl (fun _ => 0)))) (a6, .inl (cI, 12, .inl (upd (upd (upd (upd (upd (upd (upd (upd (upd (upd (upd (upd (fun _ => 0) 0 0) 1 50) 2 87) 3 100) 4 87) 5 50) 6 0) 7 (-50)) 8 (-87)) 9 (-100)) 10 (-87)) 11 (-50))))) (a7, .inl (cI, 100, .inl (fun _ => 0)))) (a8, .inl (cI, 3, .inl (fun _ => 0)))) (a9, .inl (cI, 4, .inl (fun _ => 0)))) (a10, .inl (cI, 4, .inl (fun _ => 0)))) (a11, .inl (cI, 160, .inl (fun _ => 0)))) (a12, .inl (cI, 40, .inl (fun _ => 0))))) rfl rfl (by decide +kernel) (vp_in_nI (n := 2) (by decide +kernel) (by decide +kernel)) dX8_init_188 ?_
  refine y_aload_n C 0 dX8_init_189 rfl rfl ?_
  refine y_get C (fs := [.ref a1, .ref a2, .ref a3, .ref a4, .int 0, .ref a5, .ref a6, .ref a7, .int 0, .int 0, .int 0, .int 0, .long 0, .int 0, .int 0, .ref a8, .ref a9, .ref a10, .ref a11, .ref a12]) xin_X8 rfl 0 (by decide) (xm 832 (by decide +kernel) (by decide +kernel)) rfl (v := .ref a1) rfl dX8_init_190 ?_
  refine y_iconst C (v := 3) dX8_init_193 (by decide +kernel) ?_
  refine y_bipush C (v := 10) dX8_init_194 (by decide +kernel) ?_
  refine y_ast C 1 (j := 3) (ws' := (h0, .inr (8, [.ref a1, .ref a2, .ref a3, .ref a4, .int 0, .ref a5, .ref a6, .ref a7, .int 0, .int 0, .int 0, .int 0, .long 0, .int 0, .int 0, .ref a8, .ref a9, .ref a10, .ref a11, .ref a12])) :: (ysn (ysn (ysn (ysn (ysn (ysn (ysn (ysn (ysn (ysn (ysn (ysn ([] : va_W) (a1, .inl (cI, 284, .inl (upd (upd (upd (upd (fun _ => 0) 0 10) 1 5) 2 10) 3 10)))) (a2, .inl (cI, 284, .inl (fun _ => 0)))) (a3, .inl (cI, 284, .inl (fun _ => 0)))) (a4, .inl (cI, 284, .inl (fun _ => 0)))) (a5, .inl (cI, 7, .inl (fun _ => 0)))) (a6, .inl (cI, 12, .inl (upd (upd (upd (upd (upd (upd (upd (upd (upd (upd (upd (upd (fun _ => 0) 0 0) 1 50) 2 87) 3 100) 4 87) 5 50) 6 0) 7 (-50)) 8 (-87)) 9 (-100)) 10 (-87)) 11 (-50))))) (a7, .inl (cI, 100, .inl (fun _ => 0)))) (a8, .inl (cI, 3, .inl (fun _ => 0)))) (a9, .inl (cI, 4, .inl (fun _ => 0)))) (a10, .inl (cI, 4, .inl (fun _ => 0)))) (a11, .inl (cI, 160, .inl (fun _ => 0)))) (a12, .inl (cI, 40, .inl (fun _ => 0))))) rfl rfl (by decide +kernel) (vp_in_nI (n := 3) (by decide +kernel) (by decide +kernel)) dX8_init_196 ?_
  refine y_aload_n C 0 dX8_init_197 rfl rfl ?_
  refine y_get C (fs := [.ref a1, .ref a2, .ref a3, .ref a4, .int 0, .ref a5, .ref a6, .ref a7, .int 0, .int 0, .int 0, .int 0, .long 0, .int 0, .int 0, .ref a8, .ref a9, .ref a10, .ref a11, .ref a12]) xin_X8 rfl 0 (by decide) (xm 832 (by decide +kernel) (by decide +kernel)) rfl (v := .ref a1) rfl dX8_init_198 ?_
  refine y_bipush C (v := 12) dX8_init_201 (by decide +kernel) ?_
  refine y_iconst C (v := 1) dX8_init_203 (by decide +kernel) ?_
  refine y_ast C 1 (j := 12) (ws' := (h0, .inr (8, [.ref a1, .ref a2, .ref a3, .ref a4, .int 0, .ref a5, .ref a6, .ref a7, .int 0, .int 0, .int 0, .int 0, .long 0, .int 0, .int 0, .ref a8, .ref a9, .ref a10, .ref a11, .ref a12])) :: (ysn (ysn (ysn (ysn (ysn (ysn (ysn (ysn (ysn (ysn (ysn (ysn ([] : va_W) (a1, .inl (cI, 284, .inl (upd (upd (upd (upd (upd (fun _ => 0) 0 10) 1 5) 2 10) 3 10) 12 1)))) (a2, .inl (cI, 284, .inl (fun _ => 0)))) (a3, .inl (cI, 284, .inl (fun _ => 0)))) (a4, .inl (cI, 284, .inl (fun _ => 0)))) (a5, .inl (cI, 7, .inl (fun _ => 0)))) (a6, .inl (cI, 12, .inl (upd (upd (upd (upd (upd (upd (upd (upd (upd (upd (upd (upd (fun _ => 0) 0 0) 1 50) 2 87) 3 100) 4 87) 5 50) 6 0) 7 (-50)) 8 (-87)) 9 (-100)) 10 (-87)) 11 (-50))))) (a7, .inl (cI, 100, .inl (fun _ => 0)))) (a8, .inl (cI, 3, .inl (fun _ => 0)))) (a9, .inl (cI, 4, .inl (fun _ => 0)))) (a10, .inl (cI, 4, .inl (fun _ => 0)))) (a11, .inl (cI, 160, .inl (fun _ => 0)))) (a12, .inl (cI, 40, .inl (fun _ => 0))))) rfl rfl (by decide +kernel) (vp_in_nI (n := 12) (by decide +kernel) (by decide +kernel)) dX8_init_204 ?_
  refine y_iconst C (v := 0) dX8_init_205 (by decide +kernel) ?_
  refine y_istore_n C (lv1 := [(1, .int 0), (0, .ref h0)]) dX8_init_206 rfl (by decide) rfl ?_
  refine y_iload_n C 0 dX8_init_207 rfl rfl ?_
  refine y_bipush C (v := 10) dX8_init_208 (by decide +kernel) ?_
  refine y_ge_f C (tgt := 229) dX8_init_210 (by decide) (by decide) ?_
  refine y_aload_n C 1 dX8_init_213 rfl rfl ?_
  refine y_get C (fs := [.ref a1, .ref a2, .ref a3, .ref a4, .int 0, .ref a5, .ref a6, .ref a7, .int 0, .int 0, .int 0, .int 0, .long 0, .int 0, .int 0, .ref a8, .ref a9, .ref a10, .ref a11, .ref a12]) xin_X8 rfl 0 (by decide) (xm 832 (by decide +kernel) (by decide +kernel)) rfl (v := .ref a1) rfl dX8_init_214 ?_
  refine y_bipush C (v := 124) dX8_init_217 (by decide +kernel) ?_
  refine y_iload_n C 0 dX8_init_219 rfl rfl ?_
  refine y_iadd C (v := 124) dX8_init_220 (by decide +kernel) ?_
  refine y_iconst C (v := (-1)) dX8_init_221 (by decide +kernel) ?_
  refine y_ast C 1 (j := 124) (ws' := (h0, .inr (8, [.ref a1, .ref a2, .ref a3, .ref a4, .int 0, .ref a5, .ref a6, .ref a7, .int 0, .int 0, .int 0, .int 0, .long 0, .int 0, .int 0, .ref a8, .ref a9, .ref a10, .ref a11, .ref a12])) :: (ysn (ysn (ysn (ysn (ysn (ysn (ysn (ysn (ysn (ysn (ysn (ysn ([] : va_W) (a1, .inl (cI, 284, .inl (upd (upd (upd (upd (upd (upd (fun _ => 0) 0 10) 1 5) 2 10) 3 10) 12 1) 124 (-1))))) (a2, .inl (cI, 284, .inl (fun _ => 0)))) (a3, .inl (cI, 284, .inl (fun _ => 0)))) (a4, .inl (cI, 284, .inl (fun _ => 0)))) (a5, .inl (cI, 7, .inl (fun _ => 0)))) (a6, .inl (cI, 12, .inl (upd (upd (upd (upd (upd (upd (upd (upd (upd (upd (upd (upd (fun _ => 0) 0 0) 1 50) 2 87) 3 100) 4 87) 5 50) 6 0) 7 (-50)) 8 (-87)) 9 (-100)) 10 (-87)) 11 (-50))))) (a7, .inl (cI, 100, .inl (fun _ => 0)))) (a8, .inl (cI, 3, .inl (fun _ => 0)))) (a9, .inl (cI, 4, .inl (fun _ => 0)))) (a10, .inl (cI, 4, .inl (fun _ => 0)))) (a11, .inl (cI, 160, .inl (fun _ => 0)))) (a12, .inl (cI, 40, .inl (fun _ => 0))))) rfl rfl (by decide +kernel) (vp_in_nI (n := 124) (by decide +kernel) (by decide +kernel)) dX8_init_222 ?_
  refine y_iinc C (v := 1) (lv1 := [(1, .int 1), (0, .ref h0)]) 0 dX8_init_223 rfl (by decide) (by decide) rfl ?_
  refine y_goto C (tgt := 207) dX8_init_226 (by decide) ?_
  refine y_iload_n C 0 dX8_init_207 rfl rfl ?_
  refine y_bipush C (v := 10) dX8_init_208 (by decide +kernel) ?_
  refine y_ge_f C (tgt := 229) dX8_init_210 (by decide) (by decide) ?_
  refine y_aload_n C 1 dX8_init_213 rfl rfl ?_
  refine y_get C (fs := [.ref a1, .ref a2, .ref a3, .ref a4, .int 0, .ref a5, .ref a6, .ref a7, .int 0, .int 0, .int 0, .int 0, .long 0, .int 0, .int 0, .ref a8, .ref a9, .ref a10, .ref a11, .ref a12]) xin_X8 rfl 0 (by decide) (xm 832 (by decide +kernel) (by decide +kernel)) rfl (v := .ref a1) rfl dX8_init_214 ?_
  refine y_bipush C (v := 124) dX8_init_217 (by decide +kernel) ?_
  refine y_iload_n C 0 dX8_init_219 rfl rfl ?_
  refine y_iadd C (v := 125) dX8_init_220 (by decide +kernel) ?_
  refine y_iconst C (v := (-1)) dX8_init_221 (by decide +kernel) ?_
  refine y_ast C 1 (j := 125) (ws' := (h0, .inr (8, [.ref a1, .ref a2, .ref a3, .ref a4, .int 0, .ref a5, .ref a6, .ref a7, .int 0, .int 0, .int 0, .int 0, .long 0, .int 0, .int 0, .ref a8, .ref a9, .ref a10, .ref a11, .ref a12])) :: (ysn (ysn (ysn (ysn (ysn (ysn (ysn (ysn (ysn (ysn (ysn (ysn ([] : va_W) (a1, .inl (cI, 284, .inl (upd (upd (upd (upd (upd (upd (upd (fun _ => 0) 0 10) 1 5) 2 10) 3 10) 12 1) 124 (-1)) 125 (-1))))) (a2, .inl (cI, 284, .inl (fun _ => 0)))) (a3, .inl (cI, 284, .inl (fun _ => 0)))) (a4, .inl (cI, 284, .inl (fun _ => 0)))) (a5, .inl (cI, 7, .inl (fun _ => 0)))) (a6, .inl (cI, 12, .inl (upd (upd (upd (upd (upd (upd (upd (upd (upd (upd (upd (upd (fun _ => 0) 0 0) 1 50) 2 87) 3 100) 4 87) 5 50) 6 0) 7 (-50)) 8 (-87)) 9 (-100)) 10 (-87)) 11 (-50))))) (a7, .inl (cI, 100, .inl (fun _ => 0)))) (a8, .inl (cI, 3, .inl (fun _ => 0)))) (a9, .inl (cI, 4, .inl (fun _ => 0)))) (a10, .inl (cI, 4, .inl (fun _ => 0)))) (a11, .inl (cI, 160, .inl (fun _ => 0)))) (a12, .inl (cI, 40, .inl (fun _ => 0))))) rfl rfl (by decide +kernel) (vp_in_nI (n := 125) (by decide +kernel) (by decide +kernel)) dX8_init_222 ?_
  refine y_iinc C (v := 2) (lv1 := [(1, .int 2), (0, .ref h0)]) 0 dX8_init_223 rfl (by decide) (by decide) rfl ?_
  refine y_goto C (tgt := 207) dX8_init_226 (by decide) ?_
  refine y_iload_n C 0 dX8_init_207 rfl rfl ?_
  refine y_bipush C (v := 10) dX8_init_208 (by decide +kernel) ?_
  refine y_ge_f C (tgt := 229) dX8_init_210 (by decide) (by decide) ?_
  refine y_aload_n C 1 dX8_init_213 rfl rfl ?_
  refine y_get C (fs := [.ref a1, .ref a2, .ref a3, .ref a4, .int 0, .ref a5, .ref a6, .ref a7, .int 0, .int 0, .int 0, .int 0, .long 0, .int 0, .int 0, .ref a8, .ref a9, .ref a10, .ref a11, .ref a12]) xin_X8 rfl 0 (by decide) (xm 832 (by decide +kernel) (by decide +kernel)) rfl (v := .ref a1) rfl dX8_init_214 ?_
  refine y_bipush C (v := 124) dX8_init_217 (by decide +kernel) ?_
  refine y_iload_n C 0 dX8_init_219 rfl rfl ?_
  refine y_iadd C (v := 126) dX8_init_220 (by decide +kernel) ?_
  refine y_iconst C (v := (-1)) dX8_init_221 (by decide +kernel) ?_
  refine y_ast C 1 (j := 126) (ws' := (h0, .inr (8, [.ref a1, .ref a2, .ref a3, .ref a4, .int 0, .ref a5, .ref a6, .ref a7, .int 0, .int 0, .int 0, .int 0, .long 0, .int 0, .int 0, .ref a8, .ref a9, .ref a10, .ref a11, .ref a12])) :: (ysn (ysn (ysn (ysn (ysn (ysn (ysn (ysn (ysn (ysn (ysn (ysn ([] : va_W) (a1, .inl (cI, 284, .inl (upd (upd (upd (upd (upd (upd (upd (upd (fun _ => 0) 0 10) 1 5) 2 10) 3 10) 12 1) 124 (-1)) 125 (-1)) 126 (-1))))) (a2, .inl (cI, 284, .inl (fun _ => 0)))) (a3, .inl (cI, 284, .inl (fun _ => 0)))) (a4, .inl (cI, 284, .inl (fun _ => 0)))) (a5, .inl (cI, 7, .inl (fun _ => 0)))) (a6, .inl (cI, 12, .inl (upd (upd (upd (upd (upd (upd (upd (upd (upd (upd (upd (upd (fun _ => 0) 0 0) 1 50) 2 87) 3 100) 4 87) 5 50) 6 0) 7 (-50)) 8 (-87)) 9 (-100)) 10 (-87)) 11 (-50))))) (a7, .inl (cI, 100, .inl (fun _ => 0)))) (a8, .inl (cI, 3, .inl (fun _ => 0)))) (a9, .inl (cI, 4, .inl (fun _ => 0)))) (a10, .inl (cI, 4, .inl (fun _ => 0)))) (a11, .inl (cI, 160, .inl (fun _ => 0)))) (a12, .inl (cI, 40, .inl (fun _ => 0))))) rfl rfl (by decide +kernel) (vp_in_nI (n := 126) (by decide +kernel) (by decide +kernel)) dX8_init_222 ?_
  refine y_iinc C (v := 3) (lv1 := [(1, .int 3), (0, .ref h0)]) 0 dX8_init_223 rfl (by decide) (by decide) rfl ?_
  refine y_goto C (tgt := 207) dX8_init_226 (by decide) ?_
  refine y_iload_n C 0 dX8_init_207 rfl rfl ?_
  refine y_bipush C (v := 10) dX8_init_208 (by decide +kernel) ?_
  refine y_ge_f C (tgt := 229) dX8_init_210 (by decide) (by decide) ?_
  refine y_aload_n C 1 dX8_init_213 rfl rfl ?_
  refine y_get C (fs := [.ref a1, .ref a2, .ref a3, .ref a4, .int 0, .ref a5, .ref a6, .ref a7, .int 0, .int 0, .int 0, .int 0, .long 0, .int 0, .int 0, .ref a8, .ref a9, .ref a10, .ref a11, .ref a12]) xin_X8 rfl 0 (by decide) (xm 832 (by decide +kernel) (by decide +kernel)) rfl (v := .ref a1) rfl dX8_init_214 ?_
  refine y_bipush C (v := 124) dX8_init_217 (by decide +kernel) ?_
  refine y_iload_n C 0 dX8_init_219 rfl rfl ?_
  refine y_iadd C (v := 127) dX8_init_220 (by decide +kernel) ?_
  refine y_iconst C (v := (-1)) dX8_init_221 (by decide +kernel) ?_
  refine y_ast C 1 (j := 127) (ws' := (h0, .inr (8, [.ref a1, .ref a2, .ref a3, .ref a4, .int 0, .ref a5, .ref a6, .ref a7, .int 0, .int 0, .int 0, .int 0, .long 0, .int 0, .int 0, .ref a8, .ref a9, .ref a10, .ref a11, .ref a12])) :: (ysn (ysn (ysn (ysn (ysn (ysn (ysn (ysn (ysn (ysn (ysn (ysn ([] : va_W) (a1, .inl (cI, 284, .inl (upd (upd (upd (upd (upd (upd (upd (upd (upd (fun _ => 0) 0 10) 1 5) 2 10) 3 10) 12 1) 124 (-1)) 125 (-1)) 126 (-1)) 127 (-1))))) (a2, .inl (cI, 284, .inl (fun _ => 0)))) (a3, .inl (cI, 284, .inl (fun _ => 0)))) (a4, .inl (cI, 284, .inl (fun _ => 0)))) (a5, .inl (cI, 7, .inl (fun _ => 0)))) (a6, .inl (cI, 12, .inl (upd (upd (upd (upd (upd (upd (upd (upd (upd (upd (upd (upd (fun _ => 0) 0 0) 1 50) 2 87) 3 100) 4 87) 5 50) 6 0) 7 (-50)) 8 (-87)) 9 (-100)) 10 (-87)) 11 (-50))))) (a7, .inl (cI, 100, .inl (fun _ => 0)))) (a8, .inl (cI, 3, .inl (fun _ => 0)))) (a9, .inl (cI, 4, .inl (fun _ => 0)))) (a10, .inl (cI, 4, .inl (fun _ => 0)))) (a11, .inl (cI, 160, .inl (fun _ => 0)))) (a12, .inl (cI, 40, .inl (fun _ => 0))))) rfl rfl (by decide +kernel) (vp_in_nI (n := 127) (by decide +kernel) (by decide +kernel)) dX8_init_222 ?_
  refine y_iinc C (v := 4) (lv1 := [(1, .int 4), (0, .ref h0)]) 0 dX8_init_223 rfl (by decide) (by decide) rfl ?_
  refine y_goto C (tgt := 207) dX8_init_226 (by decide) ?_
  refine y_iload_n C 0 dX8_init_207 rfl rfl ?_
  refine y_bipush C (v := 10) dX8_init_208 (by decide +kernel) ?_
  refine y_ge_f C (tgt := 229) dX8_init_210 (by decide) (by decide) ?_
  refine y_aload_n C 1 dX8_init_213 rfl rfl ?_
  refine y_get C (fs := [.ref a1, .ref a2, .ref a3, .ref a4, .int 0, .ref a5, .ref a6, .ref a7, .int 0, .int 0, .int 0, .int 0, .long 0, .int 0, .int 0, .ref a8, .ref a9, .ref a10, .ref a11, .ref a12]) xin_X8 rfl 0 (by decide) (xm 832 (by decide +kernel) (by decide +kernel)) rfl (v := .ref a1) rfl dX8_init_214 ?_
  refine y_bipush C (v := 124) dX8_init_217 (by decide +kernel) ?_
  refine y_iload_n C 0 dX8_init_219 rfl rfl ?_
  refine y_iadd C (v := 128) dX8_init_220 (by decide +kernel) ?_
  refine y_iconst C (v := (-1)) dX8_init_221 (by decide +kernel) ?_
  refine y_ast C 1 (j := 128) (ws' := (h0, .inr (8, [.ref a1, .ref a2, .ref a3, .ref a4, .int 0, .ref a5, .ref a6, .ref a7, .int 0, .int 0, .int 0, .int 0, .long 0, .int 0, .int 0, .ref a8, .ref a9, .ref a10, .ref a11, .ref a12])) :: (ysn (ysn (ysn (ysn (ysn (ysn (ysn (ysn (ysn (ysn (ysn (ysn ([] : va_W) (a1, .inl (cI, 284, .inl (upd (upd (upd (upd (upd (upd (upd (upd (upd (upd (fun _ => 0) 0 10) 1 5) 2 10) 3 10) 12 1) 124 (-1)) 125 (-1)) 126 (-1)) 127 (-1)) 128 (-1))))) (a2, .inl (cI, 284, .inl (fun _ => 0)))) (a3, .inl (cI, 284, .inl (fun _ => 0)))) (a4, .inl (cI, 284, .inl (fun _ => 0)))) (a5, .inl (cI, 7, .inl (fun _ => 0)))) (a6, .inl (cI, 12, .inl (upd (upd (upd (upd (upd (upd (upd (upd (upd (upd (upd (upd (fun _ => 0) 0 0) 1 50) 2 87) 3 100) 4 87) 5 50) 6 0) 7 (-50)) 8 (-87)) 9 (-100)) 10 (-87)) 11 (-50))))) (a7, .inl (cI, 100, .inl (fun _ => 0)))) (a8, .inl (cI, 3, .inl (fun _ => 0)))) (a9, .inl (cI, 4, .inl (fun _ => 0)))) (a10, .inl (cI, 4, .inl (fun _ => 0)))) (a11, .inl (cI, 160, .inl (fun _ => 0)))) (a12, .inl (cI, 40, .inl (fun _ => 0))))) rfl rfl (by decide +kernel) (vp_in_nI (n := 128) (by decide +kernel) (by decide +kernel)) dX8_init_222 ?_
  refine y_iinc C (v := 5) (lv1 := [(1, .int 5), (0, .ref h0)]) 0 dX8_init_223 rfl (by decide) (by decide) rfl ?_
  refine y_goto C (tgt := 207) dX8_init_226 (by decide) ?_
  refine y_iload_n C 0 dX8_init_207 rfl rfl ?_
  refine y_bipush C (v := 10) dX8_init_208 (by decide +kernel) ?_
  refine y_ge_f C (tgt := 229) dX8_init_210 (by decide) (by decide) ?_
  refine y_aload_n C 1 dX8_init_213 rfl rfl ?_
  refine y_get C (fs := [.ref a1, .ref a2, .ref a3, .ref a4, .int 0, .ref a5, .ref a6, .ref a7, .int 0, .int 0, .int 0, .int 0, .long 0, .int 0, .int 0, .ref a8, .ref a9, .ref a10, .ref a11, .ref a12]) xin_X8 rfl 0 (by decide) (xm 832 (by decide +kernel) (by decide +kernel)) rfl (v := .ref a1) rfl dX8_init_214 ?_
  refine y_bipush C (v := 124) dX8_init_217 (by decide +kernel) ?_
  refine y_iload_n C 0 dX8_init_219 rfl rfl ?_
  refine y_iadd C (v := 129) dX8_init_220 (by decide +kernel) ?_
  refine y_iconst C (v := (-1)) dX8_init_221 (by decide +kernel) ?_
  refine y_ast C 1 (j := 129) (ws' := (h0, .inr (8, [.ref a1, .ref a2, .ref a3, .ref a4, .int 0, .ref a5, .ref a6, .ref a7, .int 0, .int 0, .int 0, .int 0, .long 0, .int 0, .int 0, .ref a8, .ref a9, .ref a10, .ref a11, .ref a12])) :: (ysn (ysn (ysn (ysn (ysn (ysn (ysn (ysn (ysn (ysn (ysn (ysn ([] : va_W) (a1, .inl (cI, 284, .inl (upd (upd (upd (upd (upd (upd (upd (upd (upd (upd (upd (fun _ => 0) 0 10) 1 5) 2 10) 3 10) 12 1) 124 (-1)) 125 (-1)) 126 (-1)) 127 (-1)) 128 (-1)) 129 (-1))))) (a2, .inl (cI, 284, .inl (fun _ => 0)))) (a3, .inl (cI, 284, .inl (fun _ => 0)))) (a4, .inl (cI, 284, .inl (fun _ => 0)))) (a5, .inl (cI, 7, .inl (fun _ => 0)))) (a6, .inl (cI, 12, .inl (upd (upd (upd (upd (upd (upd (upd (upd (upd (upd (upd (upd (fun _ => 0) 0 0) 1 50) 2 87) 3 100) 4 87) 5 50) 6 0) 7 (-50)) 8 (-87)) 9 (-100)) 10 (-87)) 11 (-50))))) (a7, .inl (cI, 100, .inl (fun _ => 0)))) (a8, .inl (cI, 3, .inl (fun _ => 0)))) (a9, .inl (cI, 4, .inl (fun _ => 0)))) (a10, .inl (cI, 4, .inl (fun _ => 0)))) (a11, .inl (cI, 160, .inl (fun _ => 0)))) (a12, .inl (cI, 40, .inl (fun _ => 0))))) rfl rfl (by decide +kernel) (vp_in_nI (n := 129) (by decide +kernel) (by decide +kernel)) dX8_init_222 ?_
  refine y_iinc C (v := 6) (lv1 := [(1, .int 6), (0, .ref h0)]) 0 dX8_init_223 rfl (by decide) (by decide) rfl ?_
  refine y_goto C (tgt := 207) dX8_init_226 (by decide) ?_
  refine y_iload_n C 0 dX8_init_207 rfl rfl ?_
  refine y_bipush C (v := 10) dX8_init_208 (by decide +kernel) ?_
  refine y_ge_f C (tgt := 229) dX8_init_210 (by decide) (by decide) ?_
  refine y_aload_n C 1 dX8_init_213 rfl rfl ?_
  refine y_get C (fs := [.ref a1, .ref a2, .ref a3, .ref a4, .int 0, .ref a5, .ref a6, .ref a7, .int 0, .int 0, .int 0, .int 0, .long 0, .int 0, .int 0, .ref a8, .ref a9, .ref a10, .ref a11, .ref a12]) xin_X8 rfl 0 (by decide) (xm 832 (by decide +kernel) (by decide +kernel)) rfl (v := .ref a1) rfl dX8_init_214 ?_
  refine y_bipush C (v := 124) dX8_init_217 (by decide +kernel) ?_
  refine y_iload_n C 0 dX8_init_219 rfl rfl ?_
  refine y_iadd C (v := 130) dX8_init_220 (by decide +kernel) ?_
  refine y_iconst C (v := (-1)) dX8_init_221 (by decide +kernel) ?_
  refine y_ast C 1 (j := 130) (ws' := (h0, .inr (8, [.ref a1, .ref a2, .ref a3, .ref a4, .int 0, .ref a5, .ref a6, .ref a7, .int 0, .int 0, .int 0, .int 0, .long 0, .int 0, .int 0, .ref a8, .ref a9, .ref a10, .ref a11, .ref a12])) :: (ysn (ysn (ysn (ysn (ysn (ysn (ysn (ysn (ysn (ysn (ysn (ysn ([] : va_W) (a1, .inl (cI, 284, .inl (upd (upd (upd (upd (upd (upd (upd (upd (upd (upd (upd (upd (fun _ => 0) 0 10) 1 5) 2 10) 3 10) 12 1) 124 (-1)) 125 (-1)) 126 (-1)) 127 (-1)) 128 (-1)) 129 (-1)) 130 (-1))))) (a2, .inl (cI, 284, .inl (fun _ => 0)))) (a3, .inl (cI, 284, .inl (fun _ => 0)))) (a4, .inl (cI, 284, .inl (fun _ => 0)))) (a5, .inl (cI, 7, .inl (fun _ => 0)))) (a6, .inl (cI, 12, .inl (upd (upd (upd (upd (upd (upd (upd (upd (upd (upd (upd (upd (fun _ => 0) 0 0) 1 50) 2 87) 3 100) 4 87) 5 50) 6 0) 7 (-50)) 8 (-87)) 9 (-100)) 10 (-87)) 11 (-50))))) (a7, .inl (cI, 100, .inl (fun _ => 0)))) (a8, .inl (cI, 3, .inl (fun _ => 0)))) (a9, .inl (cI, 4, .inl (fun _ => 0)))) (a10, .inl (cI, 4, .inl (fun _ => 0)))) (a11, .inl (cI, 160, .inl (fun _ => 0)))) (a12, .inl (cI, 40, .inl (fun _ => 0))))) rfl rfl (by decide +kernel) (vp_in_nI (n := 130) (by decide +kernel) (by decide +kernel)) dX8_init_222 ?_
  refine y_iinc C (v := 7) (lv1 := [(1, .int 7), (0, .ref h0)]) 0 dX8_init_223 rfl (by decide) (by decide) rfl ?_
  refine y_goto C (tgt := 207) dX8_init_226 (by decide) ?_
  refine y_iload_n C 0 dX8_init_207 rfl rfl ?_
  refine y_bipush C (v := 10) dX8_init_208 (by decide +kernel) ?_
  refine y_ge_f C (tgt := 229) dX8_init_210 (by decide) (by decide) ?_
  refine y_aload_n C 1 dX8_init_213 rfl rfl ?_
  refine y_get C (fs := [.ref a1, .ref a2, .ref a3, .ref a4, .int 0, .ref a5, .ref a6, .ref a7, .int 0, .int 0, .int 0, .int 0, .long 0, .int 0, .int 0, .ref a8, .ref a9, .ref a10, .ref a11, .ref a12]) xin_X8 rfl 0 (by decide) (xm 832 (by decide +kernel) (by decide +kernel)) rfl (v := .ref a1) rfl dX8_init_214 ?_
  refine y_bipush C (v := 124) dX8_init_217 (by decide +kernel) ?_
  refine y_iload_n C 0 dX8_init_219 rfl rfl ?_
  refine y_iadd C (v := 131) dX8_init_220 (by decide +kernel) ?_
  refine y_iconst C (v := (-1)) dX8_init_221 (by decide +kernel) ?_
  refine y_ast C 1 (j := 131) (ws' := (h0, .inr (8, [.ref a1, .ref a2, .ref a3, .ref a4, .int 0, .ref a5, .ref a6, .ref a7, .int 0, .int 0, .int 0, .int 0, .long 0, .int 0, .int 0, .ref a8, .ref a9, .ref a10, .ref a11, .ref a12])) :: (ysn (ysn (ysn (ysn (ysn (ysn (ysn (ysn (ysn (ysn (ysn (ysn ([] : va_W) (a1, .inl (cI, 284, .inl (upd (upd (upd (upd (upd (upd (upd (upd (upd (upd (upd (upd (upd (fun _ => 0) 0 10) 1 5) 2 10) 3 10) 12 1) 124 (-1)) 125 (-1)) 126 (-1)) 127 (-1)) 128 (-1)) 129 (-1)) 130 (-1)) 131 (-1))))) (a2, .inl (cI, 284, .inl (fun _ => 0)))) (a3, .inl (cI, 284, .inl (fun _ => 0)))) (a4, .inl (cI, 284, .inl (fun _ => 0)))) (a5, .inl (cI, 7, .inl (fun _ => 0)))) (a6, .inl (cI, 12, .inl (upd (upd (upd (upd (upd (upd (upd (upd (upd (upd (upd (upd (fun _ => 0) 0 0) 1 50) 2 87) 3 100) 4 87) 5 50) 6 0) 7 (-50)) 8 (-87)) 9 (-100)) 10 (-87)) 11 (-50))))) (a7, .inl (cI, 100, .inl (fun _ => 0)))) (a8, .inl (cI, 3, .inl (fun _ => 0)))) (a9, .inl (cI, 4, .inl (fun _ => 0)))) (a10, .inl (cI, 4, .inl (fun _ => 0)))) (a11, .inl (cI, 160, .inl (fun _ => 0)))) (a12, .inl (cI, 40, .inl (fun _ => 0))))) rfl rfl (by decide +kernel) (vp_in_nI (n := 131) (by decide +kernel) (by decide +kernel)) dX8_init_222 ?_
  refine y_iinc C (v := 8) (lv1 := [(1, .int 8), (0, .ref h0)]) 0 dX8_init_223 rfl (by decide) (by decide) rfl ?_
  refine y_goto C (tgt := 207) dX8_init_226 (by decide) ?_
  refine y_iload_n C 0 dX8_init_207 rfl rfl ?_
  refine y_bipush C (v := 10) dX8_init_208 (by decide +kernel) ?_
  refine y_ge_f C (tgt := 229) dX8_init_210 (by decide) (by decide) ?_
  refine y_aload_n C 1 dX8_init_213 rfl rfl ?_
  refine y_get C (fs := [.ref a1, .ref a2, .ref a3, .ref a4, .int 0, .ref a5, .ref a6, .ref a7, .int 0, .int 0, .int 0, .int 0, .long 0, .int 0, .int 0, .ref a8, .ref a9, .ref a10, .ref a11, .ref a12]) xin_X8 rfl 0 (by decide) (xm 832 (by decide +kernel) (by decide +kernel)) rfl (v := .ref a1) rfl dX8_init_214 ?_
  refine y_bipush C (v := 124) dX8_init_217 (by decide +kernel) ?_
  refine y_iload_n C 0 dX8_init_219 rfl rfl ?_
  refine y_iadd C (v := 132) dX8_init_220 (by decide +kernel) ?_
  refine y_iconst C (v := (-1)) dX8_init_221 (by decide +kernel) ?_
  refine y_ast C 1 (j := 132) (ws' := (h0, .inr (8, [.ref a1, .ref a2, .ref a3, .ref a4, .int 0, .ref a5, .ref a6, .ref a7, .int 0, .int 0, .int 0, .int 0, .long 0, .int 0, .int 0, .ref a8, .ref a9, .ref a10, .ref a11, .ref a12])) :: (ysn (ysn (ysn (ysn (ysn (ysn (ysn (ysn (ysn (ysn (ysn (ysn ([] : va_W) (a1, .inl (cI, 284, .inl (upd (upd (upd (upd (upd (upd (upd (upd (upd (upd (upd (upd (upd (upd (fun _ => 0) 0 10) 1 5) 2 10) 3 10) 12 1) 124 (-1)) 125 (-1)) 126 (-1)) 127 (-1)) 128 (-1)) 129 (-1)) 130 (-1)) 131 (-1)) 132 (-1))))) (a2, .inl (cI, 284, .inl (fun _ => 0)))) (a3, .inl (cI, 284, .inl (fun _ => 0)))) (a4, .inl (cI, 284, .inl (fun _ => 0)))) (a5, .inl (cI, 7, .inl (fun _ => 0)))) (a6, .inl (cI, 12, .inl (upd (upd (upd (upd (upd (upd (upd (upd (upd (upd (upd (upd (fun _ => 0) 0 0) 1 50) 2 87) 3 100) 4 87) 5 50) 6 0) 7 (-50)) 8 (-87)) 9 (-100)) 10 (-87)) 11 (-50))))) (a7, .inl (cI, 100, .inl (fun _ => 0)))) (a8, .inl (cI, 3, .inl (fun _ => 0)))) (a9, .inl (cI, 4, .inl (fun _ => 0)))) (a10, .inl (cI, 4, .inl (fun _ => 0)))) (a11, .inl (cI, 160, .inl (fun _ => 0)))) (a12, .inl (cI, 40, .inl (fun _ => 0))))) rfl rfl (by decide +kernel) (vp_in_nI (n := 132) (by decide +kernel) (by decide +kernel)) dX8_init_222 ?_
  refine y_iinc C (v := 9) (lv1 := [(1, .int 9), (0, .ref h0)]) 0 dX8_init_223 rfl (by decide) (by decide) rfl ?_
  refine y_goto C (tgt := 207) dX8_init_226 (by decide) ?_
  refine y_iload_n C 0 dX8_init_207 rfl rfl ?_
  refine y_bipush C (v := 10) dX8_init_208 (by decide +kernel) ?_
  refine y_ge_f C (tgt := 229) dX8_init_210 (by decide) (by decide) ?_
  refine y_aload_n C 1 dX8_init_213 rfl rfl ?_
  refine y_get C (fs := [.ref a1, .ref a2, .ref a3, .ref a4, .int 0, .ref a5, .ref a6, .ref a7, .int 0, .int 0, .int 0, .int 0, .long 0, .int 0, .int 0, .ref a8, .ref a9, .ref a10, .ref a11, .ref a12]) xin_X8 rfl 0 (by decide) (xm 832 (by decide +kernel) (by decide +kernel)) rfl (v := .ref a1) rfl dX8_init_214 ?_
  refine y_bipush C (v := 124) dX8_init_217 (by decide +kernel) ?_
  refine y_iload_n C 0 dX8_init_219 rfl rfl ?_
  refine y_iadd C (v := 133) dX8_init_220 (by decide +kernel) ?_
  refine y_iconst C (v := (-1)) dX8_init_221 (by decide +kernel) ?_
  refine y_ast C 1 (j := 133) (ws' := (h0, .inr (8, [.ref a1, .ref a2, .ref a3, .ref a4, .int 0, .ref a5, .ref a6, .ref a7, .int 0, .int 0, .int 0, .int 0, .long 0, .int 0, .int 0, .ref a8, .ref a9, .ref a10, .ref a11, .ref a12])) :: (ysn (ysn (ysn (ysn (ysn (ysn (ysn (ysn (ysn (ysn (ysn (ysn ([] : va_W) (a1, .inl (cI, 284, .inl (upd (upd (upd (upd (upd (upd (upd (upd (upd (upd (upd (upd (upd (upd (upd (fun _ => 0) 0 10) 1 5) 2 10) 3 10) 12 1) 124 (-1)) 125 (-1)) 126 (-1)) 127 (-1)) 128 (-1)) 129 (-1)) 130 (-1)) 131 (-1)) 132 (-1)) 133 (-1))))) (a2, .inl (cI, 284, .inl (fun _ => 0)))) (a3, .inl (cI, 284, .inl (fun _ => 0)))) (a4, .inl (cI, 284, .inl (fun _ => 0)))) (a5, .inl (cI, 7, .inl (fun _ => 0)))) (a6, .inl (cI, 12, .inl (upd (upd (upd (upd (upd (upd (upd (upd (upd (upd (upd (upd (fun _ => 0) 0 0) 1 50) 2 87) 3 100) 4 87) 5 50) 6 0) 7 (-50)) 8 (-87)) 9 (-100)) 10 (-87)) 11 (-50))))) (a7, .inl (cI, 100, .inl (fun _ => 0)))) (a8, .inl (cI, 3, .inl (fun _ => 0)))) (a9, .inl (cI, 4, .inl (fun _ => 0)))) (a10, .inl (cI, 4, .inl (fun _ => 0)))) (a11, .inl (cI, 160, .inl (fun _ => 0)))) (a12, .inl (cI, 40, .inl (fun _ => 0))))) rfl rfl (by decide +kernel) (vp_in_nI (n := 133) (by decide +kernel) (by decide +kernel)) dX8_init_222 ?_
  refine y_iinc C (v := 10) (lv1 := [(1, .int 10), (0, .ref h0)]) 0 dX8_init_223 rfl (by decide) (by decide) rfl ?_
  refine y_goto C (tgt := 207) dX8_init_226 (by decide) ?_
  refine y_iload_n C 0 dX8_init_207 rfl rfl ?_
  refine y_bipush C (v := 10) dX8_init_208 (by decide +kernel) ?_
  refine y_ge_t C (tgt := 229) dX8_init_210 (by decide) (by decide) ?_
  exact y_ret C (res := mdL cI) (fun i => ([a1, a2, a3, a4, a5, a6, a7, a8, a9, a10, a11, a12] : List Nat).getD i 0) rfl ⟨Nat.le_of_ble_eq_true rfl, Nat.le_of_ble_eq_true rfl⟩ dX8_init_229
