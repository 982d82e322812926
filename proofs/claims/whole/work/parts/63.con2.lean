def mdL (cI : ClassId) (a : Nat) (q : Nat → Nat) : va_W := (a, .inr (8, [.ref (q 0), .ref (q 1), .ref (q 2), .ref (q 3), .int 0, .ref (q 4), .ref (q 5), .ref (q 6), .int 0, .int 0, .int 0, .int 0, .long 0, .int 0, .int 0, .ref (q 7), .ref (q 8), .ref (q 9), .ref (q 10), .ref (q 11)])) :: (ysn (ysn (ysn (ysn (ysn (ysn (ysn (ysn (ysn (ysn (ysn (ysn ([] : va_W) ((q 0), .inl (cI, 284, .inl (upd (upd (upd (upd (upd (upd (upd (upd (upd (upd (upd (upd (upd (upd (upd (fun _ => 0) 0 10) 1 5) 2 10) 3 10) 12 1) 124 (-1)) 125 (-1)) 126 (-1)) 127 (-1)) 128 (-1)) 129 (-1)) 130 (-1)) 131 (-1)) 132 (-1)) 133 (-1))))) ((q 1), .inl (cI, 284, .inl (fun _ => 0)))) ((q 2), .inl (cI, 284, .inl (fun _ => 0)))) ((q 3), .inl (cI, 284, .inl (fun _ => 0)))) ((q 4), .inl (cI, 7, .inl (fun _ => 0)))) ((q 5), .inl (cI, 12, .inl (upd (upd (upd (upd (upd (upd (upd (upd (upd (upd (upd (upd (fun _ => 0) 0 0) 1 50) 2 87) 3 100) 4 87) 5 50) 6 0) 7 (-50)) 8 (-87)) 9 (-100)) 10 (-87)) 11 (-50))))) ((q 6), .inl (cI, 100, .inl (fun _ => 0)))) ((q 7), .inl (cI, 3, .inl (fun _ => 0)))) ((q 8), .inl (cI, 4, .inl (fun _ => 0)))) ((q 9), .inl (cI, 4, .inl (fun _ => 0)))) ((q 10), .inl (cI, 160, .inl (fun _ => 0)))) ((q 11), .inl (cI, 40, .inl (fun _ => 0))))
set_option maxHeartbeats 4000000 in
set_option maxRecDepth 100000 in
theorem i_Md (l : Launch) (D : va_G) (cI cP cS : ClassId) : yM l yX8_init cX8_init 2 1 12 12 1466 D cI cP cS 8 [.null, .null, .null, .null, .int 0, .null, .null, .null, .int 0, .int 0, .int 0, .int 0, .long 0, .int 0, .int 0, .null, .null, .null, .null, .null] [] (mdL cI) := by
  refine yM_of (own := RX8) (by decide) rfl rfl (fun h0 => Nat.le_of_ble_eq_true rfl) ?_
  intro h0 p e s m args below meth c C hin2
  refine yW.to (ws' := (h0, .inr (8, [.null, .null, .null, .null, .int 0, .null, .null, .null, .int 0, .int 0, .int 0, .int 0, .long 0, .int 0, .int 0, .null, .null, .null, .null, .null])) :: ([] : va_W)) ?_ rfl
  refine y_aload_n C 0 dX8_init_0 rfl rfl ?_
  refine y_obj C (xm 830 (by decide +kernel) (by decide +kernel)) dX8_init_1 ⟨Nat.le_of_ble_eq_true rfl, Nat.le_of_ble_eq_true rfl⟩ ?_
  refine y_aload_n C 0 dX8_init_4 rfl rfl ?_
  refine y_sipush C (v := 284) dX8_init_5 (by decide +kernel) ?_
  refine y_newa' C (N := 284) (by decide +kernel) (by decide +kernel) (Nat.le_of_ble_eq_true rfl) ⟨Nat.le_of_ble_eq_true rfl, Nat.le_of_ble_eq_true rfl⟩ dX8_init_8 (fun a1 => ?_)
  refine y_putF C hin2 (fs := [.null, .null, .null, .null, .int 0, .null, .null, .null, .int 0, .int 0, .int 0, .int 0, .long 0, .int 0, .int 0, .null, .null, .null, .null, .null]) tyX8 xin_X8 tyX8_ok nmX8 rfl 0 (by decide) (xm 831 (by decide +kernel) (by decide +kernel)) rfl rfl (tyX8_ok 0 (by decide)) (v := .ref a1) rfl rfl (Nat.le_of_ble_eq_true rfl) dX8_init_10 ?_
  refine y_aload_n C 0 dX8_init_13 rfl rfl ?_
  refine y_sipush C (v := 284) dX8_init_14 (by decide +kernel) ?_
  refine y_newa' C (N := 284) (by decide +kernel) (by decide +kernel) (Nat.le_of_ble_eq_true rfl) ⟨Nat.le_of_ble_eq_true rfl, Nat.le_of_ble_eq_true rfl⟩ dX8_init_17 (fun a2 => ?_)
  refine y_putF C hin2 (fs := [.ref a1, .null, .null, .null, .int 0, .null, .null, .null, .int 0, .int 0, .int 0, .int 0, .long 0, .int 0, .int 0, .null, .null, .null, .null, .null]) tyX8 xin_X8 tyX8_ok nmX8 rfl 1 (by decide) (xm 832 (by decide +kernel) (by decide +kernel)) rfl rfl (tyX8_ok 1 (by decide)) (v := .ref a2) rfl rfl (Nat.le_of_ble_eq_true rfl) dX8_init_19 ?_
  refine y_aload_n C 0 dX8_init_22 rfl rfl ?_
  refine y_sipush C (v := 284) dX8_init_23 (by decide +kernel) ?_
  refine y_newa' C (N := 284) (by decide +kernel) (by decide +kernel) (Nat.le_of_ble_eq_true rfl) ⟨Nat.le_of_ble_eq_true rfl, Nat.le_of_ble_eq_true rfl⟩ dX8_init_26 (fun a3 => ?_)
  refine y_putF C hin2 (fs := [.ref a1, .ref a2, .null, .null, .int 0, .null, .null, .null, .int 0, .int 0, .int 0, .int 0, .long 0, .int 0, .int 0, .null, .null, .null, .null, .null]) tyX8 xin_X8 tyX8_ok nmX8 rfl 2 (by decide) (xm 833 (by decide +kernel) (by decide +kernel)) rfl rfl (tyX8_ok 2 (by decide)) (v := .ref a3) rfl rfl (Nat.le_of_ble_eq_true rfl) dX8_init_28 ?_
  refine y_aload_n C 0 dX8_init_31 rfl rfl ?_
  refine y_sipush C (v := 284) dX8_init_32 (by decide +kernel) ?_
  refine y_newa' C (N := 284) (by decide +kernel) (by decide +kernel) (Nat.le_of_ble_eq_true rfl) ⟨Nat.le_of_ble_eq_true rfl, Nat.le_of_ble_eq_true rfl⟩ dX8_init_35 (fun a4 => ?_)
  refine y_putF C hin2 (fs := [.ref a1, .ref a2, .ref a3, .null, .int 0, .null, .null, .null, .int 0, .int 0, .int 0, .int 0, .long 0, .int 0, .int 0, .null, .null, .null, .null, .null]) tyX8 xin_X8 tyX8_ok nmX8 rfl 3 (by decide) (xm 834 (by decide +kernel) (by decide +kernel)) rfl rfl (tyX8_ok 3 (by decide)) (v := .ref a4) rfl rfl (Nat.le_of_ble_eq_true rfl) dX8_init_37 ?_
  refine y_aload_n C 0 dX8_init_40 rfl rfl ?_
  refine y_bipush C (v := 7) dX8_init_41 (by decide +kernel) ?_
  refine y_newa' C (N := 7) (by decide +kernel) (by decide +kernel) (Nat.le_of_ble_eq_true rfl) ⟨Nat.le_of_ble_eq_true rfl, Nat.le_of_ble_eq_true rfl⟩ dX8_init_43 (fun a5 => ?_)
  refine y_putF C hin2 (fs := [.ref a1, .ref a2, .ref a3, .ref a4, .int 0, .null, .null, .null, .int 0, .int 0, .int 0, .int 0, .long 0, .int 0, .int 0, .null, .null, .null, .null, .null]) tyX8 xin_X8 tyX8_ok nmX8 rfl 5 (by decide) (xm 836 (by decide +kernel) (by decide +kernel)) rfl rfl (tyX8_ok 5 (by decide)) (v := .ref a5) rfl rfl (Nat.le_of_ble_eq_true rfl) dX8_init_45 ?_
  refine y_aload_n C 0 dX8_init_48 rfl rfl ?_
  refine y_bipush C (v := 12) dX8_init_49 (by decide +kernel) ?_
  refine y_newa' C (N := 12) (by decide +kernel) (by decide +kernel) (Nat.le_of_ble_eq_true rfl) ⟨Nat.le_of_ble_eq_true rfl, Nat.le_of_ble_eq_true rfl⟩ dX8_init_51 (fun a6 => ?_)
  refine y_dup C dX8_init_53 rfl ?_
  refine y_iconst C (v := 0) dX8_init_54 (by decide +kernel) ?_
  refine y_iconst C (v := 0) dX8_init_55 (by decide +kernel) ?_
  refine y_astL' C (j := 0) (by decide +kernel) (vp_in_nI (n := 0) (by decide +kernel) (by decide +kernel)) dX8_init_56 ?_
  refine y_dup C dX8_init_57 rfl ?_
  refine y_iconst C (v := 1) dX8_init_58 (by decide +kernel) ?_
  refine y_bipush C (v := 50) dX8_init_59 (by decide +kernel) ?_
  refine y_astL' C (j := 1) (by decide +kernel) (vp_in_nI (n := 1) (by decide +kernel) (by decide +kernel)) dX8_init_61 ?_
  refine y_dup C dX8_init_62 rfl ?_
  refine y_iconst C (v := 2) dX8_init_63 (by decide +kernel) ?_
  refine y_bipush C (v := 87) dX8_init_64 (by decide +kernel) ?_
  refine y_astL' C (j := 2) (by decide +kernel) (vp_in_nI (n := 2) (by decide +kernel) (by decide +kernel)) dX8_init_66 ?_
  refine y_dup C dX8_init_67 rfl ?_
  refine y_iconst C (v := 3) dX8_init_68 (by decide +kernel) ?_
  refine y_bipush C (v := 100) dX8_init_69 (by decide +kernel) ?_
  refine y_astL' C (j := 3) (by decide +kernel) (vp_in_nI (n := 3) (by decide +kernel) (by decide +kernel)) dX8_init_71 ?_
  refine y_dup C dX8_init_72 rfl ?_
  refine y_iconst C (v := 4) dX8_init_73 (by decide +kernel) ?_
  refine y_bipush C (v := 87) dX8_init_74 (by decide +kernel) ?_
  refine y_astL' C (j := 4) (by decide +kernel) (vp_in_nI (n := 4) (by decide +kernel) (by decide +kernel)) dX8_init_76 ?_
  refine y_dup C dX8_init_77 rfl ?_
  refine y_iconst C (v := 5) dX8_init_78 (by decide +kernel) ?_
  refine y_bipush C (v := 50) dX8_init_79 (by decide +kernel) ?_
  refine y_astL' C (j := 5) (by decide +kernel) (vp_in_nI (n := 5) (by decide +kernel) (by decide +kernel)) dX8_init_81 ?_
  refine y_dup C dX8_init_82 rfl ?_
  refine y_bipush C (v := 6) dX8_init_83 (by decide +kernel) ?_
  refine y_iconst C (v := 0) dX8_init_85 (by decide +kernel) ?_
  refine y_astL' C (j := 6) (by decide +kernel) (vp_in_nI (n := 6) (by decide +kernel) (by decide +kernel)) dX8_init_86 ?_
  refine y_dup C dX8_init_87 rfl ?_
  refine y_bipush C (v := 7) dX8_init_88 (by decide +kernel) ?_
  refine y_bipush C (v := (-50)) dX8_init_90 (by decide +kernel) ?_
  refine y_astL' C (j := 7) (by decide +kernel) (vp_in_nI (n := 7) (by decide +kernel) (by decide +kernel)) dX8_init_92 ?_
  refine y_dup C dX8_init_93 rfl ?_
  refine y_bipush C (v := 8) dX8_init_94 (by decide +kernel) ?_
  refine y_bipush C (v := (-87)) dX8_init_96 (by decide +kernel) ?_
  refine y_astL' C (j := 8) (by decide +kernel) (vp_in_nI (n := 8) (by decide +kernel) (by decide +kernel)) dX8_init_98 ?_
  refine y_dup C dX8_init_99 rfl ?_
  refine y_bipush C (v := 9) dX8_init_100 (by decide +kernel) ?_
  refine y_bipush C (v := (-100)) dX8_init_102 (by decide +kernel) ?_
  refine y_astL' C (j := 9) (by decide +kernel) (vp_in_nI (n := 9) (by decide +kernel) (by decide +kernel)) dX8_init_104 ?_
  refine y_dup C dX8_init_105 rfl ?_
  refine y_bipush C (v := 10) dX8_init_106 (by decide +kernel) ?_
  refine y_bipush C (v := (-87)) dX8_init_108 (by decide +kernel) ?_
  refine y_astL' C (j := 10) (by decide +kernel) (vp_in_nI (n := 10) (by decide +kernel) (by decide +kernel)) dX8_init_110 ?_
  refine y_dup C dX8_init_111 rfl ?_
  refine y_bipush C (v := 11) dX8_init_112 (by decide +kernel) ?_
  refine y_bipush C (v := (-50)) dX8_init_114 (by decide +kernel) ?_
  refine y_astL' C (j := 11) (by decide +kernel) (vp_in_nI (n := 11) (by decide +kernel) (by decide +kernel)) dX8_init_116 ?_
  refine y_putF C hin2 (fs := [.ref a1, .ref a2, .ref a3, .ref a4, .int 0, .ref a5, .null, .null, .int 0, .int 0, .int 0, .int 0, .long 0, .int 0, .int 0, .null, .null, .null, .null, .null]) tyX8 xin_X8 tyX8_ok nmX8 rfl 6 (by decide) (xm 837 (by decide +kernel) (by decide +kernel)) rfl rfl (tyX8_ok 6 (by decide)) (v := .ref a6) rfl rfl (Nat.le_of_ble_eq_true rfl) dX8_init_117 ?_
  refine y_aload_n C 0 dX8_init_120 rfl rfl ?_
  refine y_bipush C (v := 100) dX8_init_121 (by decide +kernel) ?_
  refine y_newa' C (N := 100) (by decide +kernel) (by decide +kernel) (Nat.le_of_ble_eq_true rfl) ⟨Nat.le_of_ble_eq_true rfl, Nat.le_of_ble_eq_true rfl⟩ dX8_init_123 (fun a7 => ?_)
  refine y_putF C hin2 (fs := [.ref a1, .ref a2, .ref a3, .ref a4, .int 0, .ref a5, .ref a6, .null, .int 0, .int 0, .int 0, .int 0, .long 0, .int 0, .int 0, .null, .null, .null, .null, .null]) tyX8 xin_X8 tyX8_ok nmX8 rfl 7 (by decide) (xm 838 (by decide +kernel) (by decide +kernel)) rfl rfl (tyX8_ok 7 (by decide)) (v := .ref a7) rfl rfl (Nat.le_of_ble_eq_true rfl) dX8_init_125 ?_
  refine y_aload_n C 0 dX8_init_128 rfl rfl ?_
  refine y_iconst C (v := 3) dX8_init_129 (by decide +kernel) ?_
  refine y_newa' C (N := 3) (by decide +kernel) (by decide +kernel) (Nat.le_of_ble_eq_true rfl) ⟨Nat.le_of_ble_eq_true rfl, Nat.le_of_ble_eq_true rfl⟩ dX8_init_130 (fun a8 => ?_)
  refine y_putF C hin2 (fs := [.ref a1, .ref a2, .ref a3, .ref a4, .int 0, .ref a5, .ref a6, .ref a7, .int 0, .int 0, .int 0, .int 0, .long 0, .int 0, .int 0, .null, .null, .null, .null, .null]) tyX8 xin_X8 tyX8_ok nmX8 rfl 15 (by decide) (xm 846 (by decide +kernel) (by decide +kernel)) rfl rfl (tyX8_ok 15 (by decide)) (v := .ref a8) rfl rfl (Nat.le_of_ble_eq_true rfl) dX8_init_132 ?_
  refine y_aload_n C 0 dX8_init_135 rfl rfl ?_
  refine y_iconst C (v := 4) dX8_init_136 (by decide +kernel) ?_
  refine y_newa' C (N := 4) (by decide +kernel) (by decide +kernel) (Nat.le_of_ble_eq_true rfl) ⟨Nat.le_of_ble_eq_true rfl, Nat.le_of_ble_eq_true rfl⟩ dX8_init_137 (fun a9 => ?_)
  refine y_putF C hin2 (fs := [.ref a1, .ref a2, .ref a3, .ref a4, .int 0, .ref a5, .ref a6, .ref a7, .int 0, .int 0, .int 0, .int 0, .long 0, .int 0, .int 0, .ref a8, .null, .null, .null, .null]) tyX8 xin_X8 tyX8_ok nmX8 rfl 16 (by decide) (xm 847 (by decide +kernel) (by decide +kernel)) rfl rfl (tyX8_ok 16 (by decide)) (v := .ref a9) rfl rfl (Nat.le_of_ble_eq_true rfl) dX8_init_139 ?_
  refine y_aload_n C 0 dX8_init_142 rfl rfl ?_
  refine y_iconst C (v := 4) dX8_init_143 (by decide +kernel) ?_
  refine y_newa' C (N := 4) (by decide +kernel) (by decide +kernel) (Nat.le_of_ble_eq_true rfl) ⟨Nat.le_of_ble_eq_true rfl, Nat.le_of_ble_eq_true rfl⟩ dX8_init_144 (fun a10 => ?_)
  refine y_putF C hin2 (fs := [.ref a1, .ref a2, .ref a3, .ref a4, .int 0, .ref a5, .ref a6, .ref a7, .int 0, .int 0, .int 0, .int 0, .long 0, .int 0, .int 0, .ref a8, .ref a9, .null, .null, .null]) tyX8 xin_X8 tyX8_ok nmX8 rfl 17 (by decide) (xm 848 (by decide +kernel) (by decide +kernel)) rfl rfl (tyX8_ok 17 (by decide)) (v := .ref a10) rfl rfl (Nat.le_of_ble_eq_true rfl) dX8_init_146 ?_
  refine y_aload_n C 0 dX8_init_149 rfl rfl ?_
  refine y_sipush C (v := 160) dX8_init_150 (by decide +kernel) ?_
  refine y_newa' C (N := 160) (by decide +kernel) (by decide +kernel) (Nat.le_of_ble_eq_true rfl) ⟨Nat.le_of_ble_eq_true rfl, Nat.le_of_ble_eq_true rfl⟩ dX8_init_153 (fun a11 => ?_)
  refine y_putF C hin2 (fs := [.ref a1, .ref a2, .ref a3, .ref a4, .int 0, .ref a5, .ref a6, .ref a7, .int 0, .int 0, .int 0, .int 0, .long 0, .int 0, .int 0, .ref a8, .ref a9, .ref a10, .null, .null]) tyX8 xin_X8 tyX8_ok nmX8 rfl 18 (by decide) (xm 849 (by decide +kernel) (by decide +kernel)) rfl rfl (tyX8_ok 18 (by decide)) (v := .ref a11) rfl rfl (Nat.le_of_ble_eq_true rfl) dX8_init_155 ?_
  refine y_aload_n C 0 dX8_init_158 rfl rfl ?_
  refine y_bipush C (v := 40) dX8_init_159 (by decide +kernel) ?_
  refine y_newa' C (N := 40) (by decide +kernel) (by decide +kernel) (Nat.le_of_ble_eq_true rfl) ⟨Nat.le_of_ble_eq_true rfl, Nat.le_of_ble_eq_true rfl⟩ dX8_init_161 (fun a12 => ?_)
  refine y_putF C hin2 (fs := [.ref a1, .ref a2, .ref a3, .ref a4, .int 0, .ref a5, .ref a6, .ref a7, .int 0, .int 0, .int 0, .int 0, .long 0, .int 0, .int 0, .ref a8, .ref a9, .ref a10, .ref a11, .null]) tyX8 xin_X8 tyX8_ok nmX8 rfl 19 (by decide) (xm 850 (by decide +kernel) (by decide +kernel)) rfl rfl (tyX8_ok 19 (by decide)) (v := .ref a12) rfl rfl (Nat.le_of_ble_eq_true rfl) dX8_init_163 ?_
  refine y_aload_n C 0 dX8_init_166 rfl rfl ?_
  refine y_get C (fs := [.ref a1, .ref a2, .ref a3, .ref a4, .int 0, .ref a5, .ref a6, .ref a7, .int 0, .int 0, .int 0, .int 0, .long 0, .int 0, .int 0, .ref a8, .ref a9, .ref a10, .ref a11, .ref a12]) xin_X8 rfl 0 (by decide) (xm 831 (by decide +kernel) (by decide +kernel)) rfl (v := .ref a1) rfl dX8_init_167 ?_
  refine y_iconst C (v := 0) dX8_init_170 (by decide +kernel) ?_
  refine y_bipush C (v := 10) dX8_init_171 (by decide +kernel) ?_
  refine y_ast C 1 (j := 0) (ws' := (h0, .inr (8, [.ref a1, .ref a2, .ref a3, .ref a4, .int 0, .ref a5, .ref a6, .ref a7, .int 0, .int 0, .int 0, .int 0, .long 0, .int 0, .int 0, .ref a8, .ref a9, .ref a10, .ref a11, .ref a12])) :: (ysn (ysn (ysn (ysn (ysn (ysn (ysn (ysn (ysn (ysn (ysn (ysn ([] : va_W) (a1, .inl (cI, 284, .inl (upd (fun _ => 0) 0 10)))) (a2, .inl (cI, 284, .inl (fun _ => 0)))) (a3, .inl (cI, 284, .inl (fun _ => 0)))) (a4, .inl (cI, 284, .inl (fun _ => 0)))) (a5, .inl (cI, 7, .inl (fun _ => 0)))) (a6, .inl (cI, 12, .inl (upd (upd (upd (upd (upd (upd (upd (upd (upd (upd (upd (upd (fun _ => 0) 0 0) 1 50) 2 87) 3 100) 4 87) 5 50) 6 0) 7 (-50)) 8 (-87)) 9 (-100)) 10 (-87)) 11 (-50))))) (a7, .inl (cI, 100, .inl (fun _ => 0)))) (a8, .inl (cI, 3, .inl (fun _ => 0)))) (a9, .inl (cI, 4, .inl (fun _ => 0)))) (a10, .inl (cI, 4, .inl (fun _ => 0)))) (a11, .inl (cI, 160, .inl (fun _ => 0)))) (a12, .inl (cI, 40, .inl (fun _ => 0))))) rfl rfl (by decide +kernel) (vp_in_nI (n := 0) (by decide +kernel) (by decide +kernel)) dX8_init_173 ?_
  refine y_aload_n C 0 dX8_init_174 rfl rfl ?_
  refine y_get C (fs := [.ref a1, .ref a2, .ref a3, .ref a4, .int 0, .ref a5, .ref a6, .ref a7, .int 0, .int 0, .int 0, .int 0, .long 0, .int 0, .int 0, .ref a8, .ref a9, .ref a10, .ref a11, .ref a12]) xin_X8 rfl 0 (by decide) (xm 831 (by decide +kernel) (by decide +kernel)) rfl (v := .ref a1) rfl dX8_init_175 ?_
  refine y_iconst C (v := 1) dX8_init_178 (by decide +kernel) ?_
  refine y_iconst C (v := 5) dX8_init_179 (by decide +kernel) ?_
  refine y_ast C 1 (j := 1) (ws' := (h0, .inr (8, [.ref a1, .ref a2, .ref a3, .ref a4, .int 0, .ref a5, .ref a6, .ref a7, .int 0, .int 0, .int 0, .int 0, .long 0, .int 0, .int 0, .ref a8, .ref a9, .ref a10, .ref a11, .ref a12])) :: (ysn (ysn (ysn (ysn (ysn (ysn (ysn (ysn (ysn (ysn (ysn (ysn ([] : va_W) (a1, .inl (cI, 284, .inl (upd (upd (fun _ => 0) 0 10) 1 5)))) (a2, .inl (cI, 284, .inl (fun _ => 0)))) (a3, .inl (cI, 284, .inl (fun _ => 0)))) (a4, .inl (cI, 284, .inl (fun _ => 0)))) (a5, .inl (cI, 7, .inl (fun _ => 0)))) (a6, .inl (cI, 12, .inl (upd (upd (upd (upd (upd (upd (upd (upd (upd (upd (upd (upd (fun _ => 0) 0 0) 1 50) 2 87) 3 100) 4 87) 5 50) 6 0) 7 (-50)) 8 (-87)) 9 (-100)) 10 (-87)) 11 (-50))))) (a7, .inl (cI, 100, .inl (fun _ => 0)))) (a8, .inl (cI, 3, .inl (fun _ => 0)))) (a9, .inl (cI, 4, .inl (fun _ => 0)))) (a10, .inl (cI, 4, .inl (fun _ => 0)))) (a11, .inl (cI, 160, .inl (fun _ => 0)))) (a12, .inl (cI, 40, .inl (fun _ => 0))))) rfl rfl (by decide +kernel) (vp_in_nI (n := 1) (by decide +kernel) (by decide +kernel)) dX8_init_180 ?_
  refine y_aload_n C 0 dX8_init_181 rfl rfl ?_
  refine y_get C (fs := [.ref a1, .ref a2, .ref a3, .ref a4, .int 0, .ref a5, .ref a6, .ref a7, .int 0, .int 0, .int 0, .int 0, .long 0, .int 0, .int 0, .ref a8, .ref a9, .ref a10, .ref a11, .ref a12]) xin_X8 rfl 0 (by decide) (xm 831 (by decide +kernel) (by decide +kernel)) rfl (v := .ref a1) rfl dX8_init_182 ?_
  refine y_iconst C (v := 2) dX8_init_185 (by decide +kernel) ?_
  refine y_bipush C (v := 10) dX8_init_186 (by decide +kernel) ?_
  refine y_ast C 1 (j := 2) (ws' := (h0, .inr (8, [.ref a1, .ref a2, .ref a3, .ref a4, .int 0, .ref a5, .ref a6, .ref a7, .int 0, .int 0, .int 0, .int 0, .long 0, .int 0, .int 0, .ref a8, .ref a9, .ref a10, .ref a11, .ref a12])) :: (ysn (ysn (ysn (ysn (ysn (ysn (ysn (ysn (ysn (ysn (ysn (ysn ([] : va_W) (a1, .inl (cI, 284, .inl (upd (upd (upd (fun _ => 0) 0 10) 1 5) 2 10)))) (a2, .inl (cI, 284, .inl (fun _ => 0)))) (a3, .inl (cI, 284, .inl (fun _ => 0)))) (a4, .inl (cI, 284, .inl (fun _ => 0)))) (a5, .inl (cI, 7, .inl (fun _ => 0)))) (a6, .inl (cI, 12, .inl (upd (upd (upd (upd (upd (upd (upd (upd (upd (upd (upd (upd (fun _ => 0) 0 0) 1 50) 2 87) 3 100) 4 87) 5 50) 6 0) 7 (-50)) 8 (-87)) 9 (-100)) 10 (-87)) 11 (-50))))) (a7, .inl (cI, 100, .inl (fun _ => 0)))) (a8, .inl (cI, 3, .inl (fun _ => 0)))) (a9, .inl (cI, 4, .inl (fun _ => 0)))) (a10, .inl (cI, 4, .inl (fun _ => 0)))) (a11, .inl (cI, 160, .inl (fun _ => 0)))) (a12, .inl (cI, 40, .inl (fun _ => 0))))) rfl rfl (by decide +kernel) (vp_in_nI (n := 2) (by decide +kernel) (by decide +kernel)) dX8_init_188 ?_
  refine y_aload_n C 0 dX8_init_189 rfl rfl ?_
  refine y_get C (fs := [.ref a1, .ref a2, .ref a3, .ref a4, .int 0, .ref a5, .ref a6, .ref a7, .int 0, .int 0, .int 0, .int 0, .long 0, .int 0, .int 0, .ref a8, .ref a9, .ref a10, .ref a11, .ref a12]) xin_X8 rfl 0 (by decide) (xm 831 (by decide +kernel) (by decide +kernel)) rfl (v := .ref a1) rfl dX8_init_190 ?_
  refine y_iconst C (v := 3) dX8_init_193 (by decide +kernel) ?_
  refine y_bipush C (v := 10) dX8_init_194 (by decide +kernel) ?_
  refine y_ast C 1 (j := 3) (ws' := (h0, .inr (8, [.ref a1, .ref a2, .ref a3, .ref a4, .int 0, .ref a5, .ref a6, .ref a7, .int 0, .int 0, .int 0, .int 0, .long 0, .int 0, .int 0, .ref a8, .ref a9, .ref a10, .ref a11, .ref a12])) :: (ysn (ysn (ysn (ysn (ysn (ysn (ysn (ysn (ysn (ysn (ysn (ysn ([] : va_W) (a1, .inl (cI, 284, .inl (upd (upd (upd (upd (fun _ => 0) 0 10) 1 5) 2 10) 3 10)))) (a2, .inl (cI, 284, .inl (fun _ => 0)))) (a3, .inl (cI, 284, .inl (fun _ => 0)))) (a4, .inl (cI, 284, .inl (fun _ => 0)))) (a5, .inl (cI, 7, .inl (fun _ => 0)))) (a6, .inl (cI, 12, .inl (upd (upd (upd (upd (upd (upd (upd (upd (upd (upd (upd (upd (fun _ => 0) 0 0) 1 50) 2 87) 3 100) 4 87) 5 50) 6 0) 7 (-50)) 8 (-87)) 9 (-100)) 10 (-87)) 11 (-50))))) (a7, .inl (cI, 100, .inl (fun _ => 0)))) (a8, .inl (cI, 3, .inl (fun _ => 0)))) (a9, .inl (cI, 4, .inl (fun _ => 0)))) (a10, .inl (cI, 4, .inl (fun _ => 0)))) (a11, .inl (cI, 160, .inl (fun _ => 0)))) (a12, .inl (cI, 40, .inl (fun _ => 0))))) rfl rfl (by decide +kernel) (vp_in_nI (n := 3) (by decide +kernel) (by decide +kernel)) dX8_init_196 ?_
  refine y_aload_n C 0 dX8_init_197 rfl rfl ?_
  refine y_get C (fs := [.ref a1, .ref a2, .ref a3, .ref a4, .int 0, .ref a5, .ref a6, .ref a7, .int 0, .int 0, .int 0, .int 0, .long 0, .int 0, .int 0, .ref a8, .ref a9, .ref a10, .ref a11, .ref a12]) xin_X8 rfl 0 (by decide) (xm 831 (by decide +kernel) (by decide +kernel)) rfl (v := .ref a1) rfl dX8_init_198 ?_
  refine y_bipush C (v := 12) dX8_init_201 (by decide +kernel) ?_
  refine y_iconst C (v := 1) dX8_init_203 (by decide +kernel) ?_
  refine y_ast C 1 (j := 12) (ws' := (h0, .inr (8, [.ref a1, .ref a2, .ref a3, .ref a4, .int 0, .ref a5, .ref a6, .ref a7, .int 0, .int 0, .int 0, .int 0, .long 0, .int 0, .int 0, .ref a8, .ref a9, .ref a10, .ref a11, .ref a12])) :: (ysn (ysn (ysn (ysn (ysn (ysn (ysn (ysn (ysn (ysn (ysn (ysn ([] : va_W) (a1, .inl (cI, 284, .inl (upd (upd (upd (upd (upd (fun _ => 0) 0 10) 1 5) 2 10) 3 10) 12 1)))) (a2, .inl (cI, 284, .inl (fun _ => 0)))) (a3, .inl (cI, 284, .inl (fun _ => 0)))) (a4, .inl (cI, 284, .inl (fun _ => 0)))) (a5, .inl (cI, 7, .inl (fun _ => 0)))) (a6, .inl (cI, 12, .inl (upd (upd (upd (upd (upd (upd (upd (upd (upd (upd (upd (upd (fun _ => 0) 0 0) 1 50) 2 87) 3 100) 4 87) 5 50) 6 0) 7 (-50)) 8 (-87)) 9 (-100)) 10 (-87)) 11 (-50))))) (a7, .inl (cI, 100, .inl (fun _ => 0)))) (a8, .inl (cI, 3, .inl (fun _ => 0)))) (a9, .inl (cI, 4, .inl (fun _ => 0)))) (a10, .inl (cI, 4, .inl (fun _ => 0)))) (a11, .inl (cI, 160, .inl (fun _ => 0)))) (a12, .inl (cI, 40, .inl (fun _ => 0))))) rfl rfl (by decide +kernel) (vp_in_nI (n := 12) (by decide +kernel) (by decide +kernel)) dX8_init_204 ?_
  refine y_iconst C (v := 0) dX8_init_205 (by decide +kernel) ?_
  refine y_istore_n C (lv1 := [(1, .int 0), (0, .ref h0)]) dX8_init_206 rfl (by decide) rfl ?_
  refine y_iload_n C 0 dX8_init_207 rfl rfl ?_
  refine y_bipush C (v := 10) dX8_init_208 (by decide +kernel) ?_
  refine y_ge_f C (tgt := 229) dX8_init_210 (by decide) (by decide) ?_
  refine y_aload_n C 1 dX8_init_213 rfl rfl ?_
  refine y_get C (fs := [.ref a1, .ref a2, .ref a3, .ref a4, .int 0, .ref a5, .ref a6, .ref a7, .int 0, .int 0, .int 0, .int 0, .long 0, .int 0, .int 0, .ref a8, .ref a9, .ref a10, .ref a11, .ref a12]) xin_X8 rfl 0 (by decide) (xm 831 (by decide +kernel) (by decide +kernel)) rfl (v := .ref a1) rfl dX8_init_214 ?_
  refine y_bipush C (v := 124) dX8_init_217 (by decide +kernel) ?_
  refine y_iload_n C 0 dX8_init_219 rfl rfl ?_
  refine y_iadd C (v := 124) dX8_init_220 (by decide +kernel) ?_
  refine y_iconst C (v := (-1)) dX8_init_221 (by decide +kernel) ?_
  refine y_ast C 1 (j := 124) (ws' := (h0, .inr (8, [.ref a1, .ref a2, .ref a3, .ref a4, .int 0, .ref a5, .ref a6, .ref a7, .int 0, .int 0, .int 0, .int 0, .long 0, .int 0, .int 0, .ref a8, .ref a9, .ref a10, .ref a11, .ref a12])) :: (ysn (ysn (ysn (ysn (ysn (ysn (ysn (ysn (ysn (ysn (ysn (ysn ([] : va_W) (a1, .inl (cI, 284, .inl (upd (upd (upd (upd (upd (upd (fun _ => 0) 0 10) 1 5) 2 10) 3 10) 12 1) 124 (-1))))) (a2, .inl (cI, 284, .inl (fun _ => 0)))) (a3, .inl (cI, 284, .inl (fun _ => 0)))) (a4, .inl (cI, 284, .inl (fun _ => 0)))) (a5, .inl (cI, 7, .inl (fun _ => 0)))) (a6, .inl (cI, 12, .inl (upd (upd (upd (upd (upd (upd (upd (upd (upd (upd (upd (upd (fun _ => 0) 0 0) 1 50) 2 87) 3 100) 4 87) 5 50) 6 0) 7 (-50)) 8 (-87)) 9 (-100)) 10 (-87)) 11 (-50))))) (a7, .inl (cI, 100, .inl (fun _ => 0)))) (a8, .inl (cI, 3, .inl (fun _ => 0)))) (a9, .inl (cI, 4, .inl (fun _ => 0)))) (a10, .inl (cI, 4, .inl (fun _ => 0)))) (a11, .inl (cI, 160, .inl (fun _ => 0)))) (a12, .inl (cI, 40, .inl (fun _ => 0))))) rfl rfl (by decide +kernel) (vp_in_nI (n := 124) (by decide +kernel) (by decide +kernel)) dX8_init_222 ?_
  refine y_iinc C (v := 1) (lv1 := [(1, .int 1), (0, .ref h0)]) 0 dX8_init_223 rfl (by decide) (by decide) rfl ?_
  refine y_goto C (tgt := 207) dX8_init_226 (by decide) ?_
  refine y_iload_n C 0 dX8_init_207 rfl rfl ?_
  refine y_bipush C (v := 10) dX8_init_208 (by decide +kernel) ?_
  refine y_ge_f C (tgt := 229) dX8_init_210 (by decide) (by decide) ?_
  refine y_aload_n C 1 dX8_init_213 rfl rfl ?_
  refine y_get C (fs := [.ref a1, .ref a2, .ref a3, .ref a4, .int 0, .ref a5, .ref a6, .ref a7, .int 0, .int 0, .int 0, .int 0, .long 0, .int 0, .int 0, .ref a8, .ref a9, .ref a10, .ref a11, .ref a12]) xin_X8 rfl 0 (by decide) (xm 831 (by decide +kernel) (by decide +kernel)) rfl (v := .ref a1) rfl dX8_init_214 ?_
  refine y_bipush C (v := 124) dX8_init_217 (by decide +kernel) ?_
  refine y_iload_n C 0 dX8_init_219 rfl rfl ?_
  refine y_iadd C (v := 125) dX8_init_220 (by decide +kernel) ?_
  refine y_iconst C (v := (-1)) dX8_init_221 (by decide +kernel) ?_
  refine y_ast C 1 (j := 125) (ws' := (h0, .inr (8, [.ref a1, .ref a2, .ref a3, .ref a4, .int 0, .ref a5, .ref a6, .ref a7, .int 0, .int 0, .int 0, .int 0, .long 0, .int 0, .int 0, .ref a8, .ref a9, .ref a10, .ref a11, .ref a12])) :: (ysn (ysn (ysn (ysn (ysn (ysn (ysn (ysn (ysn (ysn (ysn (ysn ([] : va_W) (a1, .inl (cI, 284, .inl (upd (upd (upd (upd (upd (upd (upd (fun _ => 0) 0 10) 1 5) 2 10) 3 10) 12 1) 124 (-1)) 125 (-1))))) (a2, .inl (cI, 284, .inl (fun _ => 0)))) (a3, .inl (cI, 284, .inl (fun _ => 0)))) (a4, .inl (cI, 284, .inl (fun _ => 0)))) (a5, .inl (cI, 7, .inl (fun _ => 0)))) (a6, .inl (cI, 12, .inl (upd (upd (upd (upd (upd (upd (upd (upd (upd (upd (upd (upd (fun _ => 0) 0 0) 1 50) 2 87) 3 100) 4 87) 5 50) 6 0) 7 (-50)) 8 (-87)) 9 (-100)) 10 (-87)) 11 (-50))))) (a7, .inl (cI, 100, .inl (fun _ => 0)))) (a8, .inl (cI, 3, .inl (fun _ => 0)))) (a9, .inl (cI, 4, .inl (fun _ => 0)))) (a10, .inl (cI, 4, .inl (fun _ => 0)))) (a11, .inl (cI, 160, .inl (fun _ => 0)))) (a12, .inl (cI, 40, .inl (fun _ => 0))))) rfl rfl (by decide +kernel) (vp_in_nI (n := 125) (by decide +kernel) (by decide +kernel)) dX8_init_222 ?_
  refine y_iinc C (v := 2) (lv1 := [(1, .int 2), (0, .ref h0)]) 0 dX8_init_223 rfl (by decide) (by decide) rfl ?_
  refine y_goto C (tgt := 207) dX8_init_226 (by decide) ?_
  refine y_iload_n C 0 dX8_init_207 rfl rfl ?_
  refine y_bipush C (v := 10) dX8_init_208 (by decide +kernel) ?_
  refine y_ge_f C (tgt := 229) dX8_init_210 (by decide) (by decide) ?_
  refine y_aload_n C 1 dX8_init_213 rfl rfl ?_
  refine y_get C (fs := [.ref a1, .ref a2, .ref a3, .ref a4, .int 0, .ref a5, .ref a6, .ref a7, .int 0, .int 0, .int 0, .int 0, .long 0, .int 0, .int 0, .ref a8, .ref a9, .ref a10, .ref a11, .ref a12]) xin_X8 rfl 0 (by decide) (xm 831 (by decide +kernel) (by decide +kernel)) rfl (v := .ref a1) rfl dX8_init_214 ?_
  refine y_bipush C (v := 124) dX8_init_217 (by decide +kernel) ?_
  refine y_iload_n C 0 dX8_init_219 rfl rfl ?_
  refine y_iadd C (v := 126) dX8_init_220 (by decide +kernel) ?_
  refine y_iconst C (v := (-1)) dX8_init_221 (by decide +kernel) ?_
  refine y_ast C 1 (j := 126) (ws' := (h0, .inr (8, [.ref a1, .ref a2, .ref a3, .ref a4, .int 0, .ref a5, .ref a6, .ref a7, .int 0, .int 0, .int 0, .int 0, .long 0, .int 0, .int 0, .ref a8, .ref a9, .ref a10, .ref a11, .ref a12])) :: (ysn (ysn (ysn (ysn (ysn (ysn (ysn (ysn (ysn (ysn (ysn (ysn ([] : va_W) (a1, .inl (cI, 284, .inl (upd (upd (upd (upd (upd (upd (upd (upd (fun _ => 0) 0 10) 1 5) 2 10) 3 10) 12 1) 124 (-1)) 125 (-1)) 126 (-1))))) (a2, .inl (cI, 284, .inl (fun _ => 0)))) (a3, .inl (cI, 284, .inl (fun _ => 0)))) (a4, .inl (cI, 284, .inl (fun _ => 0)))) (a5, .inl (cI, 7, .inl (fun _ => 0)))) (a6, .inl (cI, 12, .inl (upd (upd (upd (upd (upd (upd (upd (upd (upd (upd (upd (upd (fun _ => 0) 0 0) 1 50) 2 87) 3 100) 4 87) 5 50) 6 0) 7 (-50)) 8 (-87)) 9 (-100)) 10 (-87)) 11 (-50))))) (a7, .inl (cI, 100, .inl (fun _ => 0)))) (a8, .inl (cI, 3, .inl (fun _ => 0)))) (a9, .inl (cI, 4, .inl (fun _ => 0)))) (a10, .inl (cI, 4, .inl (fun _ => 0)))) (a11, .inl (cI, 160, .inl (fun _ => 0)))) (a12, .inl (cI, 40, .inl (fun _ => 0))))) rfl rfl (by decide +kernel) (vp_in_nI (n := 126) (by decide +kernel) (by decide +kernel)) dX8_init_222 ?_
  refine y_iinc C (v := 3) (lv1 := [(1, .int 3), (0, .ref h0)]) 0 dX8_init_223 rfl (by decide) (by decide) rfl ?_
  refine y_goto C (tgt := 207) dX8_init_226 (by decide) ?_
  refine y_iload_n C 0 dX8_init_207 rfl rfl ?_
  refine y_bipush C (v := 10) dX8_init_208 (by decide +kernel) ?_
  refine y_ge_f C (tgt := 229) dX8_init_210 (by decide) (by decide) ?_
  refine y_aload_n C 1 dX8_init_213 rfl rfl ?_
  refine y_get C (fs := [.ref a1, .ref a2, .ref a3, .ref a4, .int 0, .ref a5, .ref a6, .ref a7, .int 0, .int 0, .int 0, .int 0, .long 0, .int 0, .int 0, .ref a8, .ref a9, .ref a10, .ref a11, .ref a12]) xin_X8 rfl 0 (by decide) (xm 831 (by decide +kernel) (by decide +kernel)) rfl (v := .ref a1) rfl dX8_init_214 ?_
  refine y_bipush C (v := 124) dX8_init_217 (by decide +kernel) ?_
  refine y_iload_n C 0 dX8_init_219 rfl rfl ?_
  refine y_iadd C (v := 127) dX8_init_220 (by decide +kernel) ?_
  refine y_iconst C (v := (-1)) dX8_init_221 (by decide +kernel) ?_
  refine y_ast C 1 (j := 127) (ws' := (h0, .inr (8, [.ref a1, .ref a2, .ref a3, .ref a4, .int 0, .ref a5, .ref a6, .ref a7, .int 0, .int 0, .int 0, .int 0, .long 0, .int 0, .int 0, .ref a8, .ref a9, .ref a10, .ref a11, .ref a12])) :: (ysn (ysn (ysn (ysn (ysn (ysn (ysn (ysn (ysn (ysn (ysn (ysn ([] : va_W) (a1, .inl (cI, 284, .inl (upd (upd (upd (upd (upd (upd (upd (upd (upd (fun _ => 0) 0 10) 1 5) 2 10) 3 10) 12 1) 124 (-1)) 125 (-1)) 126 (-1)) 127 (-1))))) (a2, .inl (cI, 284, .inl (fun _ => 0)))) (a3, .inl (cI, 284, .inl (fun _ => 0)))) (a4, .inl (cI, 284, .inl (fun _ => 0)))) (a5, .inl (cI, 7, .inl (fun _ => 0)))) (a6, .inl (cI, 12, .inl (upd (upd (upd (upd (upd (upd (upd (upd (upd (upd (upd (upd (fun _ => 0) 0 0) 1 50) 2 87) 3 100) 4 87) 5 50) 6 0) 7 (-50)) 8 (-87)) 9 (-100)) 10 (-87)) 11 (-50))))) (a7, .inl (cI, 100, .inl (fun _ => 0)))) (a8, .inl (cI, 3, .inl (fun _ => 0)))) (a9, .inl (cI, 4, .inl (fun _ => 0)))) (a10, .inl (cI, 4, .inl (fun _ => 0)))) (a11, .inl (cI, 160, .inl (fun _ => 0)))) (a12, .inl (cI, 40, .inl (fun _ => 0))))) rfl rfl (by decide +kernel) (vp_in_nI (n := 127) (by decide +kernel) (by decide +kernel)) dX8_init_222 ?_
  refine y_iinc C (v := 4) (lv1 := [(1, .int 4), (0, .ref h0)]) 0 dX8_init_223 rfl (by decide) (by decide) rfl ?_
  refine y_goto C (tgt := 207) dX8_init_226 (by decide) ?_
  refine y_iload_n C 0 dX8_init_207 rfl rfl ?_
  refine y_bipush C (v := 10) dX8_init_208 (by decide +kernel) ?_
  refine y_ge_f C (tgt := 229) dX8_init_210 (by decide) (by decide) ?_
  refine y_aload_n C 1 dX8_init_213 rfl rfl ?_
  refine y_get C (fs := [.ref a1, .ref a2, .ref a3, .ref a4, .int 0, .ref a5, .ref a6, .ref a7, .int 0, .int 0, .int 0, .int 0, .long 0, .int 0, .int 0, .ref a8, .ref a9, .ref a10, .ref a11, .ref a12]) xin_X8 rfl 0 (by decide) (xm 831 (by decide +kernel) (by decide +kernel)) rfl (v := .ref a1) rfl dX8_init_214 ?_
  refine y_bipush C (v := 124) dX8_init_217 (by decide +kernel) ?_
  refine y_iload_n C 0 dX8_init_219 rfl rfl ?_
  refine y_iadd C (v := 128) dX8_init_220 (by decide +kernel) ?_
  refine y_iconst C (v := (-1)) dX8_init_221 (by decide +kernel) ?_
  refine y_ast C 1 (j := 128) (ws' := (h0, .inr (8, [.ref a1, .ref a2, .ref a3, .ref a4, .int 0, .ref a5, .ref a6, .ref a7, .int 0, .int 0, .int 0, .int 0, .long 0, .int 0, .int 0, .ref a8, .ref a9, .ref a10, .ref a11, .ref a12])) :: (ysn (ysn (ysn (ysn (ysn (ysn (ysn (ysn (ysn (ysn (ysn (ysn ([] : va_W) (a1, .inl (cI, 284, .inl (upd (upd (upd (upd (upd (upd (upd (upd (upd (upd (fun _ => 0) 0 10) 1 5) 2 10) 3 10) 12 1) 124 (-1)) 125 (-1)) 126 (-1)) 127 (-1)) 128 (-1))))) (a2, .inl (cI, 284, .inl (fun _ => 0)))) (a3, .inl (cI, 284, .inl (fun _ => 0)))) (a4, .inl (cI, 284, .inl (fun _ => 0)))) (a5, .inl (cI, 7, .inl (fun _ => 0)))) (a6, .inl (cI, 12, .inl (upd (upd (upd (upd (upd (upd (upd (upd (upd (upd (upd (upd (fun _ => 0) 0 0) 1 50) 2 87) 3 100) 4 87) 5 50) 6 0) 7 (-50)) 8 (-87)) 9 (-100)) 10 (-87)) 11 (-50))))) (a7, .inl (cI, 100, .inl (fun _ => 0)))) (a8, .inl (cI, 3, .inl (fun _ => 0)))) (a9, .inl (cI, 4, .inl (fun _ => 0)))) (a10, .inl (cI, 4, .inl (fun _ => 0)))) (a11, .inl (cI, 160, .inl (fun _ => 0)))) (a12, .inl (cI, 40, .inl (fun _ => 0))))) rfl rfl (by decide +kernel) (vp_in_nI (n := 128) (by decide +kernel) (by decide +kernel)) dX8_init_222 ?_
  refine y_iinc C (v := 5) (lv1 := [(1, .int 5), (0, .ref h0)]) 0 dX8_init_223 rfl (by decide) (by decide) rfl ?_
  refine y_goto C (tgt := 207) dX8_init_226 (by decide) ?_
  refine y_iload_n C 0 dX8_init_207 rfl rfl ?_
  refine y_bipush C (v := 10) dX8_init_208 (by decide +kernel) ?_
  refine y_ge_f C (tgt := 229) dX8_init_210 (by decide) (by decide) ?_
  refine y_aload_n C 1 dX8_init_213 rfl rfl ?_
  refine y_get C (fs := [.ref a1, .ref a2, .ref a3, .ref a4, .int 0, .ref a5, .ref a6, .ref a7, .int 0, .int 0, .int 0, .int 0, .long 0, .int 0, .int 0, .ref a8, .ref a9, .ref a10, .ref a11, .ref a12]) xin_X8 rfl 0 (by decide) (xm 831 (by decide +kernel) (by decide +kernel)) rfl (v := .ref a1) rfl dX8_init_214 ?_
  refine y_bipush C (v := 124) dX8_init_217 (by decide +kernel) ?_
  refine y_iload_n C 0 dX8_init_219 rfl rfl ?_
  refine y_iadd C (v := 129) dX8_init_220 (by decide +kernel) ?_
  refine y_iconst C (v := (-1)) dX8_init_221 (by decide +kernel) ?_
  refine y_ast C 1 (j := 129) (ws' := (h0, .inr (8, [.ref a1, .ref a2, .ref a3, .ref a4, .int 0, .ref a5, .ref a6, .ref a7, .int 0, .int 0, .int 0, .int 0, .long 0, .int 0, .int 0, .ref a8, .ref a9, .ref a10, .ref a11, .ref a12])) :: (ysn (ysn (ysn (ysn (ysn (ysn (ysn (ysn (ysn (ysn (ysn (ysn ([] : va_W) (a1, .inl (cI, 284, .inl (upd (upd (upd (upd (upd (upd (upd (upd (upd (upd (upd (fun _ => 0) 0 10) 1 5) 2 10) 3 10) 12 1) 124 (-1)) 125 (-1)) 126 (-1)) 127 (-1)) 128 (-1)) 129 (-1))))) (a2, .inl (cI, 284, .inl (fun _ => 0)))) (a3, .inl (cI, 284, .inl (fun _ => 0)))) (a4, .inl (cI, 284, .inl (fun _ => 0)))) (a5, .inl (cI, 7, .inl (fun _ => 0)))) (a6, .inl (cI, 12, .inl (upd (upd (upd (upd (upd (upd (upd (upd (upd (upd (upd (upd (fun _ => 0) 0 0) 1 50) 2 87) 3 100) 4 87) 5 50) 6 0) 7 (-50)) 8 (-87)) 9 (-100)) 10 (-87)) 11 (-50))))) (a7, .inl (cI, 100, .inl (fun _ => 0)))) (a8, .inl (cI, 3, .inl (fun _ => 0)))) (a9, .inl (cI, 4, .inl (fun _ => 0)))) (a10, .inl (cI, 4, .inl (fun _ => 0)))) (a11, .inl (cI, 160, .inl (fun _ => 0)))) (a12, .inl (cI, 40, .inl (fun _ => 0))))) rfl rfl (by decide +kernel) (vp_in_nI (n := 129) (by decide +kernel) (by decide +kernel)) dX8_init_222 ?_
  refine y_iinc C (v := 6) (lv1 := [(1, .int 6), (0, .ref h0)]) 0 dX8_init_223 rfl (by decide) (by decide) rfl ?_
  refine y_goto C (tgt := 207) dX8_init_226 (by decide) ?_
  refine y_iload_n C 0 dX8_init_207 rfl rfl ?_
  refine y_bipush C (v := 10) dX8_init_208 (by decide +kernel) ?_
  refine y_ge_f C (tgt := 229) dX8_init_210 (by decide) (by decide) ?_
  refine y_aload_n C 1 dX8_init_213 rfl rfl ?_
  refine y_get C (fs := [.ref a1, .ref a2, .ref a3, .ref a4, .int 0, .ref a5, .ref a6, .ref a7, .int 0, .int 0, .int 0, .int 0, .long 0, .int 0, .int 0, .ref a8, .ref a9, .ref a10, .ref a11, .ref a12]) xin_X8 rfl 0 (by decide) (xm 831 (by decide +kernel) (by decide +kernel)) rfl (v := .ref a1) rfl dX8_init_214 ?_
  refine y_bipush C (v := 124) dX8_init_217 (by decide +kernel) ?_
  refine y_iload_n C 0 dX8_init_219 rfl rfl ?_
  refine y_iadd C (v := 130) dX8_init_220 (by decide +kernel) ?_
  refine y_iconst C (v := (-1)) dX8_init_221 (by decide +kernel) ?_
  refine y_ast C 1 (j := 130) (ws' := (h0, .inr (8, [.ref a1, .ref a2, .ref a3, .ref a4, .int 0, .ref a5, .ref a6, .ref a7, .int 0, .int 0, .int 0, .int 0, .long 0, .int 0, .int 0, .ref a8, .ref a9, .ref a10, .ref a11, .ref a12])) :: (ysn (ysn (ysn (ysn (ysn (ysn (ysn (ysn (ysn (ysn (ysn (ysn ([] : va_W) (a1, .inl (cI, 284, .inl (upd (upd (upd (upd (upd (upd (upd (upd (upd (upd (upd (upd (fun _ => 0) 0 10) 1 5) 2 10) 3 10) 12 1) 124 (-1)) 125 (-1)) 126 (-1)) 127 (-1)) 128 (-1)) 129 (-1)) 130 (-1))))) (a2, .inl (cI, 284, .inl (fun _ => 0)))) (a3, .inl (cI, 284, .inl (fun _ => 0)))) (a4, .inl (cI, 284, .inl (fun _ => 0)))) (a5, .inl (cI, 7, .inl (fun _ => 0)))) (a6, .inl (cI, 12, .inl (upd (upd (upd (upd (upd (upd (upd (upd (upd (upd (upd (upd (fun _ => 0) 0 0) 1 50) 2 87) 3 100) 4 87) 5 50) 6 0) 7 (-50)) 8 (-87)) 9 (-100)) 10 (-87)) 11 (-50))))) (a7, .inl (cI, 100, .inl (fun _ => 0)))) (a8, .inl (cI, 3, .inl (fun _ => 0)))) (a9, .inl (cI, 4, .inl (fun _ => 0)))) (a10, .inl (cI, 4, .inl (fun _ => 0)))) (a11, .inl (cI, 160, .inl (fun _ => 0)))) (a12, .inl (cI, 40, .inl (fun _ => 0))))) rfl rfl (by decide +kernel) (vp_in_nI (n := 130) (by decide +kernel) (by decide +kernel)) dX8_init_222 ?_
  refine y_iinc C (v := 7) (lv1 := [(1, .int 7), (0, .ref h0)]) 0 dX8_init_223 rfl (by decide) (by decide) rfl ?_
  refine y_goto C (tgt := 207) dX8_init_226 (by decide) ?_
  refine y_iload_n C 0 dX8_init_207 rfl rfl ?_
  refine y_bipush C (v := 10) dX8_init_208 (by decide +kernel) ?_
  refine y_ge_f C (tgt := 229) dX8_init_210 (by decide) (by decide) ?_
  refine y_aload_n C 1 dX8_init_213 rfl rfl ?_
  refine y_get C (fs := [.ref a1, .ref a2, .ref a3, .ref a4, .int 0, .ref a5, .ref a6, .ref a7, .int 0, .int 0, .int 0, .int 0, .long 0, .int 0, .int 0, .ref a8, .ref a9, .ref a10, .ref a11, .ref a12]) xin_X8 rfl 0 (by decide) (xm 831 (by decide +kernel) (by decide +kernel)) rfl (v := .ref a1) rfl dX8_init_214 ?_
  refine y_bipush C (v := 124) dX8_init_217 (by decide +kernel) ?_
  refine y_iload_n C 0 dX8_init_219 rfl rfl ?_
  refine y_iadd C (v := 131) dX8_init_220 (by decide +kernel) ?_
  refine y_iconst C (v := (-1)) dX8_init_221 (by decide +kernel) ?_
  refine y_ast C 1 (j := 131) (ws' := (h0, .inr (8, [.ref a1, .ref a2, .ref a3, .ref a4, .int 0, .ref a5, .ref a6, .ref a7, .int 0, .int 0, .int 0, .int 0, .long 0, .int 0, .int 0, .ref a8, .ref a9, .ref a10, .ref a11, .ref a12])) :: (ysn (ysn (ysn (ysn (ysn (ysn (ysn (ysn (ysn (ysn (ysn (ysn ([] : va_W) (a1, .inl (cI, 284, .inl (upd (upd (upd (upd (upd (upd (upd (upd (upd (upd (upd (upd (upd (fun _ => 0) 0 10) 1 5) 2 10) 3 10) 12 1) 124 (-1)) 125 (-1)) 126 (-1)) 127 (-1)) 128 (-1)) 129 (-1)) 130 (-1)) 131 (-1))))) (a2, .inl (cI, 284, .inl (fun _ => 0)))) (a3, .inl (cI, 284, .inl (fun _ => 0)))) (a4, .inl (cI, 284, .inl (fun _ => 0)))) (a5, .inl (cI, 7, .inl (fun _ => 0)))) (a6, .inl (cI, 12, .inl (upd (upd (upd (upd (upd (upd (upd (upd (upd (upd (upd (upd (fun _ => 0) 0 0) 1 50) 2 87) 3 100) 4 87) 5 50) 6 0) 7 (-50)) 8 (-87)) 9 (-100)) 10 (-87)) 11 (-50))))) (a7, .inl (cI, 100, .inl (fun _ => 0)))) (a8, .inl (cI, 3, .inl (fun _ => 0)))) (a9, .inl (cI, 4, .inl (fun _ => 0)))) (a10, .inl (cI, 4, .inl (fun _ => 0)))) (a11, .inl (cI, 160, .inl (fun _ => 0)))) (a12, .inl (cI, 40, .inl (fun _ => 0))))) rfl rfl (by decide +kernel) (vp_in_nI (n := 131) (by decide +kernel) (by decide +kernel)) dX8_init_222 ?_
  refine y_iinc C (v := 8) (lv1 := [(1, .int 8), (0, .ref h0)]) 0 dX8_init_223 rfl (by decide) (by decide) rfl ?_
  refine y_goto C (tgt := 207) dX8_init_226 (by decide) ?_
  refine y_iload_n C 0 dX8_init_207 rfl rfl ?_
  refine y_bipush C (v := 10) dX8_init_208 (by decide +kernel) ?_
  refine y_ge_f C (tgt := 229) dX8_init_210 (by decide) (by decide) ?_
  refine y_aload_n C 1 dX8_init_213 rfl rfl ?_
  refine y_get C (fs := [.ref a1, .ref a2, .ref a3, .ref a4, .int 0, .ref a5, .ref a6, .ref a7, .int 0, .int 0, .int 0, .int 0, .long 0, .int 0, .int 0, .ref a8, .ref a9, .ref a10, .ref a11, .ref a12]) xin_X8 rfl 0 (by decide) (xm 831 (by decide +kernel) (by decide +kernel)) rfl (v := .ref a1) rfl dX8_init_214 ?_
  refine y_bipush C (v := 124) dX8_init_217 (by decide +kernel) ?_
  refine y_iload_n C 0 dX8_init_219 rfl rfl ?_
  refine y_iadd C (v := 132) dX8_init_220 (by decide +kernel) ?_
  refine y_iconst C (v := (-1)) dX8_init_221 (by decide +kernel) ?_
  refine y_ast C 1 (j := 132) (ws' := (h0, .inr (8, [.ref a1, .ref a2, .ref a3, .ref a4, .int 0, .ref a5, .ref a6, .ref a7, .int 0, .int 0, .int 0, .int 0, .long 0, .int 0, .int 0, .ref a8, .ref a9, .ref a10, .ref a11, .ref a12])) :: (ysn (ysn (ysn (ysn (ysn (ysn (ysn (ysn (ysn (ysn (ysn (ysn ([] : va_W) (a1, .inl (cI, 284, .inl (upd (upd (upd (upd (upd (upd (upd (upd (upd (upd (upd (upd (upd (upd (fun _ => 0) 0 10) 1 5) 2 10) 3 10) 12 1) 124 (-1)) 125 (-1)) 126 (-1)) 127 (-1)) 128 (-1)) 129 (-1)) 130 (-1)) 131 (-1)) 132 (-1))))) (a2, .inl (cI, 284, .inl (fun _ => 0)))) (a3, .inl (cI, 284, .inl (fun _ => 0)))) (a4, .inl (cI, 284, .inl (fun _ => 0)))) (a5, .inl (cI, 7, .inl (fun _ => 0)))) (a6, .inl (cI, 12, .inl (upd (upd (upd (upd (upd (upd (upd (upd (upd (upd (upd (upd (fun _ => 0) 0 0) 1 50) 2 87) 3 100) 4 87) 5 50) 6 0) 7 (-50)) 8 (-87)) 9 (-100)) 10 (-87)) 11 (-50))))) (a7, .inl (cI, 100, .inl (fun _ => 0)))) (a8, .inl (cI, 3, .inl (fun _ => 0)))) (a9, .inl (cI, 4, .inl (fun _ => 0)))) (a10, .inl (cI, 4, .inl (fun _ => 0)))) (a11, .inl (cI, 160, .inl (fun _ => 0)))) (a12, .inl (cI, 40, .inl (fun _ => 0))))) rfl rfl (by decide +kernel) (vp_in_nI (n := 132) (by decide +kernel) (by decide +kernel)) dX8_init_222 ?_
  refine y_iinc C (v := 9) (lv1 := [(1, .int 9), (0, .ref h0)]) 0 dX8_init_223 rfl (by decide) (by decide) rfl ?_
  refine y_goto C (tgt := 207) dX8_init_226 (by decide) ?_
  refine y_iload_n C 0 dX8_init_207 rfl rfl ?_
  refine y_bipush C (v := 10) dX8_init_208 (by decide +kernel) ?_
  refine y_ge_f C (tgt := 229) dX8_init_210 (by decide) (by decide) ?_
  refine y_aload_n C 1 dX8_init_213 rfl rfl ?_
  refine y_get C (fs := [.ref a1, .ref a2, .ref a3, .ref a4, .int 0, .ref a5, .ref a6, .ref a7, .int 0, .int 0, .int 0, .int 0, .long 0, .int 0, .int 0, .ref a8, .ref a9, .ref a10, .ref a11, .ref a12]) xin_X8 rfl 0 (by decide) (xm 831 (by decide +kernel) (by decide +kernel)) rfl (v := .ref a1) rfl dX8_init_214 ?_
  refine y_bipush C (v := 124) dX8_init_217 (by decide +kernel) ?_
  refine y_iload_n C 0 dX8_init_219 rfl rfl ?_
  refine y_iadd C (v := 133) dX8_init_220 (by decide +kernel) ?_
  refine y_iconst C (v := (-1)) dX8_init_221 (by decide +kernel) ?_
  refine y_ast C 1 (j := 133) (ws' := (h0, .inr (8, [.ref a1, .ref a2, .ref a3, .ref a4, .int 0, .ref a5, .ref a6, .ref a7, .int 0, .int 0, .int 0, .int 0, .long 0, .int 0, .int 0, .ref a8, .ref a9, .ref a10, .ref a11, .ref a12])) :: (ysn (ysn (ysn (ysn (ysn (ysn (ysn (ysn (ysn (ysn (ysn (ysn ([] : va_W) (a1, .inl (cI, 284, .inl (upd (upd (upd (upd (upd (upd (upd (upd (upd (upd (upd (upd (upd (upd (upd (fun _ => 0) 0 10) 1 5) 2 10) 3 10) 12 1) 124 (-1)) 125 (-1)) 126 (-1)) 127 (-1)) 128 (-1)) 129 (-1)) 130 (-1)) 131 (-1)) 132 (-1)) 133 (-1))))) (a2, .inl (cI, 284, .inl (fun _ => 0)))) (a3, .inl (cI, 284, .inl (fun _ => 0)))) (a4, .inl (cI, 284, .inl (fun _ => 0)))) (a5, .inl (cI, 7, .inl (fun _ => 0)))) (a6, .inl (cI, 12, .inl (upd (upd (upd (upd (upd (upd (upd (upd (upd (upd (upd (upd (fun _ => 0) 0 0) 1 50) 2 87) 3 100) 4 87) 5 50) 6 0) 7 (-50)) 8 (-87)) 9 (-100)) 10 (-87)) 11 (-50))))) (a7, .inl (cI, 100, .inl (fun _ => 0)))) (a8, .inl (cI, 3, .inl (fun _ => 0)))) (a9, .inl (cI, 4, .inl (fun _ => 0)))) (a10, .inl (cI, 4, .inl (fun _ => 0)))) (a11, .inl (cI, 160, .inl (fun _ => 0)))) (a12, .inl (cI, 40, .inl (fun _ => 0))))) rfl rfl (by decide +kernel) (vp_in_nI (n := 133) (by decide +kernel) (by decide +kernel)) dX8_init_222 ?_
  refine y_iinc C (v := 10) (lv1 := [(1, .int 10), (0, .ref h0)]) 0 dX8_init_223 rfl (by decide) (by decide) rfl ?_
  refine y_goto C (tgt := 207) dX8_init_226 (by decide) ?_
  refine y_iload_n C 0 dX8_init_207 rfl rfl ?_
  refine y_bipush C (v := 10) dX8_init_208 (by decide +kernel) ?_
  refine y_ge_t C (tgt := 229) dX8_init_210 (by decide) (by decide) ?_
  exact y_ret C (res := mdL cI) (fun i => ([a1, a2, a3, a4, a5, a6, a7, a8, a9, a10, a11, a12] : List Nat).getD i 0) rfl ⟨Nat.le_of_ble_eq_true rfl, Nat.le_of_ble_eq_true rfl⟩ dX8_init_229
