/-! texts: the strings that the program holds -/
section XSTR
variable {p : Program} {l : Launch} {e : Env} {R : Room} {s : State} {m : MethodId} {args : Array Value} {below : List Frame} {meth : Method} {c : Code} {cells slots : Nat} {Q : State → Prop} {E : xE} {A : Nat → Prop} {nL : Nat} {σ σ' : Nat → Nat → Int32} {τ τ' : Nat → Int64} {pc : Nat} {lv : List (Nat × Value)} {rest : List Value} {cc : ByteArray} {own : String} {ret : Option FieldType}
theorem x_ldcS (C : xC p s m args meth c cc nL own ret E A R cells slots) {index i : Nat} (hi : i < 13) (hdg : decode cc pc = .ok (.ldc index, 2)) (hm : Cond.stringRef own index (xsTx.getD i "") ∈ lw_tbl) (k : WM p l e R s m args below meth c cells slots Q E A nL σ τ (pc + 2) lv (.ref (xsK E i) :: rest)) : WM p l e R s m args below meth c cells slots Q E A nL σ τ pc lv (rest) := fun H locs ls hP hS hl => va_ldcS C.hx C.hb C.hown (C.hZ.2.2.1 own index i hi hm) hdg (k H locs ls hP hS hl)
theorem x_recvS (C : xC p s m args meth c cc nL own ret E A R cells slots) {i : Nat} (hi : i < 13) : ∀ (H : Heap) (locs : List Loc), va_S A s.heap H locs → ∃ cell : Cell, H[xsK E i]? = some cell ∧ cell.vm.isStatics = false ∧ s.vm.findClass "java/lang/String" = some cell.cls := fun _ _ hS => vk_recv C.hZ.2.1 hi hS
theorem x_strV (C : xC p s m args meth c cc nL own ret E A R cells slots) {index i : Nat} (hi : i < 13) (hlink : Cond.fieldLink own index "java/lang/String" "value" "[B" ∈ xT) (hdg : decode cc pc = .ok (.getfield index, 3)) (k : WM p l e R s m args below meth c cells slots Q E A nL σ τ (pc + 3) lv (.ref (xsV E i) :: rest)) : WM p l e R s m args below meth c cells slots Q E A nL σ τ pc lv (.ref (xsK E i) :: rest) := fun H locs ls hP hS hl => vk_getf C.hx C.hb (C.hZ.2.1.1 i hi).2.2.1 hS C.hown (C.hts _ hlink) (fun _ h => h) hdg (k H locs ls hP hS hl)
theorem x_strC (C : xC p s m args meth c cc nL own ret E A R cells slots) {index i : Nat} (hi : i < 13) (hlink : Cond.fieldLink own index "java/lang/String" "coder" "B" ∈ xT) (hdg : decode cc pc = .ok (.getfield index, 3)) (k : WM p l e R s m args below meth c cells slots Q E A nL σ τ (pc + 3) lv (.int 0 :: rest)) : WM p l e R s m args below meth c cells slots Q E A nL σ τ pc lv (.ref (xsK E i) :: rest) := fun H locs ls hP hS hl => vk_getf C.hx C.hb (C.hZ.2.1.1 i hi).2.1 hS C.hown (C.hts _ hlink) (fun _ h => h) hdg (k H locs ls hP hS hl)
theorem x_strN (C : xC p s m args meth c cc nL own ret E A R cells slots) {i : Nat} (hi : i < 13) (hdg : decode cc pc = .ok (.arraylength, 1)) (k : WM p l e R s m args below meth c cells slots Q E A nL σ τ (pc + 1) lv (.int (nI (xsLn.getD i 0)) :: rest)) : WM p l e R s m args below meth c cells slots Q E A nL σ τ pc lv (.ref (xsV E i) :: rest) := fun H locs ls hP hS hl => va_tlen C.hx C.hb (C.hZ.2.1.1 i hi).2.2.2 hS rfl hdg (k H locs ls hP hS hl)
theorem x_strB (C : xC p s m args meth c cc nL own ret E A R cells slots) {i : Nat} {j v : Int32} (hi : i < 13) (hin : vp_in j (xsLn.getD i 0)) (hv : (xsB.getD i []).getD j.toNatClampNeg 0 = v) (hdg : decode cc pc = .ok (.baload, 1)) (k : WM p l e R s m args below meth c cells slots Q E A nL σ τ (pc + 1) lv (.int v :: rest)) : WM p l e R s m args below meth c cells slots Q E A nL σ τ pc lv (.int j :: .ref (xsV E i) :: rest) := fun H locs ls hP hS hl => va_tb C.hx C.hb (C.hZ.2.1.1 i hi).2.2.2 hS hin (v := .int v) (by rw [hv]) hdg (k H locs ls hP hS hl)
theorem x_getsC (C : xC p s m args meth c cc nL own ret E A R cells slots) {index : Nat} (hlink : Cond.fieldLink own index "java/lang/String" "COMPACT_STRINGS" "Z" ∈ xT) (hdg : decode cc pc = .ok (.getstatic index, 3)) (k : WM p l e R s m args below meth c cells slots Q E A nL σ τ (pc + 3) lv (.int 1 :: rest)) : WM p l e R s m args below meth c cells slots Q E A nL σ τ pc lv (rest) := fun H locs ls hP hS hl => va_gets C.hx C.hb C.hZ.2.2.2.2.1 hS C.hown (C.hts _ hlink) (fun _ h => h) hdg (k H locs ls hP hS hl)
theorem x_getsF (C : xC p s m args meth c cc nL own ret E A R cells slots) {index : Nat} (hlink : Cond.fieldLink own index "jdk/internal/util/Preconditions" "SIOOBE_FORMATTER" "Ljava/util/function/BiFunction;" ∈ xT) (hdg : decode cc pc = .ok (.getstatic index, 3)) (k0 : WM p l e R s m args below meth c cells slots Q E A nL σ τ (pc + 3) lv (.null :: rest)) (k1 : ∀ t : Nat, WM p l e R s m args below meth c cells slots Q E A nL σ τ (pc + 3) lv (.ref t :: rest)) : WM p l e R s m args below meth c cells slots Q E A nL σ τ pc lv (rest) := fun H locs ls hP hS hl => by
  rcases C.hZ.2.2.2.2.2 with h | ⟨t, h⟩
  · exact va_gets C.hx C.hb h hS C.hown (C.hts _ hlink) (fun _ h => h) hdg (k0 H locs ls hP hS hl)
  · exact va_gets C.hx C.hb h hS C.hown (C.hts _ hlink) (fun _ h => h) hdg (k1 t H locs ls hP hS hl)
theorem x_callViS (C : xC p s m args meth c cc nL own ret E A R cells slots) {b index mL fr lo n : Nat} {Cn : String} {y : MethodName} {bytes : ByteArray} {As st : List Value} {rt : FieldType} {f : Int32} (hM : xMi l y bytes mL rt fr lo E (.ref b :: As) σ τ f σ' τ') (hL : xLV own index Cn y bytes mL (some rt) n) (hr : ∀ (H : Heap) (locs : List Loc), va_S A s.heap H locs → ∃ cell : Cell, H[b]? = some cell ∧ cell.vm.isStatics = false ∧ s.vm.findClass Cn = some cell.cls) (hR : fr + 1 ≤ R.frames ∧ 8 + (mL + 11) + lo ≤ R.locals) (hn : As.length = n) (hst : st = As.reverse ++ .ref b :: rest) (hrm : (rest.map fun v => v.category).sum ≤ 8) (hdg : decode cc pc = .ok (.invokevirtual index, 3)) (kk : WM p l e R s m args below meth c cells slots Q E A nL σ' τ' (pc + 3) lv (.int f :: rest)) : WM p l e R s m args below meth c cells slots Q E A nL σ τ pc lv (st) := by
  subst hst
  obtain ⟨h1, h2, h3, h4, h5, h6, h7, h8, h9⟩ := hL
  intro H locs ls hP hS hl
  have hAA : ∀ q, xA E q → A q := C.hI.sub
  exact va_calli (va_runV (As := As) (rest := rest) C.1 hM (cwV n C.hts (xgi4 h1 h2 h3 h4 (xGood h5)) rfl rfl rfl ⟨h6, h7, h8, h9⟩ hR) ⟨xG.blind, hr H locs hS, fun U hU hW => ⟨rfl, by rw [hU]; exact hP, va_K.moved hW.alike C.hK, C.hI.self, C.hZ.go (H := U.heap) (by rw [hU]; exact hS) hW C.hI.sub⟩⟩ rfl hn hl.1 rfl (lv_room hrm) hdg C.hc) hS (fun q _ h => hAA q h) hAA (fun r u t H1 locs1 ht hvm hw hB hz hk1 hS1 => by
    subst hw
    rw [ht] at hB
    exact kk H1 locs1 ls hB hS1 hl)
end XSTR
theorem shr_0 (x : Int32) : x >>> ((0 : Int32) &&& 31) = x := by
  rw [show ((0 : Int32) &&& 31) = 0 from by decide]
  exact Int32.shiftRight_zero
theorem hl_13 : ∀ i, i < 13 → xsLn.getD i 0 < 2 ^ 31 := by decide +kernel
def xch (i j : Nat) : Int32 := (xsB.getD i []).getD j 0
theorem chr_0 : ∀ i, i < 13 → ∀ j, j < xsLn.getD i 0 → UInt32.toInt32 (Int32.toUInt32 (xch i j &&& 255) % 65536) = xch i j ∧ narrow .char (.int (xch i j)) = .int (xch i j) := by decide +kernel
set_option maxHeartbeats 4000000 in
set_option maxRecDepth 100000 in
theorem c_Scod (l : Launch) (E : xE) (σ : Nat → Nat → Int32) (τ : Nat → Int64) (i : Nat) (hi : i < 13) : xMi l yJ_Scod cJ_Scod 1 .byte 0 0 E [.ref (xsK E (i))] (σ) (τ) (0) (σ) (τ) := by
  refine xMi_of (own := "java/lang/String") (by decide +kernel) rfl (Nat.le_of_ble_eq_true rfl) ?_
  intro zp ze zs zm za zb zh zc C
  refine WM.to (lv1 := [(0, .ref (xsK E (i)))]) (st1 := []) (σ1 := σ) (τ1 := τ) ?_ rfl rfl rfl rfl
  refine x_getsC C fj_JString_38 dJ_Scod_0 ?_
  refine x_if_eq C (tgt := 13) dJ_Scod_3 (by decide) (fun h1 => absurd h1 (by decide)) (fun h1 => ?_)
  refine x_aload_n C 0 dJ_Scod_6 rfl rfl ?_
  refine x_strC C hi fj_JString_15 dJ_Scod_7 ?_
  refine x_goto2 C (tgt := 14) dJ_Scod_10 (by decide) ?_
  exact x_zret C (by rfl) rfl rfl rfl dJ_Scod_14
set_option maxHeartbeats 4000000 in
set_option maxRecDepth 100000 in
theorem c_Slat (l : Launch) (E : xE) (σ : Nat → Nat → Int32) (τ : Nat → Int64) (i : Nat) (hi : i < 13) : xMi l yJ_Slat cJ_Slat 1 .boolean 0 0 E [.ref (xsK E (i))] (σ) (τ) (1) (σ) (τ) := by
  refine xMi_of (own := "java/lang/String") (by decide +kernel) rfl (Nat.le_of_ble_eq_true rfl) ?_
  intro zp ze zs zm za zb zh zc C
  refine WM.to (lv1 := [(0, .ref (xsK E (i)))]) (st1 := []) (σ1 := σ) (τ1 := τ) ?_ rfl rfl rfl rfl
  refine x_getsC C fj_JString_38 dJ_Slat_0 ?_
  refine x_if_eq C (tgt := 17) dJ_Slat_3 (by decide) (fun h1 => absurd h1 (by decide)) (fun h1 => ?_)
  refine x_aload_n C 0 dJ_Slat_6 rfl rfl ?_
  refine x_strC C hi fj_JString_15 dJ_Slat_7 ?_
  refine x_if_ne C (tgt := 17) dJ_Slat_10 (by decide) (fun h2 => absurd h2 (by decide)) (fun h2 => ?_)
  refine x_iconst C (v := 1) dJ_Slat_13 (by decide) ?_
  refine x_goto2 C (tgt := 18) dJ_Slat_14 (by decide) ?_
  exact x_zret C (by rfl) rfl rfl rfl dJ_Slat_18
set_option maxHeartbeats 4000000 in
set_option maxRecDepth 100000 in
theorem c_Slen (l : Launch) (E : xE) (σ : Nat → Nat → Int32) (τ : Nat → Int64) (i : Nat) (hi : i < 13) : xMi l yJ_Slen cJ_Slen 1 .int 1 20 E [.ref (xsK E (i))] (σ) (τ) (nI (xsLn.getD i 0)) (σ) (τ) := by
  refine xMi_of (own := "java/lang/String") (by decide +kernel) rfl (Nat.le_of_ble_eq_true rfl) ?_
  intro zp ze zs zm za zb zh zc C
  refine WM.to (lv1 := [(0, .ref (xsK E (i)))]) (st1 := []) (σ1 := σ) (τ1 := τ) ?_ rfl rfl rfl rfl
  refine x_aload_n C 0 dJ_Slen_0 rfl rfl ?_
  refine x_strV C hi fj_JString_9 dJ_Slen_1 ?_
  refine x_strN C hi dJ_Slen_4 ?_
  refine x_aload_n C 0 dJ_Slen_5 rfl rfl ?_
  refine x_callViS C (As := []) (rest := [.int (nI (xsLn.getD i 0))]) (c_Scod l E σ τ i hi) kv_JString_335 (x_recvS C (i := i) hi) ⟨Nat.le_of_ble_eq_true rfl, Nat.le_of_ble_eq_true rfl⟩ rfl rfl (Nat.le_of_ble_eq_true rfl) dJ_Slen_6 ?_
  refine x_ishr C dJ_Slen_9 ?_
  refine WM.topi (y := nI (xsLn.getD i 0)) (shr_0 _) ?_
  exact x_iret C rfl rfl rfl dJ_Slen_10
set_option maxHeartbeats 4000000 in
set_option maxRecDepth 100000 in
theorem c_Pchk_n (l : Launch) (E : xE) (σ : Nat → Nat → Int32) (τ : Nat → Int64) (k n : Nat) (hk : k < n) (hn : n < 2 ^ 31) : xMi l yJ_Pchk cJ_Pchk 3 .int 0 0 E [.int (nI k), .int (nI n), .null] (σ) (τ) (nI k) (σ) (τ) := by
  refine xMi_of (own := "jdk/internal/util/Preconditions") (by decide +kernel) rfl (Nat.le_of_ble_eq_true rfl) ?_
  intro zp ze zs zm za zb zh zc C
  refine WM.to (lv1 := [(0, .int (nI k)), (1, .int (nI n)), (2, .null)]) (st1 := []) (σ1 := σ) (τ1 := τ) ?_ rfl rfl rfl rfl
  refine x_iload_n C 0 dJ_Pchk_0 rfl rfl ?_
  refine x_if_lt C (tgt := 9) dJ_Pchk_1 (by decide) (fun h1 => absurd h1 (nI_nlt (a := k) (b := 0) (by omega) (by omega))) (fun h1 => ?_)
  refine x_iload_n C 0 dJ_Pchk_4 rfl rfl ?_
  refine x_iload_n C 1 dJ_Pchk_5 rfl rfl ?_
  refine x_icmp_lt C (tgt := 16) dJ_Pchk_6 (by decide) (fun h2 => ?_) (fun h2 => absurd (nI_lt hk hn) h2)
  refine x_iload_n C 0 dJ_Pchk_16 rfl rfl ?_
  exact x_iret C rfl rfl rfl dJ_Pchk_17
set_option maxHeartbeats 4000000 in
set_option maxRecDepth 100000 in
theorem c_Pchk_r (l : Launch) (E : xE) (σ : Nat → Nat → Int32) (τ : Nat → Int64) (k n : Nat) (hk : k < n) (hn : n < 2 ^ 31) (t : Nat) : xMi l yJ_Pchk cJ_Pchk 3 .int 0 0 E [.int (nI k), .int (nI n), .ref t] (σ) (τ) (nI k) (σ) (τ) := by
  refine xMi_of (own := "jdk/internal/util/Preconditions") (by decide +kernel) rfl (Nat.le_of_ble_eq_true rfl) ?_
  intro zp ze zs zm za zb zh zc C
  refine WM.to (lv1 := [(0, .int (nI k)), (1, .int (nI n)), (2, .ref t)]) (st1 := []) (σ1 := σ) (τ1 := τ) ?_ rfl rfl rfl rfl
  refine x_iload_n C 0 dJ_Pchk_0 rfl rfl ?_
  refine x_if_lt C (tgt := 9) dJ_Pchk_1 (by decide) (fun h1 => absurd h1 (nI_nlt (a := k) (b := 0) (by omega) (by omega))) (fun h1 => ?_)
  refine x_iload_n C 0 dJ_Pchk_4 rfl rfl ?_
  refine x_iload_n C 1 dJ_Pchk_5 rfl rfl ?_
  refine x_icmp_lt C (tgt := 16) dJ_Pchk_6 (by decide) (fun h2 => ?_) (fun h2 => absurd (nI_lt hk hn) h2)
  refine x_iload_n C 0 dJ_Pchk_16 rfl rfl ?_
  exact x_iret C rfl rfl rfl dJ_Pchk_17
set_option maxHeartbeats 4000000 in
set_option maxRecDepth 100000 in
theorem c_Schk (l : Launch) (E : xE) (σ : Nat → Nat → Int32) (τ : Nat → Int64) (k n : Nat) (hk : k < n) (hn : n < 2 ^ 31) : xMv l yJ_Schk cJ_Schk 2 1 22 E [.int (nI k), .int (nI n)] (σ) (τ) (σ) (τ) := by
  refine xMv_of (own := "java/lang/String") (by decide +kernel) rfl (Nat.le_of_ble_eq_true rfl) ?_
  intro zp ze zs zm za zb zh zc C
  refine WM.to (lv1 := [(0, .int (nI k)), (1, .int (nI n))]) (st1 := []) (σ1 := σ) (τ1 := τ) ?_ rfl rfl rfl rfl
  refine x_iload_n C 0 dJ_Schk_0 rfl rfl ?_
  refine x_iload_n C 1 dJ_Schk_1 rfl rfl ?_
  refine x_getsF C fj_JString_1053 dJ_Schk_2 ?_ (fun t => ?_)
  · refine x_callSi C (As := [.int (nI k), .int (nI n), .null]) (rest := []) (c_Pchk_n l E σ τ k n hk hn) ks_JString_1059 ⟨Nat.le_of_ble_eq_true rfl, Nat.le_of_ble_eq_true rfl⟩ rfl rfl (Nat.le_of_ble_eq_true rfl) dJ_Schk_5 ?_
    refine x_pop C dJ_Schk_8 rfl ?_
    exact x_vret C rfl rfl dJ_Schk_9
  · refine x_callSi C (As := [.int (nI k), .int (nI n), .ref t]) (rest := []) (c_Pchk_r l E σ τ k n hk hn t) ks_JString_1059 ⟨Nat.le_of_ble_eq_true rfl, Nat.le_of_ble_eq_true rfl⟩ rfl rfl (Nat.le_of_ble_eq_true rfl) dJ_Schk_5 ?_
    refine x_pop C dJ_Schk_8 rfl ?_
    exact x_vret C rfl rfl dJ_Schk_9
set_option maxHeartbeats 4000000 in
set_option maxRecDepth 100000 in
theorem c_Lch (l : Launch) (E : xE) (σ : Nat → Nat → Int32) (τ : Nat → Int64) (i j : Nat) (hi : i < 13) (hj : j < xsLn.getD i 0) : xMi l yJ_Lch cJ_Lch 2 .char 2 43 E [.ref (xsV E i), .int (nI j)] (σ) (τ) (xch i j) (σ) (τ) := by
  refine xMi_of (own := "java/lang/StringLatin1") (by decide +kernel) rfl (Nat.le_of_ble_eq_true rfl) ?_
  intro zp ze zs zm za zb zh zc C
  refine WM.to (lv1 := [(0, .ref (xsV E i)), (1, .int (nI j))]) (st1 := []) (σ1 := σ) (τ1 := τ) ?_ rfl rfl rfl rfl
  refine x_iload_n C 1 dJ_Lch_0 rfl rfl ?_
  refine x_aload_n C 0 dJ_Lch_1 rfl rfl ?_
  refine x_strN C hi dJ_Lch_2 ?_
  refine x_callSv C (As := [.int (nI j), .int (nI (xsLn.getD i 0))]) (rest := []) (c_Schk l E σ τ j (xsLn.getD i 0) hj (hl_13 i hi)) ks_JStringLatin1_9 ⟨Nat.le_of_ble_eq_true rfl, Nat.le_of_ble_eq_true rfl⟩ rfl rfl (Nat.le_of_ble_eq_true rfl) dJ_Lch_3 ?_
  refine x_aload_n C 0 dJ_Lch_6 rfl rfl ?_
  refine x_iload_n C 1 dJ_Lch_7 rfl rfl ?_
  refine x_strB C (v := xch i j) hi (vp_in_nI hj (hl_13 i hi)) (by rw [nI_clamp (by have := hl_13 i hi; omega)]; rfl) dJ_Lch_8 ?_
  refine x_sipush C (v := 255) dJ_Lch_9 (by decide) ?_
  refine x_iand C dJ_Lch_12 ?_
  refine x_i2c C dJ_Lch_13 ?_
  refine WM.topi (y := xch i j) (chr_0 i hi j hj).1 ?_
  exact x_zret C (chr_0 i hi j hj).2 rfl rfl rfl dJ_Lch_14
set_option maxHeartbeats 4000000 in
set_option maxRecDepth 100000 in
theorem c_Sch (l : Launch) (E : xE) (σ : Nat → Nat → Int32) (τ : Nat → Int64) (i j : Nat) (hi : i < 13) (hj : j < xsLn.getD i 0) : xMi l yJ_Sch cJ_Sch 2 .char 3 64 E [.ref (xsK E (i)), .int (nI j)] (σ) (τ) (xch i j) (σ) (τ) := by
  refine xMi_of (own := "java/lang/String") (by decide +kernel) rfl (Nat.le_of_ble_eq_true rfl) ?_
  intro zp ze zs zm za zb zh zc C
  refine WM.to (lv1 := [(0, .ref (xsK E (i))), (1, .int (nI j))]) (st1 := []) (σ1 := σ) (τ1 := τ) ?_ rfl rfl rfl rfl
  refine x_aload_n C 0 dJ_Sch_0 rfl rfl ?_
  refine x_callViS C (As := []) (rest := []) (c_Slat l E σ τ i hi) kv_JString_492 (x_recvS C (i := i) hi) ⟨Nat.le_of_ble_eq_true rfl, Nat.le_of_ble_eq_true rfl⟩ rfl rfl (Nat.le_of_ble_eq_true rfl) dJ_Sch_1 ?_
  refine x_if_eq C (tgt := 16) dJ_Sch_4 (by decide) (fun h1 => absurd h1 (by decide)) (fun h1 => ?_)
  refine x_aload_n C 0 dJ_Sch_7 rfl rfl ?_
  refine x_strV C hi fj_JString_9 dJ_Sch_8 ?_
  refine x_iload_n C 1 dJ_Sch_11 rfl rfl ?_
  refine x_callSi C (As := [.ref (xsV E i), .int (nI j)]) (rest := []) (c_Lch l E σ τ i j hi hj) ks_JString_495 ⟨Nat.le_of_ble_eq_true rfl, Nat.le_of_ble_eq_true rfl⟩ rfl rfl (Nat.le_of_ble_eq_true rfl) dJ_Sch_12 ?_
  exact x_zret C (chr_0 i hi j hj).2 rfl rfl rfl dJ_Sch_15
