theorem sw_out {v : Int32} (h : ¬ ∃ q : Nat, q < 43 ∧ v = nI q) : v.toInt < 0 ∨ 42 < v.toInt := by
  by_cases h1 : v.toInt < 0
  · exact Or.inl h1
  · by_cases h2 : 42 < v.toInt
    · exact Or.inr h2
    · obtain ⟨j, hj, e⟩ := nI_is (x := v) (by omega) (n := 42) (by omega) (by decide)
      exact absurd ⟨j, by omega, e⟩ h
theorem lp_6 {L k : Nat} (hL : L ≤ 384) (hk : k ≤ 64) (h : ¬ nI L - 6 < nI (6 * k)) : 6 * k + 6 ≤ L := by
  have e : (6 : Int32).toInt = 6 := by decide
  have e2 : (nI L).toInt = L := nI_toInt (by omega)
  rw [tI_lt, tI_sub (by omega) (by omega), e, e2, nI_toInt (by omega)] at h
  omega
set_option maxHeartbeats 4000000 in
theorem law_loop {p : Program} {l : Launch} {e : Env} {s : State} {m : MethodId} {below : List Frame} {meth : Method} {c : Code} {cells slots : Nat} {Q : State → Prop} {E : xE} {A : Nat → Prop} {b L : Nat} {xs : Nat → Int32} (C : xC p s m #[Value.ref b] meth c code 4 "LeakCupsLaw" ret E A room_1 cells slots) (hX : va_X b L xs s s.heap) (hbl : b < s.heap.size) (hbA : ¬ A b) (hL : L ≤ 384) (hend : ∀ (σ : Nat → Nat → Int32) (τ : Nat → Int64) (lv : List (Nat × Value)), WM p l e room_1 s m #[Value.ref b] below meth c cells slots Q E A 4 σ τ 1415 lv []) : ∀ (n k : Nat) (σ : Nat → Nat → Int32) (τ : Nat → Int64), k + n = 64 → cv σ = mv σ → Inv (cv σ) (600 * k) → Lkeep σ → WM p l e room_1 s m #[Value.ref b] below meth c cells slots Q E A 4 σ τ 18 [(3, .int (nI (6 * k))), (2, .ref (xad E 81)), (1, .ref (xad E 0)), (0, .ref b)] [] := by
  intro n
  induction n with
  | zero =>
    intro k σ τ hk hR hI hlv
    refine x_iload_n C 0 dL_18 rfl rfl ?_
    refine x_aload_n C 3 dL_19 rfl rfl ?_
    refine x_slen C hX hbl hbA dL_20 ?_
    refine x_bipush C (v := 6) dL_21 (by decide) ?_
    refine x_isub C dL_23 ?_
    refine x_icmp_gt C (tgt := 1415) dL_24 (by decide) (fun _ => hend _ _ _) (fun h => ?_)
    have h6 := lp_6 hL (by omega) h
    omega
  | succ n ih =>
    intro k σ τ hk hR hI hlv
    refine x_iload_n C 0 dL_18 rfl rfl ?_
    refine x_aload_n C 3 dL_19 rfl rfl ?_
    refine x_slen C hX hbl hbA dL_20 ?_
    refine x_bipush C (v := 6) dL_21 (by decide) ?_
    refine x_isub C dL_23 ?_
    refine x_icmp_gt C (tgt := 1415) dL_24 (by decide) (fun _ => hend _ _ _) (fun h => ?_)
    have h6 := lp_6 hL (by omega) h
    have hT : 600 * k < 1073741824 := by omega
    have kk : ∀ (σ' : Nat → Nat → Int32) (τ' : Nat → Int64), cv σ' = mv σ' → Inv (cv σ') (600 * k + 600) → Lkeep σ' → WM p l e room_1 s m #[Value.ref b] below meth c cells slots Q E A 4 σ' τ' 1409 [(3, .int (nI (6 * k))), (2, .ref (xad E 81)), (1, .ref (xad E 0)), (0, .ref b)] [] := by
      intro σ' τ' h1 h2 h3
      refine x_iinc C (v := nI (6 * (k + 1))) (lv1 := [(3, .int (nI (6 * (k + 1)))), (2, .ref (xad E 81)), (1, .ref (xad E 0)), (0, .ref b)]) 0 dL_1409 rfl (nI_add (6 * k) 6) (by decide) rfl ?_
      refine x_goto2 C (tgt := 18) dL_1412 (by decide) ?_
      exact ih (k + 1) σ' τ' (by omega) h1 h2 h3
    refine x_aload_n C 3 dL_27 rfl rfl ?_
    refine x_iload_n C 0 dL_28 rfl rfl ?_
    refine x_sld C hX hbl hbA (6 * k) rfl (by omega) hL dL_29 ?_
    refine x_bipush C (v := 63) dL_30 (by decide) ?_
    refine x_iand C dL_32 ?_
    by_cases hq : ∃ q : Nat, q < 43 ∧ (xs (6 * k) &&& 63) = nI q
    · obtain ⟨q, hq1, hq2⟩ := hq
      match q, hq1, hq2 with
      | 0, _, e =>
        refine WM.topi (y := 0) (e.trans (by decide)) ?_
        refine x_tableIn C (tgt := 220) dL_33 (by decide) (by decide) rfl (by decide) ?_
        exact law_0 C hX hbl hbA hL h6 hT hR hI hlv kk
      | 1, _, e =>
        refine WM.topi (y := 1) (e.trans (by decide)) ?_
        refine x_tableIn C (tgt := 253) dL_33 (by decide) (by decide) rfl (by decide) ?_
        exact law_1 C hX hbl hbA hL h6 hT hR hI hlv kk
      | 2, _, e =>
        refine WM.topi (y := 2) (e.trans (by decide)) ?_
        refine x_tableIn C (tgt := 286) dL_33 (by decide) (by decide) rfl (by decide) ?_
        exact law_2 C hX hbl hbA hL h6 hT hR hI hlv kk
      | 3, _, e =>
        refine WM.topi (y := 3) (e.trans (by decide)) ?_
        refine x_tableIn C (tgt := 319) dL_33 (by decide) (by decide) rfl (by decide) ?_
        exact law_3 C hX hbl hbA hL h6 hT hR hI hlv kk
      | 4, _, e =>
        refine WM.topi (y := 4) (e.trans (by decide)) ?_
        refine x_tableIn C (tgt := 352) dL_33 (by decide) (by decide) rfl (by decide) ?_
        exact law_4 C hX hbl hbA hL h6 hT hR hI hlv kk
      | 5, _, e =>
        refine WM.topi (y := 5) (e.trans (by decide)) ?_
        refine x_tableIn C (tgt := 375) dL_33 (by decide) (by decide) rfl (by decide) ?_
        exact law_5 C hX hbl hbA hL h6 hT hR hI hlv kk
      | 6, _, e =>
        refine WM.topi (y := 6) (e.trans (by decide)) ?_
        refine x_tableIn C (tgt := 398) dL_33 (by decide) (by decide) rfl (by decide) ?_
        exact law_6 C hX hbl hbA hL h6 hT hR hI hlv kk
      | 7, _, e =>
        refine WM.topi (y := 7) (e.trans (by decide)) ?_
        refine x_tableIn C (tgt := 421) dL_33 (by decide) (by decide) rfl (by decide) ?_
        exact law_7 C hX hbl hbA hL h6 hT hR hI hlv kk
      | 8, _, e =>
        refine WM.topi (y := 8) (e.trans (by decide)) ?_
        refine x_tableIn C (tgt := 444) dL_33 (by decide) (by decide) rfl (by decide) ?_
        exact law_8 C hX hbl hbA hL h6 hT hR hI hlv kk
      | 9, _, e =>
        refine WM.topi (y := 9) (e.trans (by decide)) ?_
        refine x_tableIn C (tgt := 467) dL_33 (by decide) (by decide) rfl (by decide) ?_
        exact law_9 C hX hbl hbA hL h6 hT hR hI hlv kk
      | 10, _, e =>
        refine WM.topi (y := 10) (e.trans (by decide)) ?_
        refine x_tableIn C (tgt := 480) dL_33 (by decide) (by decide) rfl (by decide) ?_
        exact law_10 C hX hbl hbA hL h6 hT hR hI hlv kk
      | 11, _, e =>
        refine WM.topi (y := 11) (e.trans (by decide)) ?_
        refine x_tableIn C (tgt := 513) dL_33 (by decide) (by decide) rfl (by decide) ?_
        exact law_11 C hX hbl hbA hL h6 hT hR hI hlv kk
      | 12, _, e =>
        refine WM.topi (y := 12) (e.trans (by decide)) ?_
        refine x_tableIn C (tgt := 536) dL_33 (by decide) (by decide) rfl (by decide) ?_
        exact law_12 C hX hbl hbA hL h6 hT hR hI hlv kk
      | 13, _, e =>
        refine WM.topi (y := 13) (e.trans (by decide)) ?_
        refine x_tableIn C (tgt := 549) dL_33 (by decide) (by decide) rfl (by decide) ?_
        exact law_13 C hX hbl hbA hL h6 hT hR hI hlv kk
      | 14, _, e =>
        refine WM.topi (y := 14) (e.trans (by decide)) ?_
        refine x_tableIn C (tgt := 562) dL_33 (by decide) (by decide) rfl (by decide) ?_
        exact law_14 C hX hbl hbA hL h6 hT hR hI hlv kk
      | 15, _, e =>
        refine WM.topi (y := 15) (e.trans (by decide)) ?_
        refine x_tableIn C (tgt := 595) dL_33 (by decide) (by decide) rfl (by decide) ?_
        exact law_15 C hX hbl hbA hL h6 hT hR hI hlv kk
      | 16, _, e =>
        refine WM.topi (y := 16) (e.trans (by decide)) ?_
        refine x_tableIn C (tgt := 608) dL_33 (by decide) (by decide) rfl (by decide) ?_
        exact law_16 C hX hbl hbA hL h6 hT hR hI hlv kk
      | 17, _, e =>
        refine WM.topi (y := 17) (e.trans (by decide)) ?_
        refine x_tableIn C (tgt := 621) dL_33 (by decide) (by decide) rfl (by decide) ?_
        exact law_17 C hX hbl hbA hL h6 hT hR hI hlv kk
      | 18, _, e =>
        refine WM.topi (y := 18) (e.trans (by decide)) ?_
        refine x_tableIn C (tgt := 654) dL_33 (by decide) (by decide) rfl (by decide) ?_
        exact law_18 C hX hbl hbA hL h6 hT hR hI hlv kk
      | 19, _, e =>
        refine WM.topi (y := 19) (e.trans (by decide)) ?_
        refine x_tableIn C (tgt := 677) dL_33 (by decide) (by decide) rfl (by decide) ?_
        exact law_19 C hX hbl hbA hL h6 hT hR hI hlv kk
      | 20, _, e =>
        refine WM.topi (y := 20) (e.trans (by decide)) ?_
        refine x_tableIn C (tgt := 710) dL_33 (by decide) (by decide) rfl (by decide) ?_
        exact law_20 C hX hbl hbA hL h6 hT hR hI hlv kk
      | 21, _, e =>
        refine WM.topi (y := 21) (e.trans (by decide)) ?_
        refine x_tableIn C (tgt := 743) dL_33 (by decide) (by decide) rfl (by decide) ?_
        exact law_21 C hX hbl hbA hL h6 hT hR hI hlv kk
      | 22, _, e =>
        refine WM.topi (y := 22) (e.trans (by decide)) ?_
        refine x_tableIn C (tgt := 776) dL_33 (by decide) (by decide) rfl (by decide) ?_
        exact law_22 C hX hbl hbA hL h6 hT hR hI hlv kk
      | 23, _, e =>
        refine WM.topi (y := 23) (e.trans (by decide)) ?_
        refine x_tableIn C (tgt := 799) dL_33 (by decide) (by decide) rfl (by decide) ?_
        exact law_23 C hX hbl hbA hL h6 hT hR hI hlv kk
      | 24, _, e =>
        refine WM.topi (y := 24) (e.trans (by decide)) ?_
        refine x_tableIn C (tgt := 832) dL_33 (by decide) (by decide) rfl (by decide) ?_
        exact law_24 C hX hbl hbA hL h6 hT hR hI hlv kk
      | 25, _, e =>
        refine WM.topi (y := 25) (e.trans (by decide)) ?_
        refine x_tableIn C (tgt := 865) dL_33 (by decide) (by decide) rfl (by decide) ?_
        exact law_25 C hX hbl hbA hL h6 hT hR hI hlv kk
      | 26, _, e =>
        refine WM.topi (y := 26) (e.trans (by decide)) ?_
        refine x_tableIn C (tgt := 888) dL_33 (by decide) (by decide) rfl (by decide) ?_
        exact law_26 C hX hbl hbA hL h6 hT hR hI hlv kk
      | 27, _, e =>
        refine WM.topi (y := 27) (e.trans (by decide)) ?_
        refine x_tableIn C (tgt := 911) dL_33 (by decide) (by decide) rfl (by decide) ?_
        exact law_27 C hX hbl hbA hL h6 hT hR hI hlv kk
      | 28, _, e =>
        refine WM.topi (y := 28) (e.trans (by decide)) ?_
        refine x_tableIn C (tgt := 944) dL_33 (by decide) (by decide) rfl (by decide) ?_
        exact law_28 C hX hbl hbA hL h6 hT hR hI hlv kk
      | 29, _, e =>
        refine WM.topi (y := 29) (e.trans (by decide)) ?_
        refine x_tableIn C (tgt := 997) dL_33 (by decide) (by decide) rfl (by decide) ?_
        exact law_29 C hX hbl hbA hL h6 hT hR hI hlv kk
      | 30, _, e =>
        refine WM.topi (y := 30) (e.trans (by decide)) ?_
        refine x_tableIn C (tgt := 1040) dL_33 (by decide) (by decide) rfl (by decide) ?_
        exact law_30 C hX hbl hbA hL h6 hT hR hI hlv kk
      | 31, _, e =>
        refine WM.topi (y := 31) (e.trans (by decide)) ?_
        refine x_tableIn C (tgt := 1063) dL_33 (by decide) (by decide) rfl (by decide) ?_
        exact law_31 C hX hbl hbA hL h6 hT hR hI hlv kk
      | 32, _, e =>
        refine WM.topi (y := 32) (e.trans (by decide)) ?_
        refine x_tableIn C (tgt := 1096) dL_33 (by decide) (by decide) rfl (by decide) ?_
        exact law_32 C hX hbl hbA hL h6 hT hR hI hlv kk
      | 33, _, e =>
        refine WM.topi (y := 33) (e.trans (by decide)) ?_
        refine x_tableIn C (tgt := 1129) dL_33 (by decide) (by decide) rfl (by decide) ?_
        exact law_33 C hX hbl hbA hL h6 hT hR hI hlv kk
      | 34, _, e =>
        refine WM.topi (y := 34) (e.trans (by decide)) ?_
        refine x_tableIn C (tgt := 1172) dL_33 (by decide) (by decide) rfl (by decide) ?_
        exact law_34 C hX hbl hbA hL h6 hT hR hI hlv kk
      | 35, _, e =>
        refine WM.topi (y := 35) (e.trans (by decide)) ?_
        refine x_tableIn C (tgt := 1215) dL_33 (by decide) (by decide) rfl (by decide) ?_
        exact law_35 C hX hbl hbA hL h6 hT hR hI hlv kk
      | 36, _, e =>
        refine WM.topi (y := 36) (e.trans (by decide)) ?_
        refine x_tableIn C (tgt := 1278) dL_33 (by decide) (by decide) rfl (by decide) ?_
        exact law_36 C hX hbl hbA hL h6 hT hR hI hlv kk
      | 37, _, e =>
        refine WM.topi (y := 37) (e.trans (by decide)) ?_
        refine x_tableIn C (tgt := 1301) dL_33 (by decide) (by decide) rfl (by decide) ?_
        exact law_37 C hX hbl hbA hL h6 hT hR hI hlv kk
      | 38, _, e =>
        refine WM.topi (y := 38) (e.trans (by decide)) ?_
        refine x_tableIn C (tgt := 1324) dL_33 (by decide) (by decide) rfl (by decide) ?_
        exact law_38 C hX hbl hbA hL h6 hT hR hI hlv kk
      | 39, _, e =>
        refine WM.topi (y := 39) (e.trans (by decide)) ?_
        refine x_tableIn C (tgt := 1337) dL_33 (by decide) (by decide) rfl (by decide) ?_
        exact law_39 C hX hbl hbA hL h6 hT hR hI hlv kk
      | 40, _, e =>
        refine WM.topi (y := 40) (e.trans (by decide)) ?_
        refine x_tableIn C (tgt := 1350) dL_33 (by decide) (by decide) rfl (by decide) ?_
        exact law_40 C hX hbl hbA hL h6 hT hR hI hlv kk
      | 41, _, e =>
        refine WM.topi (y := 41) (e.trans (by decide)) ?_
        refine x_tableIn C (tgt := 1363) dL_33 (by decide) (by decide) rfl (by decide) ?_
        exact law_41 C hX hbl hbA hL h6 hT hR hI hlv kk
      | 42, _, e =>
        refine WM.topi (y := 42) (e.trans (by decide)) ?_
        refine x_tableIn C (tgt := 1386) dL_33 (by decide) (by decide) rfl (by decide) ?_
        exact law_42 C hX hbl hbA hL h6 hT hR hI hlv kk
      | q + 43, hq, _ => exact absurd hq (by omega)
    · refine x_tableOut C (tgt := 1409) dL_33 (sw_out hq) (by decide) ?_
      exact kk σ τ hR (hI.up (by omega)) hlv
set_option maxHeartbeats 4000000 in
set_option maxRecDepth 100000 in
/-- YOUR PART: from the entry, for every script of at most 384 ints, the law comes to its end with true ('hflags': the launch's flags, for a law that throws: no stack traces) -/
theorem whole_start {p : Program} {e : Env} {s : State} {m : MethodId} {below : List Frame} {meth : Method} {c : Code} (l : Launch) (hflags : l.flags = flags0) {b L : Nat} {xs : Nat → Int32} (hL : L ≤ 384) (C0 : lw_At p s m meth c b L xs) : W p l e room_1 s m #[Value.ref b] below meth c s.heap [] 0 0 (lw_Z below #[Value.ref b] s) (entryFrame m ([Value.ref b] : List Value).toArray 4) := by
  obtain ⟨hx, hb, hr, hml, hown, hts, hX, hbl, hlocks, hgv⟩ := C0
  have hA : ∀ q : Nat, s.heap.size ≤ q → (fun q : Nat => s.heap.size ≤ q) q := fun _ h => h
  have hbA : ¬ (fun q : Nat => s.heap.size ≤ q) b := Nat.not_le.mpr hbl
  have htx : ∀ w ∈ xT, w.before #[Value.ref b] s = true := fun w h => hts w (xT_sub h)
  obtain ⟨c0, iS0, hKn0⟩ := u_known (C := RX0) (T := TX0) (N := 3) (n := 3) htx xin_X0 (hts _ (List.mem_of_getElem? (i := 132) (by decide +kernel)))
  obtain ⟨c1, iS1, hKn1⟩ := u_known (C := RX1) (T := TX1) (N := 3) (n := 3) htx xin_X1 (hts _ (List.mem_of_getElem? (i := 231) (by decide +kernel)))
  obtain ⟨c2, iS2, hKn2⟩ := u_known (C := RX2) (T := TX2) (N := 3) (n := 3) htx xin_X2 (hts _ (List.mem_of_getElem? (i := 213) (by decide +kernel)))
  obtain ⟨c3, iS3, hKn3⟩ := u_known (C := RX3) (T := TX3) (N := 5) (n := 5) htx xin_X3 (hts _ (List.mem_of_getElem? (i := 64) (by decide +kernel)))
  obtain ⟨c4, iS4, hKn4⟩ := u_known (C := RX4) (T := TX4) (N := 2) (n := 2) htx xin_X4 (hts _ (List.mem_of_getElem? (i := 177) (by decide +kernel)))
  obtain ⟨c5, iS5, hKn5⟩ := u_known (C := RX5) (T := TX5) (N := 5) (n := 5) htx xin_X5 (hts _ (List.mem_of_getElem? (i := 171) (by decide +kernel)))
  obtain ⟨c6, iS6, hKn6⟩ := u_known (C := RX6) (T := TX6) (N := 13) (n := 13) htx xin_X6 (hts _ (List.mem_of_getElem? (i := 70) (by decide +kernel)))
  obtain ⟨c7, iS7, hKn7⟩ := u_known (C := RX7) (T := TX7) (N := 10) (n := 10) htx xin_X7 (hts _ (List.mem_of_getElem? (i := 56) (by decide +kernel)))
  obtain ⟨c8, iS8, hKn8⟩ := u_known (C := RX8) (T := TX8) (N := 20) (n := 20) htx xin_X8 (hts _ (List.mem_of_getElem? (i := 827) (by decide +kernel)))
  obtain ⟨D, hKc⟩ : ∃ D : va_G, ∀ (k : Nat) (q : vw_C), vwCl[k]? = some q → u_Kn s q.1 q.2.1 q.2.2 (D.1 k) (D.2 k) := by
    refine ⟨(fun k => if k = 0 then c0 else if k = 1 then c1 else if k = 2 then c2 else if k = 3 then c3 else if k = 4 then c4 else if k = 5 then c5 else if k = 6 then c6 else if k = 7 then c7 else c8, fun k => if k = 0 then iS0 else if k = 1 then iS1 else if k = 2 then iS2 else if k = 3 then iS3 else if k = 4 then iS4 else if k = 5 then iS5 else if k = 6 then iS6 else if k = 7 then iS7 else iS8), ?_⟩
    intro k q hq
    match k, hq with
    | 0, hq => cases hq; exact hKn0
    | 1, hq => cases hq; exact hKn1
    | 2, hq => cases hq; exact hKn2
    | 3, hq => cases hq; exact hKn3
    | 4, hq => cases hq; exact hKn4
    | 5, hq => cases hq; exact hKn5
    | 6, hq => cases hq; exact hKn6
    | 7, hq => cases hq; exact hKn7
    | 8, hq => cases hq; exact hKn8
    | k + 9, hq => simp [vwCl] at hq
  obtain ⟨cI, kI, compI, i1, i2, i3⟩ := Cond.arrayClass_spec (htx _ yo_a)
  obtain ⟨compP, cP, kP, p1, p2, p3, p4, p5⟩ := Cond.arrayOver_spec (hts (.arrayOver (.object "LeakCups$Program")) (List.mem_of_getElem? (i := 131) (by decide +kernel)))
  obtain ⟨compS, cS, kS, s1, s2, s3, s4, s5⟩ := Cond.arrayOver_spec (hts (.arrayOver (.object "LeakCups$Sheet")) (List.mem_of_getElem? (i := 209) (by decide +kernel)))
  have hK : va_K D vwCl (ytys cI cP cS) s := by
    refine ⟨hKc, fun k q hq => ?_⟩
    match k, hq with
    | 0, hq => cases hq; exact ⟨fun n z => ⟨(fun k h => by cases h), kI, i2, compI, i3⟩, i1⟩
    | 1, hq => cases hq; exact ⟨fun n z => ⟨(fun k h => by cases h), kP, p3, compP, p4⟩, kP, compP, p3, p4, p1, p5⟩
    | 2, hq => cases hq; exact ⟨fun n z => ⟨(fun k h => by cases h), kS, s3, compS, s4⟩, kS, compS, s3, s4, s1, s5⟩
    | k + 3, hq => simp [ytys] at hq
  have C : yC p s m #[Value.ref b] meth c code 4 "LeakCupsLaw" ret D cI cP cS (fun q : Nat => s.heap.size ≤ q) := ⟨⟨hx, hb, hml, hown, htx⟩, hr, hlocks, ⟨hK, fun a i x h hm => va_Nw.of rfl (hts _ hm), va_AO.of (hts (.arrayOver (.object "LeakCups$Program")) (List.mem_of_getElem? (i := 131) (by decide +kernel))), va_AO.of (hts (.arrayOver (.object "LeakCups$Sheet")) (List.mem_of_getElem? (i := 209) (by decide +kernel)))⟩, hA⟩
  have hP : va_P D vwCl [] s.heap := fun k q h => by simp at h
  have hD : va_D (fun q : Nat => s.heap.size ≤ q) [] := ⟨fun i j p q h => by simp at h, fun k q h => by simp at h⟩
  rw [lg_entry_eq]
  refine (?_ : yW p l e room_1 s m #[Value.ref b] below meth c 0 0 (lw_Z below #[Value.ref b] s) D (fun q : Nat => s.heap.size ≤ q) 4 [] 0 [(0, .ref b)] []) s.heap [] _ hP hD va_S.rf (lv_entry [.ref b] (Nat.le_of_ble_eq_true rfl))
  refine y_new C (ci := 7) (N := 10) (Cn := RX7) (T := TX7) tyX7 xin_X7 tyX7_ok (xm 55 (by decide +kernel) (by decide +kernel)) (xm 56 (by decide +kernel) (by decide +kernel)) (xm 38 (by decide +kernel) (by decide +kernel)) rfl (fs := [.null, .null, .int 0, .null, .null, .null, .null, .null, .null, .null]) (by decide) ⟨Nat.le_of_ble_eq_true rfl, Nat.le_of_ble_eq_true rfl⟩ dL_0 (fun b1 => ?_)
  refine y_dup C dL_3 rfl ?_
  refine y_initI (ws := []) C (n := 0) (As := []) (rest := [.ref b1]) (res := lcL cI cP cS) (xm 57 (by decide +kernel) (by decide +kernel)) (i_Lc l D cI cP cS) (xm 59 (by decide +kernel) (by decide +kernel)) (xm 38 (by decide +kernel) (by decide +kernel)) (xm 58 (by decide +kernel) (by decide +kernel)) rfl (by decide) ⟨Nat.le_of_ble_eq_true rfl, Nat.le_of_ble_eq_true rfl⟩ ⟨Nat.le_of_ble_eq_true rfl, Nat.le_of_ble_eq_true rfl⟩ rfl rfl (Nat.le_of_ble_eq_true rfl) dL_4 (fun q1 => ?_)
  refine y_astore_n C (lv1 := [(1, .ref b1), (0, .ref b)]) dL_7 rfl (by decide) rfl ?_
  refine y_new C (ci := 8) (N := 20) (Cn := RX8) (T := TX8) tyX8 xin_X8 tyX8_ok (xm 826 (by decide +kernel) (by decide +kernel)) (xm 827 (by decide +kernel) (by decide +kernel)) (xm 46 (by decide +kernel) (by decide +kernel)) rfl (fs := [.null, .null, .null, .null, .int 0, .null, .null, .null, .int 0, .int 0, .int 0, .int 0, .long 0, .int 0, .int 0, .null, .null, .null, .null, .null]) (by decide) ⟨Nat.le_of_ble_eq_true rfl, Nat.le_of_ble_eq_true rfl⟩ dL_8 (fun b2 => ?_)
  refine y_dup C dL_11 rfl ?_
  refine y_initI (ws := [] ++ lcL cI cP cS b1 q1) C (n := 0) (As := []) (rest := [.ref b2]) (res := mdL cI) (xm 828 (by decide +kernel) (by decide +kernel)) (i_Md l D cI cP cS) (xm 830 (by decide +kernel) (by decide +kernel)) (xm 46 (by decide +kernel) (by decide +kernel)) (xm 829 (by decide +kernel) (by decide +kernel)) rfl (by decide) ⟨Nat.le_of_ble_eq_true rfl, Nat.le_of_ble_eq_true rfl⟩ ⟨Nat.le_of_ble_eq_true rfl, Nat.le_of_ble_eq_true rfl⟩ rfl rfl (Nat.le_of_ble_eq_true rfl) dL_12 (fun q2 => ?_)
  refine y_astore_n C (lv1 := [(2, .ref b2), (1, .ref b1), (0, .ref b)]) dL_15 rfl (by decide) rfl ?_
  refine y_iconst C (v := 0) dL_16 (by decide) ?_
  refine y_istore_n C (lv1 := [(3, .int 0), (2, .ref b2), (1, .ref b1), (0, .ref b)]) dL_17 rfl (by decide) rfl ?_
  obtain ⟨xt, xk, xv, hZ⟩ := st_xZ hts (flat_of_before _ hgv) (fun q : Nat => s.heap.size ≤ q) (fun a h => Nat.not_le.mpr h)
  intro H locs ls hP hD hS hl
  obtain ⟨hP1, hI1⟩ := first_world D cI cP cS b1 b2 q1 q2 xt xk xv hP hD
  have Cx : xC p s m #[Value.ref b] meth c code 4 "LeakCupsLaw" ret (D, wcA cI cP cS, wad b1 b2 q1 q2, xt, xk, xv) (fun q : Nat => s.heap.size ≤ q) room_1 94 2639 := ⟨C.1, hr, hlocks, hK, hI1, hZ D _ _, Nat.le_of_ble_eq_true rfl, Nat.le_of_ble_eq_true rfl⟩
  refine law_loop (Q := lw_Z below #[Value.ref b] s) Cx hX hbl hbA hL (fun σ τ lv H locs ls hP hS hl => ?_) 64 0 s0 t0 rfl v0_eq inv0 (fun j hj => rfl) H locs ls hP1 hS hl
  refine lv_iconst (v := 1) hx hb dL_1415 (by decide) ?_
  refine va_forget (fun q hq => hS.2.2 q hq) ?_
  refine W.widen (k := 600000) (n := 7302250) (Nat.le_of_ble_eq_true rfl) (Nat.le_of_ble_eq_true rfl) ?_
  exact lw_ret hx hb hr hlocks dL_1416
-- ===== YOUR PART ENDS =====
set_option maxHeartbeats 4000000 in
theorem lw_walk (l : Launch) (hflags : l.flags = flags0) (b : Addr) (xs : List Int32) : MetFree l x (headSpec (Jvm.Cond.code x code maxLocals ret :: tables_1) room_1) (lw_P b xs) (fun _ _ _ _ _ => True) lw_Q := by
  refine MetFree.of_bodyS (code := code) (maxLocals := maxLocals) (ret := ret) (by decide) ?_ ?_
  · intro args s m h hn
    obtain ⟨meth, c, h1, h2, h3, h4, h5, h6, -, -⟩ := Cond.code_spec hn (atoms_spec (ws := Jvm.Cond.code x code maxLocals ret :: tables_1) h _ List.mem_cons_self)
    exact ⟨meth, c, h1, h2, h3, h4, h5, h6⟩
  · intro p e s m args below meth c s₁ B hml0 hP _
    obtain ⟨rfl, hx, hbd, hgv⟩ := hP
    obtain ⟨scr, harrAt, hlist, hof, hsmall⟩ := hx
    obtain ⟨hcb, hkn, -, -⟩ := State.arrayAt?_spec harrAt
    have hown : s.vm.findClass R_law = some m.cls := findClass_of_methodNamed B.named
    have hts0 : ∀ c ∈ (Jvm.Cond.code x code maxLocals ret :: tables_1), c.before #[Value.ref b] s = true := atoms_spec (ws := Jvm.Cond.code x code maxLocals ret :: tables_1) B.pre
    have hts : ∀ w ∈ lw_tbl, w.before #[Value.ref b] s = true := k2_hts_sels lw_privs (fun w hw => hts0 w (List.mem_cons_of_mem _ hw)) lw_privs_ok
    have hml : c.maxLocals = 4 := B.maxLocals_eq (hts0 _ List.mem_cons_self)
    have X₀ : Stand p l e room_1 s m #[Value.ref b] below meth c s₁ [] 0 0 := Stand.of_body B
    have hh0 : s₁.heap = s.heap := by rw [B.state]; rfl
    have hsz : scr.slots.size = xs.length := by rw [← Array.length_toList, hlist, List.length_map]
    have hval : ∀ j : Nat, j < xs.length → scr.slots[j]? = some (.int (xs.getD j 0)) := fun j hj => by
      rw [← Array.getElem?_toList, hlist]
      simp [hj]
    have hbl : b < s.heap.size := (Array.getElem?_eq_some_iff.mp hcb).1
    have hX : va_X b xs.length (fun j => xs.getD j 0) s s.heap := ⟨scr, hcb, hof, hkn, hsz, hval⟩
    have K : W p l e room_1 s m #[Value.ref b] below meth c s₁.heap [] 0 0 (lw_Z below #[Value.ref b] s) (entryFrame m ([Value.ref b] : List Value).toArray 4) := by
      rw [hh0]
      exact whole_start l hflags hbd ⟨B.exec, B.bytes, B.returns, hml, hown, hts, hX, hbl, B.notSynchronized, hgv⟩
    obtain ⟨t, a1, o, b1, b2, b3⟩ := K s₁ rfl X₀
    exact ⟨t, o, a1, b1, b2, b3⟩
theorem lw_pre_spec {args : Array Value} {s : State} (h : (Jvm.Cond.and given_1 narrow_1).before args s = true) (hr : rest_1_c.before args s = true) : ∃ (b : Addr) (xs : List Int32), lw_P b xs args s := by
  have hs := flat_of_before _ h
  have hq := flat_of_before _ hr
  have hc : (Cond.count 1).before args s = true := hs _ (by decide +kernel)
  have harr : (Cond.arrayOf (.arg 0) .int).before args s = true := hs _ (by decide +kernel)
  have hle : (Cond.le (.length (.arg 0)) (.int 384)).before args s = true := hs _ (by decide +kernel)
  have hlen : (Cond.isInt (.length (.arg 0))).before args s = true := hq _ (by decide +kernel)
  have hall : (Cond.all (.arg 0) (.isInt (.elem (.arg 0) (.index 0)))).before args s = true := hq _ (by decide +kernel)
  obtain ⟨b, xs, hb, hx⟩ := State.ints_of_pre rfl harr hlen hall
  have hsm : xs.length < 2 ^ 31 := hx.choose_spec.2.2.2
  have hev : (Term.length (.arg 0)).eval args s none [] s = some (.int xs.length.toInt32) := hx.length_eval hb
  have hv := Cond.le_ints hev (show (Term.int 384).eval args s none [] s = some (.int 384) from rfl)
  have hd : xs.length.toInt32 ≤ 384 := by
    simpa [Cond.before, Cond.holds, hv] using hle
  have hN : xs.length ≤ 384 := (Int32.ofNat_le_ofNat hsm (by decide)).mp (show Int32.ofNat xs.length ≤ Int32.ofNat 384 from hd)
  exact ⟨b, xs, Cond.one_arg hc (show args[0]? = some (.ref b) from hb), hx, hN, h⟩
theorem lw_comes (l : Launch) (hflags : l.flags = flags0) : Comes l x (Jvm.Cond.code x code maxLocals ret :: tables_1) room_1 (fun tb e args s => Calls_1 tb e args s ∧ rest_1 tb e args s ∧ Pre_1 tb e args s)
    (fun _ _ args s o t => lw_Q args s o t) := by
  intro p e ha hc hk s m args below hf hfit hheap happ hpre
  obtain ⟨b, xs, hP⟩ := lw_pre_spec hpre.2.2 hpre.2.1
  obtain ⟨k, o, h1, h2, h3, hQ⟩ := lw_walk l hflags b xs p e ha hc hk s m args below hf ((Spec.applies_iff_loose hf).mp happ).1 hP trivial
  exact ⟨k, o, h1, h2, h3, hQ⟩
theorem lw_frame {s t : State} {o : Outcome} {args : Array Value} (h : Framed s o t [] 600000 7302250) :
    Framed s o t (fieldLocs frame_1_writes args s ++ arrayLocs frame_1_arrays args s ++ staticLocs frame_1_statics s) 600000 7302250 := h
theorem lw_limb (L : Cond) (hL : ∀ (args : Array Value) (s t : State), L.after args s (.returned (some (.int 1))) t = true) :
    ArmFor flags0 classFile x code maxLocals ret World_1 tables_1 room_1 Calls_1 rest_1 Pre_1
      (fun tb e a s o t => postC L tb e a s o t ∧ Framed s o t (fieldLocs frame_1_writes a s ++ arrayLocs frame_1_arrays a s ++ staticLocs frame_1_statics s) 600000 7302250) := by
  intro l hflags _ _ p e ha hc hk s m args below hf hfit hheap happ hpre
  obtain ⟨k, o, h1, h2, h3, rfl, hF⟩ := lw_comes l hflags p e ha hc hk s m args below hf hfit hheap happ hpre
  exact ⟨k, _, h1, h2, h3, hL args s _, lw_frame hF⟩
theorem i_vc : Claimed_1_1 ∧ Claimed_1_2 := ⟨lw_limb limb_1_1 (fun args s t => by simp [limb_1_1, Cond.after, Cond.holds, Cond.value]), lw_limb limb_1_2 (fun args s t => Cond.after_iff.mpr (by
  first | (rw [show limb_1_2 = Cond.eq .result (.int 1) from rfl, Cond.eq_ints (x := 1) (y := 1) rfl rfl]; simp; done) | (simp [limb_1_2, Cond.value, Term.eval]; done)))⟩
