/-! the cells, a row each; what the instructions link, a fact each -/
theorem xm_all {ws : List Cond} (is : List Nat) (h : is.map (fun i => lw_tbl[i]?) = ws.map some) (g : ws.all goodWord = true) : ∀ w ∈ ws, w ∈ xT := by
  intro w hw
  obtain ⟨j, hj⟩ := List.mem_iff_getElem?.mp hw
  have h1 : (ws.map some)[j]? = some (some w) := by rw [List.getElem?_map, hj]; rfl
  rw [← h, List.getElem?_map] at h1
  cases hi : is[j]? with
  | none => rw [hi] at h1; cases h1
  | some i =>
    rw [hi] at h1
    exact xm i (Option.some.inj h1) (List.all_eq_true.mp g w hw)
theorem xd_0 : xd 0 = (7, [(0, 1, 0), (0, 28, 0), (1, 6, 0), (0, 57, 0), (0, 55, 0), (0, 58, 0), (0, 59, 0), (0, 65, 0), (0, 71, 0), (0, 72, 0)]) := rfl
theorem xd_1 : xd 1 = (3, [(0, 2, 0), (0, 8, 0), (1, 0, 13), (0, 9, 0), (1, 0, 12)]) := rfl
theorem xd_2 : xd 2 = (6, [(0, 3, 0), (0, 4, 0), (0, 5, 0), (0, 6, 0), (0, 7, 0), (1, 0, 4), (1, 0, 5), (1, 0, 6), (1, 0, 7), (1, 0, 8), (1, 0, 9), (1, 0, 10), (1, 0, 11)]) := rfl
theorem xd_3 : xd 3 = (9, [(4, 0, 0), (1, 0, 0)]) := rfl
theorem xd_4 : xd 4 = (9, [(12, 0, 32), (1, 0, 0)]) := rfl
theorem xd_5 : xd 5 = (9, [(12, 0, 20), (1, 0, 0)]) := rfl
theorem xd_6 : xd 6 = (9, [(40, 0, 44), (2, 0, 0)]) := rfl
theorem xd_7 : xd 7 = (9, [(40, 0, 45), (2, 0, 0)]) := rfl
theorem xd_8 : xd 8 = (10, [(6, 10, 3)]) := rfl
theorem xd_9 : xd 9 = (9, [(10, 0, 124), (1, 0, 0)]) := rfl
theorem xd_10 : xd 10 = (0, [(0, 11, 0), (0, 12, 0), (1, 0, 134)]) := rfl
theorem xd_11 : xd 11 = (9, [(12, 0, 135), (2, 0, 0)]) := rfl
theorem xd_12 : xd 12 = (9, [(12, 0, 136), (2, 0, 0)]) := rfl
theorem xd_13 : xd 13 = (0, [(0, 14, 0), (0, 15, 0), (1, 0, 159)]) := rfl
theorem xd_14 : xd 14 = (9, [(12, 0, 160), (2, 0, 0)]) := rfl
theorem xd_15 : xd 15 = (9, [(12, 0, 161), (2, 0, 0)]) := rfl
theorem xd_16 : xd 16 = (0, [(0, 17, 0), (0, 18, 0), (1, 0, 184)]) := rfl
theorem xd_17 : xd 17 = (9, [(12, 0, 185), (2, 0, 0)]) := rfl
theorem xd_18 : xd 18 = (9, [(12, 0, 186), (2, 0, 0)]) := rfl
theorem xd_19 : xd 19 = (0, [(0, 20, 0), (0, 21, 0), (1, 0, 209)]) := rfl
theorem xd_20 : xd 20 = (9, [(12, 0, 210), (2, 0, 0)]) := rfl
theorem xd_21 : xd 21 = (9, [(12, 0, 211), (2, 0, 0)]) := rfl
theorem xd_22 : xd 22 = (0, [(0, 23, 0), (0, 24, 0), (1, 0, 234)]) := rfl
theorem xd_23 : xd 23 = (9, [(12, 0, 235), (2, 0, 0)]) := rfl
theorem xd_24 : xd 24 = (9, [(12, 0, 236), (2, 0, 0)]) := rfl
theorem xd_25 : xd 25 = (0, [(0, 26, 0), (0, 27, 0), (1, 0, 259)]) := rfl
theorem xd_26 : xd 26 = (9, [(12, 0, 260), (2, 0, 0)]) := rfl
theorem xd_27 : xd 27 = (9, [(12, 0, 261), (2, 0, 0)]) := rfl
theorem xd_28 : xd 28 = (3, [(0, 29, 0), (0, 35, 0), (1, 1, 13), (0, 36, 0), (1, 1, 12)]) := rfl
theorem xd_29 : xd 29 = (6, [(0, 30, 0), (0, 31, 0), (0, 32, 0), (0, 33, 0), (0, 34, 0), (1, 1, 4), (1, 1, 5), (1, 1, 6), (1, 1, 7), (1, 1, 8), (1, 1, 9), (1, 1, 10), (1, 1, 11)]) := rfl
theorem xd_30 : xd 30 = (9, [(4, 1, 0), (1, 0, 0)]) := rfl
theorem xd_31 : xd 31 = (9, [(12, 1, 32), (1, 0, 0)]) := rfl
theorem xd_32 : xd 32 = (9, [(12, 1, 20), (1, 0, 0)]) := rfl
theorem xd_33 : xd 33 = (9, [(40, 1, 44), (2, 0, 0)]) := rfl
theorem xd_34 : xd 34 = (9, [(40, 1, 45), (2, 0, 0)]) := rfl
theorem xd_35 : xd 35 = (10, [(6, 37, 3)]) := rfl
theorem xd_36 : xd 36 = (9, [(10, 1, 124), (1, 0, 0)]) := rfl
theorem xd_37 : xd 37 = (0, [(0, 38, 0), (0, 39, 0), (1, 1, 134)]) := rfl
theorem xd_38 : xd 38 = (9, [(12, 1, 135), (2, 0, 0)]) := rfl
theorem xd_39 : xd 39 = (9, [(12, 1, 136), (2, 0, 0)]) := rfl
theorem xd_40 : xd 40 = (0, [(0, 41, 0), (0, 42, 0), (1, 1, 159)]) := rfl
theorem xd_41 : xd 41 = (9, [(12, 1, 160), (2, 0, 0)]) := rfl
theorem xd_42 : xd 42 = (9, [(12, 1, 161), (2, 0, 0)]) := rfl
theorem xd_43 : xd 43 = (0, [(0, 44, 0), (0, 45, 0), (1, 1, 184)]) := rfl
theorem xd_44 : xd 44 = (9, [(12, 1, 185), (2, 0, 0)]) := rfl
theorem xd_45 : xd 45 = (9, [(12, 1, 186), (2, 0, 0)]) := rfl
theorem xd_46 : xd 46 = (0, [(0, 47, 0), (0, 48, 0), (1, 1, 209)]) := rfl
theorem xd_47 : xd 47 = (9, [(12, 1, 210), (2, 0, 0)]) := rfl
theorem xd_48 : xd 48 = (9, [(12, 1, 211), (2, 0, 0)]) := rfl
theorem xd_49 : xd 49 = (0, [(0, 50, 0), (0, 51, 0), (1, 1, 234)]) := rfl
theorem xd_50 : xd 50 = (9, [(12, 1, 235), (2, 0, 0)]) := rfl
theorem xd_51 : xd 51 = (9, [(12, 1, 236), (2, 0, 0)]) := rfl
theorem xd_52 : xd 52 = (0, [(0, 53, 0), (0, 54, 0), (1, 1, 259)]) := rfl
theorem xd_53 : xd 53 = (9, [(12, 1, 260), (2, 0, 0)]) := rfl
theorem xd_54 : xd 54 = (9, [(12, 1, 261), (2, 0, 0)]) := rfl
theorem xd_55 : xd 55 = (4, [(0, 56, 0), (1, 6, 1)]) := rfl
theorem xd_56 : xd 56 = (9, [(100, 5, 0), (1, 0, 0)]) := rfl
theorem xd_57 : xd 57 = (5, [(0, 55, 0), (1, 6, 2), (1, 6, 3), (1, 6, 4), (1, 6, 5)]) := rfl
theorem xd_58 : xd 58 = (11, [(4, 73, 2)]) := rfl
theorem xd_59 : xd 59 = (6, [(0, 60, 0), (0, 61, 0), (0, 62, 0), (0, 63, 0), (0, 64, 0), (1, 2, 4), (1, 2, 5), (1, 2, 6), (1, 2, 7), (1, 2, 8), (1, 2, 9), (1, 2, 10), (1, 2, 11)]) := rfl
theorem xd_60 : xd 60 = (9, [(4, 2, 0), (1, 0, 0)]) := rfl
theorem xd_61 : xd 61 = (9, [(12, 2, 32), (1, 0, 0)]) := rfl
theorem xd_62 : xd 62 = (9, [(12, 2, 20), (1, 0, 0)]) := rfl
theorem xd_63 : xd 63 = (9, [(40, 2, 44), (2, 0, 0)]) := rfl
theorem xd_64 : xd 64 = (9, [(40, 2, 45), (2, 0, 0)]) := rfl
theorem xd_65 : xd 65 = (6, [(0, 66, 0), (0, 67, 0), (0, 68, 0), (0, 69, 0), (0, 70, 0), (1, 3, 4), (1, 3, 5), (1, 3, 6), (1, 3, 7), (1, 3, 8), (1, 3, 9), (1, 3, 10), (1, 3, 11)]) := rfl
theorem xd_66 : xd 66 = (9, [(4, 3, 0), (1, 0, 0)]) := rfl
theorem xd_67 : xd 67 = (9, [(12, 3, 32), (1, 0, 0)]) := rfl
theorem xd_68 : xd 68 = (9, [(12, 3, 20), (1, 0, 0)]) := rfl
theorem xd_69 : xd 69 = (9, [(40, 3, 44), (2, 0, 0)]) := rfl
theorem xd_70 : xd 70 = (9, [(40, 3, 45), (2, 0, 0)]) := rfl
theorem xd_71 : xd 71 = (2, [(2, 0, 0), (2, 1, 0), (2, 2, 0)]) := rfl
theorem xd_72 : xd 72 = (9, [(7, 4, 0), (1, 0, 0)]) := rfl
theorem xd_73 : xd 73 = (1, [(0, 74, 0), (1, 7, 0), (1, 8, 0)]) := rfl
theorem xd_74 : xd 74 = (9, [(40, 9, 0), (1, 0, 0)]) := rfl
theorem xd_75 : xd 75 = (1, [(0, 76, 0), (1, 7, 1), (1, 8, 1)]) := rfl
theorem xd_76 : xd 76 = (9, [(40, 9, 40), (1, 0, 0)]) := rfl
theorem xd_77 : xd 77 = (1, [(0, 78, 0), (1, 7, 2), (1, 8, 2)]) := rfl
theorem xd_78 : xd 78 = (9, [(40, 9, 80), (1, 0, 0)]) := rfl
theorem xd_79 : xd 79 = (1, [(0, 80, 0), (1, 7, 3), (1, 8, 3)]) := rfl
theorem xd_80 : xd 80 = (9, [(40, 9, 120), (1, 0, 0)]) := rfl
theorem xd_81 : xd 81 = (8, [(0, 82, 0), (0, 83, 0), (0, 84, 0), (0, 85, 0), (1, 17, 0), (0, 86, 0), (0, 87, 0), (0, 88, 0), (1, 17, 1), (1, 17, 2), (1, 17, 3), (1, 17, 4), (2, 3, 0), (1, 17, 5), (1, 17, 6), (0, 89, 0), (0, 90, 0), (0, 91, 0), (0, 92, 0), (0, 93, 0)]) := rfl
theorem xd_82 : xd 82 = (9, [(284, 10, 0), (1, 0, 0)]) := rfl
theorem xd_83 : xd 83 = (9, [(284, 11, 0), (1, 0, 0)]) := rfl
theorem xd_84 : xd 84 = (9, [(284, 12, 0), (1, 0, 0)]) := rfl
theorem xd_85 : xd 85 = (9, [(284, 13, 0), (1, 0, 0)]) := rfl
theorem xd_86 : xd 86 = (9, [(7, 14, 0), (1, 0, 0)]) := rfl
theorem xd_87 : xd 87 = (9, [(12, 15, 0), (1, 0, 0)]) := rfl
theorem xd_88 : xd 88 = (9, [(100, 16, 0), (1, 0, 0)]) := rfl
theorem xd_89 : xd 89 = (9, [(3, 22, 0), (1, 0, 0)]) := rfl
theorem xd_90 : xd 90 = (9, [(4, 18, 0), (1, 0, 0)]) := rfl
theorem xd_91 : xd 91 = (9, [(4, 19, 0), (1, 0, 0)]) := rfl
theorem xd_92 : xd 92 = (9, [(160, 20, 0), (1, 0, 0)]) := rfl
theorem xd_93 : xd 93 = (9, [(40, 21, 0), (1, 0, 0)]) := rfl
theorem xin_X0 : ∀ w ∈ u_ws RX0 TX0 3, w ∈ xT := xm_all [142, 144, 146] (by decide +kernel) (by decide +kernel)
theorem xin_X1 : ∀ w ∈ u_ws RX1 TX1 3, w ∈ xT := xm_all [242, 244, 246] (by decide +kernel) (by decide +kernel)
theorem xin_X2 : ∀ w ∈ u_ws RX2 TX2 3, w ∈ xT := xm_all [224, 226, 228] (by decide +kernel) (by decide +kernel)
theorem xin_X3 : ∀ w ∈ u_ws RX3 TX3 5, w ∈ xT := xm_all [159, 161, 163, 165, 167] (by decide +kernel) (by decide +kernel)
theorem xin_X4 : ∀ w ∈ u_ws RX4 TX4 2, w ∈ xT := xm_all [186, 188] (by decide +kernel) (by decide +kernel)
theorem xin_X5 : ∀ w ∈ u_ws RX5 TX5 5, w ∈ xT := xm_all [197, 199, 201, 203, 205] (by decide +kernel) (by decide +kernel)
theorem xin_X6 : ∀ w ∈ u_ws RX6 TX6 13, w ∈ xT := xm_all [102, 104, 106, 108, 110, 112, 114, 116, 118, 120, 122, 124, 126] (by decide +kernel) (by decide +kernel)
theorem xin_X7 : ∀ w ∈ u_ws RX7 TX7 10, w ∈ xT := xm_all [259, 261, 263, 265, 267, 269, 271, 273, 275, 277] (by decide +kernel) (by decide +kernel)
theorem xin_X8 : ∀ w ∈ u_ws RX8 TX8 20, w ∈ xT := xm_all [852, 854, 856, 858, 860, 862, 864, 866, 868, 870, 872, 874, 876, 878, 880, 882, 884, 886, 888, 890] (by decide +kernel) (by decide +kernel)
def yJ_Icmp : MethodName := ⟨"java/lang/Integer", "compare", "(II)I"⟩
abbrev cJ_Icmp : ByteArray := prog_11_method_40_code
theorem dJ_Icmp_0 : decode cJ_Icmp 0 = .ok (.iload_n 0, 1) := by decide +kernel
theorem dJ_Icmp_1 : decode cJ_Icmp 1 = .ok (.iload_n 1, 1) := by decide +kernel
theorem dJ_Icmp_2 : decode cJ_Icmp 2 = .ok (.if_icmp .ge 7, 3) := by decide +kernel
theorem dJ_Icmp_5 : decode cJ_Icmp 5 = .ok (.iconst (-1), 1) := by decide +kernel
theorem dJ_Icmp_6 : decode cJ_Icmp 6 = .ok (.goto 13, 3) := by decide +kernel
theorem dJ_Icmp_9 : decode cJ_Icmp 9 = .ok (.iload_n 0, 1) := by decide +kernel
theorem dJ_Icmp_10 : decode cJ_Icmp 10 = .ok (.iload_n 1, 1) := by decide +kernel
theorem dJ_Icmp_11 : decode cJ_Icmp 11 = .ok (.if_icmp .ne 7, 3) := by decide +kernel
theorem dJ_Icmp_14 : decode cJ_Icmp 14 = .ok (.iconst 0, 1) := by decide +kernel
theorem dJ_Icmp_15 : decode cJ_Icmp 15 = .ok (.goto 4, 3) := by decide +kernel
theorem dJ_Icmp_18 : decode cJ_Icmp 18 = .ok (.iconst 1, 1) := by decide +kernel
theorem dJ_Icmp_19 : decode cJ_Icmp 19 = .ok (.ireturn, 1) := by decide +kernel
def yJ_Lcmp : MethodName := ⟨"java/lang/Long", "compare", "(JJ)I"⟩
abbrev cJ_Lcmp : ByteArray := prog_12_method_42_code
theorem dJ_Lcmp_0 : decode cJ_Lcmp 0 = .ok (.lload_n 0, 1) := by decide +kernel
theorem dJ_Lcmp_1 : decode cJ_Lcmp 1 = .ok (.lload_n 2, 1) := by decide +kernel
theorem dJ_Lcmp_2 : decode cJ_Lcmp 2 = .ok (.lcmp, 1) := by decide +kernel
theorem dJ_Lcmp_3 : decode cJ_Lcmp 3 = .ok (.ifCond .ge 7, 3) := by decide +kernel
theorem dJ_Lcmp_6 : decode cJ_Lcmp 6 = .ok (.iconst (-1), 1) := by decide +kernel
theorem dJ_Lcmp_7 : decode cJ_Lcmp 7 = .ok (.goto 14, 3) := by decide +kernel
theorem dJ_Lcmp_10 : decode cJ_Lcmp 10 = .ok (.lload_n 0, 1) := by decide +kernel
theorem dJ_Lcmp_11 : decode cJ_Lcmp 11 = .ok (.lload_n 2, 1) := by decide +kernel
theorem dJ_Lcmp_12 : decode cJ_Lcmp 12 = .ok (.lcmp, 1) := by decide +kernel
theorem dJ_Lcmp_13 : decode cJ_Lcmp 13 = .ok (.ifCond .ne 7, 3) := by decide +kernel
theorem dJ_Lcmp_16 : decode cJ_Lcmp 16 = .ok (.iconst 0, 1) := by decide +kernel
theorem dJ_Lcmp_17 : decode cJ_Lcmp 17 = .ok (.goto 4, 3) := by decide +kernel
theorem dJ_Lcmp_20 : decode cJ_Lcmp 20 = .ok (.iconst 1, 1) := by decide +kernel
theorem dJ_Lcmp_21 : decode cJ_Lcmp 21 = .ok (.ireturn, 1) := by decide +kernel
def yJ_fmod : MethodName := ⟨"java/lang/Math", "floorMod", "(II)I"⟩
abbrev cJ_fmod : ByteArray := prog_13_method_50_code
theorem dJ_fmod_0 : decode cJ_fmod 0 = .ok (.iload_n 0, 1) := by decide +kernel
theorem dJ_fmod_1 : decode cJ_fmod 1 = .ok (.iload_n 1, 1) := by decide +kernel
theorem dJ_fmod_2 : decode cJ_fmod 2 = .ok (.irem, 1) := by decide +kernel
theorem dJ_fmod_3 : decode cJ_fmod 3 = .ok (.istore_n 2, 1) := by decide +kernel
theorem dJ_fmod_4 : decode cJ_fmod 4 = .ok (.iload_n 0, 1) := by decide +kernel
theorem dJ_fmod_5 : decode cJ_fmod 5 = .ok (.iload_n 1, 1) := by decide +kernel
theorem dJ_fmod_6 : decode cJ_fmod 6 = .ok (.ixor, 1) := by decide +kernel
theorem dJ_fmod_7 : decode cJ_fmod 7 = .ok (.ifCond .ge 11, 3) := by decide +kernel
theorem dJ_fmod_10 : decode cJ_fmod 10 = .ok (.iload_n 2, 1) := by decide +kernel
theorem dJ_fmod_11 : decode cJ_fmod 11 = .ok (.ifCond .eq 7, 3) := by decide +kernel
theorem dJ_fmod_14 : decode cJ_fmod 14 = .ok (.iload_n 2, 1) := by decide +kernel
theorem dJ_fmod_15 : decode cJ_fmod 15 = .ok (.iload_n 1, 1) := by decide +kernel
theorem dJ_fmod_16 : decode cJ_fmod 16 = .ok (.iadd, 1) := by decide +kernel
theorem dJ_fmod_17 : decode cJ_fmod 17 = .ok (.ireturn, 1) := by decide +kernel
theorem dJ_fmod_18 : decode cJ_fmod 18 = .ok (.iload_n 2, 1) := by decide +kernel
theorem dJ_fmod_19 : decode cJ_fmod 19 = .ok (.ireturn, 1) := by decide +kernel
def yJ_Slen : MethodName := ⟨"java/lang/String", "length", "()I"⟩
abbrev cJ_Slen : ByteArray := prog_14_method_54_code
theorem dJ_Slen_0 : decode cJ_Slen 0 = .ok (.aload_n 0, 1) := by decide +kernel
theorem dJ_Slen_1 : decode cJ_Slen 1 = .ok (.getfield 9, 3) := by decide +kernel
theorem dJ_Slen_4 : decode cJ_Slen 4 = .ok (.arraylength, 1) := by decide +kernel
theorem dJ_Slen_5 : decode cJ_Slen 5 = .ok (.aload_n 0, 1) := by decide +kernel
theorem dJ_Slen_6 : decode cJ_Slen 6 = .ok (.invokevirtual 335, 3) := by decide +kernel
theorem dJ_Slen_9 : decode cJ_Slen 9 = .ok (.ishr, 1) := by decide +kernel
theorem dJ_Slen_10 : decode cJ_Slen 10 = .ok (.ireturn, 1) := by decide +kernel
def yJ_Scod : MethodName := ⟨"java/lang/String", "coder", "()B"⟩
abbrev cJ_Scod : ByteArray := prog_14_method_152_code
theorem dJ_Scod_0 : decode cJ_Scod 0 = .ok (.getstatic 38, 3) := by decide +kernel
theorem dJ_Scod_3 : decode cJ_Scod 3 = .ok (.ifCond .eq 10, 3) := by decide +kernel
theorem dJ_Scod_6 : decode cJ_Scod 6 = .ok (.aload_n 0, 1) := by decide +kernel
theorem dJ_Scod_7 : decode cJ_Scod 7 = .ok (.getfield 15, 3) := by decide +kernel
theorem dJ_Scod_10 : decode cJ_Scod 10 = .ok (.goto 4, 3) := by decide +kernel
theorem dJ_Scod_13 : decode cJ_Scod 13 = .ok (.iconst 1, 1) := by decide +kernel
theorem dJ_Scod_14 : decode cJ_Scod 14 = .ok (.ireturn, 1) := by decide +kernel
def yJ_Sch : MethodName := ⟨"java/lang/String", "charAt", "(I)C"⟩
abbrev cJ_Sch : ByteArray := prog_14_method_56_code
theorem dJ_Sch_0 : decode cJ_Sch 0 = .ok (.aload_n 0, 1) := by decide +kernel
theorem dJ_Sch_1 : decode cJ_Sch 1 = .ok (.invokevirtual 492, 3) := by decide +kernel
theorem dJ_Sch_4 : decode cJ_Sch 4 = .ok (.ifCond .eq 12, 3) := by decide +kernel
theorem dJ_Sch_7 : decode cJ_Sch 7 = .ok (.aload_n 0, 1) := by decide +kernel
theorem dJ_Sch_8 : decode cJ_Sch 8 = .ok (.getfield 9, 3) := by decide +kernel
theorem dJ_Sch_11 : decode cJ_Sch 11 = .ok (.iload_n 1, 1) := by decide +kernel
theorem dJ_Sch_12 : decode cJ_Sch 12 = .ok (.invokestatic 495, 3) := by decide +kernel
theorem dJ_Sch_15 : decode cJ_Sch 15 = .ok (.ireturn, 1) := by decide +kernel
theorem dJ_Sch_16 : decode cJ_Sch 16 = .ok (.aload_n 0, 1) := by decide +kernel
theorem dJ_Sch_17 : decode cJ_Sch 17 = .ok (.getfield 9, 3) := by decide +kernel
theorem dJ_Sch_20 : decode cJ_Sch 20 = .ok (.iload_n 1, 1) := by decide +kernel
theorem dJ_Sch_21 : decode cJ_Sch 21 = .ok (.invokestatic 498, 3) := by decide +kernel
theorem dJ_Sch_24 : decode cJ_Sch 24 = .ok (.ireturn, 1) := by decide +kernel
def yJ_Slat : MethodName := ⟨"java/lang/String", "isLatin1", "()Z"⟩
abbrev cJ_Slat : ByteArray := prog_14_method_154_code
theorem dJ_Slat_0 : decode cJ_Slat 0 = .ok (.getstatic 38, 3) := by decide +kernel
theorem dJ_Slat_3 : decode cJ_Slat 3 = .ok (.ifCond .eq 14, 3) := by decide +kernel
theorem dJ_Slat_6 : decode cJ_Slat 6 = .ok (.aload_n 0, 1) := by decide +kernel
theorem dJ_Slat_7 : decode cJ_Slat 7 = .ok (.getfield 15, 3) := by decide +kernel
theorem dJ_Slat_10 : decode cJ_Slat 10 = .ok (.ifCond .ne 7, 3) := by decide +kernel
theorem dJ_Slat_13 : decode cJ_Slat 13 = .ok (.iconst 1, 1) := by decide +kernel
theorem dJ_Slat_14 : decode cJ_Slat 14 = .ok (.goto 4, 3) := by decide +kernel
theorem dJ_Slat_17 : decode cJ_Slat 17 = .ok (.iconst 0, 1) := by decide +kernel
theorem dJ_Slat_18 : decode cJ_Slat 18 = .ok (.ireturn, 1) := by decide +kernel
def yJ_Lch : MethodName := ⟨"java/lang/StringLatin1", "charAt", "([BI)C"⟩
abbrev cJ_Lch : ByteArray := prog_15_method_2_code
theorem dJ_Lch_0 : decode cJ_Lch 0 = .ok (.iload_n 1, 1) := by decide +kernel
theorem dJ_Lch_1 : decode cJ_Lch 1 = .ok (.aload_n 0, 1) := by decide +kernel
theorem dJ_Lch_2 : decode cJ_Lch 2 = .ok (.arraylength, 1) := by decide +kernel
theorem dJ_Lch_3 : decode cJ_Lch 3 = .ok (.invokestatic 9, 3) := by decide +kernel
theorem dJ_Lch_6 : decode cJ_Lch 6 = .ok (.aload_n 0, 1) := by decide +kernel
theorem dJ_Lch_7 : decode cJ_Lch 7 = .ok (.iload_n 1, 1) := by decide +kernel
theorem dJ_Lch_8 : decode cJ_Lch 8 = .ok (.baload, 1) := by decide +kernel
theorem dJ_Lch_9 : decode cJ_Lch 9 = .ok (.sipush 255, 3) := by decide +kernel
theorem dJ_Lch_12 : decode cJ_Lch 12 = .ok (.iand, 1) := by decide +kernel
theorem dJ_Lch_13 : decode cJ_Lch 13 = .ok (.i2c, 1) := by decide +kernel
theorem dJ_Lch_14 : decode cJ_Lch 14 = .ok (.ireturn, 1) := by decide +kernel
def yJ_Schk : MethodName := ⟨"java/lang/String", "checkIndex", "(II)V"⟩
abbrev cJ_Schk : ByteArray := prog_14_method_155_code
theorem dJ_Schk_0 : decode cJ_Schk 0 = .ok (.iload_n 0, 1) := by decide +kernel
theorem dJ_Schk_1 : decode cJ_Schk 1 = .ok (.iload_n 1, 1) := by decide +kernel
theorem dJ_Schk_2 : decode cJ_Schk 2 = .ok (.getstatic 1053, 3) := by decide +kernel
theorem dJ_Schk_5 : decode cJ_Schk 5 = .ok (.invokestatic 1059, 3) := by decide +kernel
theorem dJ_Schk_8 : decode cJ_Schk 8 = .ok (.pop, 1) := by decide +kernel
theorem dJ_Schk_9 : decode cJ_Schk 9 = .ok (.return_, 1) := by decide +kernel
def yJ_Pchk : MethodName := ⟨"jdk/internal/util/Preconditions", "checkIndex", "(IILjava/util/function/BiFunction;)I"⟩
abbrev cJ_Pchk : ByteArray := prog_18_method_11_code
theorem dJ_Pchk_0 : decode cJ_Pchk 0 = .ok (.iload_n 0, 1) := by decide +kernel
theorem dJ_Pchk_1 : decode cJ_Pchk 1 = .ok (.ifCond .lt 8, 3) := by decide +kernel
theorem dJ_Pchk_4 : decode cJ_Pchk 4 = .ok (.iload_n 0, 1) := by decide +kernel
theorem dJ_Pchk_5 : decode cJ_Pchk 5 = .ok (.iload_n 1, 1) := by decide +kernel
theorem dJ_Pchk_6 : decode cJ_Pchk 6 = .ok (.if_icmp .lt 10, 3) := by decide +kernel
theorem dJ_Pchk_9 : decode cJ_Pchk 9 = .ok (.aload_n 2, 1) := by decide +kernel
theorem dJ_Pchk_10 : decode cJ_Pchk 10 = .ok (.iload_n 0, 1) := by decide +kernel
theorem dJ_Pchk_11 : decode cJ_Pchk 11 = .ok (.iload_n 1, 1) := by decide +kernel
theorem dJ_Pchk_12 : decode cJ_Pchk 12 = .ok (.invokestatic 95, 3) := by decide +kernel
theorem dJ_Pchk_15 : decode cJ_Pchk 15 = .ok (.athrow, 1) := by decide +kernel
theorem dJ_Pchk_16 : decode cJ_Pchk 16 = .ok (.iload_n 0, 1) := by decide +kernel
theorem dJ_Pchk_17 : decode cJ_Pchk 17 = .ok (.ireturn, 1) := by decide +kernel
theorem fl_X6_9 : xFl RX6 9 6 0 := ⟨RX6, TX6, 13, rfl, by decide, xin_X6, xm 75 (by decide +kernel) (by decide +kernel)⟩
theorem fl_X7_71 : xFl RX7 71 6 0 := ⟨RX6, TX6, 13, rfl, by decide, xin_X6, xm 76 (by decide +kernel) (by decide +kernel)⟩
theorem fl_X0_37 : xFl RX0 37 6 0 := ⟨RX6, TX6, 13, rfl, by decide, xin_X6, xm 77 (by decide +kernel) (by decide +kernel)⟩
theorem fl_X6_15 : xFl RX6 15 6 1 := ⟨RX6, TX6, 13, rfl, by decide, xin_X6, xm 78 (by decide +kernel) (by decide +kernel)⟩
theorem fl_X7_81 : xFl RX7 81 6 1 := ⟨RX6, TX6, 13, rfl, by decide, xin_X6, xm 79 (by decide +kernel) (by decide +kernel)⟩
theorem fl_X0_32 : xFl RX0 32 6 1 := ⟨RX6, TX6, 13, rfl, by decide, xin_X6, xm 80 (by decide +kernel) (by decide +kernel)⟩
theorem fl_X6_18 : xFl RX6 18 6 2 := ⟨RX6, TX6, 13, rfl, by decide, xin_X6, xm 81 (by decide +kernel) (by decide +kernel)⟩
theorem fl_X7_84 : xFl RX7 84 6 2 := ⟨RX6, TX6, 13, rfl, by decide, xin_X6, xm 82 (by decide +kernel) (by decide +kernel)⟩
theorem fl_X6_21 : xFl RX6 21 6 3 := ⟨RX6, TX6, 13, rfl, by decide, xin_X6, xm 83 (by decide +kernel) (by decide +kernel)⟩
theorem fl_X7_139 : xFl RX7 139 6 3 := ⟨RX6, TX6, 13, rfl, by decide, xin_X6, xm 84 (by decide +kernel) (by decide +kernel)⟩
theorem fl_X6_24 : xFl RX6 24 6 4 := ⟨RX6, TX6, 13, rfl, by decide, xin_X6, xm 85 (by decide +kernel) (by decide +kernel)⟩
theorem fl_X7_142 : xFl RX7 142 6 4 := ⟨RX6, TX6, 13, rfl, by decide, xin_X6, xm 86 (by decide +kernel) (by decide +kernel)⟩
theorem fl_X6_33 : xFl RX6 33 6 5 := ⟨RX6, TX6, 13, rfl, by decide, xin_X6, xm 87 (by decide +kernel) (by decide +kernel)⟩
theorem fp_X6_33 : xFp RX6 33 6 5 .int := ⟨RX6, TX6, 13, tyX6, rfl, by decide, xin_X6, xm 87 (by decide +kernel) (by decide +kernel), tyX6_ok, nmX6, rfl, by decide +kernel⟩
theorem fl_X7_104 : xFl RX7 104 6 5 := ⟨RX6, TX6, 13, rfl, by decide, xin_X6, xm 88 (by decide +kernel) (by decide +kernel)⟩
theorem fp_X7_104 : xFp RX7 104 6 5 .int := ⟨RX6, TX6, 13, tyX6, rfl, by decide, xin_X6, xm 88 (by decide +kernel) (by decide +kernel), tyX6_ok, nmX6, rfl, by decide +kernel⟩
theorem fl_X6_37 : xFl RX6 37 6 6 := ⟨RX6, TX6, 13, rfl, by decide, xin_X6, xm 89 (by decide +kernel) (by decide +kernel)⟩
theorem fp_X6_37 : xFp RX6 37 6 6 .int := ⟨RX6, TX6, 13, tyX6, rfl, by decide, xin_X6, xm 89 (by decide +kernel) (by decide +kernel), tyX6_ok, nmX6, rfl, by decide +kernel⟩
theorem fl_X7_108 : xFl RX7 108 6 6 := ⟨RX6, TX6, 13, rfl, by decide, xin_X6, xm 90 (by decide +kernel) (by decide +kernel)⟩
theorem fp_X7_108 : xFp RX7 108 6 6 .int := ⟨RX6, TX6, 13, tyX6, rfl, by decide, xin_X6, xm 90 (by decide +kernel) (by decide +kernel), tyX6_ok, nmX6, rfl, by decide +kernel⟩
theorem fl_X6_40 : xFl RX6 40 6 7 := ⟨RX6, TX6, 13, rfl, by decide, xin_X6, xm 91 (by decide +kernel) (by decide +kernel)⟩
theorem fp_X6_40 : xFp RX6 40 6 7 .int := ⟨RX6, TX6, 13, tyX6, rfl, by decide, xin_X6, xm 91 (by decide +kernel) (by decide +kernel), tyX6_ok, nmX6, rfl, by decide +kernel⟩
theorem fl_X7_114 : xFl RX7 114 6 7 := ⟨RX6, TX6, 13, rfl, by decide, xin_X6, xm 92 (by decide +kernel) (by decide +kernel)⟩
theorem fp_X7_114 : xFp RX7 114 6 7 .int := ⟨RX6, TX6, 13, tyX6, rfl, by decide, xin_X6, xm 92 (by decide +kernel) (by decide +kernel), tyX6_ok, nmX6, rfl, by decide +kernel⟩
theorem fl_X6_43 : xFl RX6 43 6 8 := ⟨RX6, TX6, 13, rfl, by decide, xin_X6, xm 93 (by decide +kernel) (by decide +kernel)⟩
theorem fp_X6_43 : xFp RX6 43 6 8 .int := ⟨RX6, TX6, 13, tyX6, rfl, by decide, xin_X6, xm 93 (by decide +kernel) (by decide +kernel), tyX6_ok, nmX6, rfl, by decide +kernel⟩
theorem fl_X7_121 : xFl RX7 121 6 8 := ⟨RX6, TX6, 13, rfl, by decide, xin_X6, xm 94 (by decide +kernel) (by decide +kernel)⟩
theorem fp_X7_121 : xFp RX7 121 6 8 .int := ⟨RX6, TX6, 13, tyX6, rfl, by decide, xin_X6, xm 94 (by decide +kernel) (by decide +kernel), tyX6_ok, nmX6, rfl, by decide +kernel⟩
theorem fl_X6_46 : xFl RX6 46 6 9 := ⟨RX6, TX6, 13, rfl, by decide, xin_X6, xm 95 (by decide +kernel) (by decide +kernel)⟩
theorem fp_X6_46 : xFp RX6 46 6 9 .int := ⟨RX6, TX6, 13, tyX6, rfl, by decide, xin_X6, xm 95 (by decide +kernel) (by decide +kernel), tyX6_ok, nmX6, rfl, by decide +kernel⟩
theorem fl_X7_124 : xFl RX7 124 6 9 := ⟨RX6, TX6, 13, rfl, by decide, xin_X6, xm 96 (by decide +kernel) (by decide +kernel)⟩
theorem fp_X7_124 : xFp RX7 124 6 9 .int := ⟨RX6, TX6, 13, tyX6, rfl, by decide, xin_X6, xm 96 (by decide +kernel) (by decide +kernel), tyX6_ok, nmX6, rfl, by decide +kernel⟩
theorem fl_X6_49 : xFl RX6 49 6 10 := ⟨RX6, TX6, 13, rfl, by decide, xin_X6, xm 97 (by decide +kernel) (by decide +kernel)⟩
theorem fp_X6_49 : xFp RX6 49 6 10 .int := ⟨RX6, TX6, 13, tyX6, rfl, by decide, xin_X6, xm 97 (by decide +kernel) (by decide +kernel), tyX6_ok, nmX6, rfl, by decide +kernel⟩
theorem fl_X7_127 : xFl RX7 127 6 10 := ⟨RX6, TX6, 13, rfl, by decide, xin_X6, xm 98 (by decide +kernel) (by decide +kernel)⟩
theorem fp_X7_127 : xFp RX7 127 6 10 .int := ⟨RX6, TX6, 13, tyX6, rfl, by decide, xin_X6, xm 98 (by decide +kernel) (by decide +kernel), tyX6_ok, nmX6, rfl, by decide +kernel⟩
theorem fl_X6_52 : xFl RX6 52 6 11 := ⟨RX6, TX6, 13, rfl, by decide, xin_X6, xm 99 (by decide +kernel) (by decide +kernel)⟩
theorem fp_X6_52 : xFp RX6 52 6 11 .int := ⟨RX6, TX6, 13, tyX6, rfl, by decide, xin_X6, xm 99 (by decide +kernel) (by decide +kernel), tyX6_ok, nmX6, rfl, by decide +kernel⟩
theorem fl_X7_194 : xFl RX7 194 6 11 := ⟨RX6, TX6, 13, rfl, by decide, xin_X6, xm 100 (by decide +kernel) (by decide +kernel)⟩
theorem fp_X7_194 : xFp RX7 194 6 11 .int := ⟨RX6, TX6, 13, tyX6, rfl, by decide, xin_X6, xm 100 (by decide +kernel) (by decide +kernel), tyX6_ok, nmX6, rfl, by decide +kernel⟩
theorem fl_X6_55 : xFl RX6 55 6 12 := ⟨RX6, TX6, 13, rfl, by decide, xin_X6, xm 101 (by decide +kernel) (by decide +kernel)⟩
theorem fp_X6_55 : xFp RX6 55 6 12 .int := ⟨RX6, TX6, 13, tyX6, rfl, by decide, xin_X6, xm 101 (by decide +kernel) (by decide +kernel), tyX6_ok, nmX6, rfl, by decide +kernel⟩
theorem fl_X0_9 : xFl RX0 9 0 0 := ⟨RX0, TX0, 3, rfl, by decide, xin_X0, xm 137 (by decide +kernel) (by decide +kernel)⟩
theorem fl_X0_15 : xFl RX0 15 0 1 := ⟨RX0, TX0, 3, rfl, by decide, xin_X0, xm 138 (by decide +kernel) (by decide +kernel)⟩
theorem fl_X5_22 : xFl RX5 22 0 2 := ⟨RX0, TX0, 3, rfl, by decide, xin_X0, xm 139 (by decide +kernel) (by decide +kernel)⟩
theorem fp_X5_22 : xFp RX5 22 0 2 .int := ⟨RX0, TX0, 3, tyX0, rfl, by decide, xin_X0, xm 139 (by decide +kernel) (by decide +kernel), tyX0_ok, nmX0, rfl, by decide +kernel⟩
theorem fl_X0_24 : xFl RX0 24 0 2 := ⟨RX0, TX0, 3, rfl, by decide, xin_X0, xm 140 (by decide +kernel) (by decide +kernel)⟩
theorem fp_X0_24 : xFp RX0 24 0 2 .int := ⟨RX0, TX0, 3, tyX0, rfl, by decide, xin_X0, xm 140 (by decide +kernel) (by decide +kernel), tyX0_ok, nmX0, rfl, by decide +kernel⟩
theorem fl_X7_177 : xFl RX7 177 0 2 := ⟨RX0, TX0, 3, rfl, by decide, xin_X0, xm 141 (by decide +kernel) (by decide +kernel)⟩
theorem fp_X7_177 : xFp RX7 177 0 2 .int := ⟨RX0, TX0, 3, tyX0, rfl, by decide, xin_X0, xm 141 (by decide +kernel) (by decide +kernel), tyX0_ok, nmX0, rfl, by decide +kernel⟩
theorem fl_X3_12 : xFl RX3 12 3 0 := ⟨RX3, TX3, 5, rfl, by decide, xin_X3, xm 149 (by decide +kernel) (by decide +kernel)⟩
theorem fl_X7_68 : xFl RX7 68 3 0 := ⟨RX3, TX3, 5, rfl, by decide, xin_X3, xm 150 (by decide +kernel) (by decide +kernel)⟩
theorem fl_X3_20 : xFl RX3 20 3 1 := ⟨RX3, TX3, 5, rfl, by decide, xin_X3, xm 151 (by decide +kernel) (by decide +kernel)⟩
theorem fl_X7_166 : xFl RX7 166 3 1 := ⟨RX3, TX3, 5, rfl, by decide, xin_X3, xm 152 (by decide +kernel) (by decide +kernel)⟩
theorem fl_X3_40 : xFl RX3 40 3 2 := ⟨RX3, TX3, 5, rfl, by decide, xin_X3, xm 153 (by decide +kernel) (by decide +kernel)⟩
theorem fp_X3_40 : xFp RX3 40 3 2 .int := ⟨RX3, TX3, 5, tyX3, rfl, by decide, xin_X3, xm 153 (by decide +kernel) (by decide +kernel), tyX3_ok, nmX3, rfl, by decide +kernel⟩
theorem fl_X7_163 : xFl RX7 163 3 2 := ⟨RX3, TX3, 5, rfl, by decide, xin_X3, xm 154 (by decide +kernel) (by decide +kernel)⟩
theorem fp_X7_163 : xFp RX7 163 3 2 .int := ⟨RX3, TX3, 5, tyX3, rfl, by decide, xin_X3, xm 154 (by decide +kernel) (by decide +kernel), tyX3_ok, nmX3, rfl, by decide +kernel⟩
theorem fl_X3_24 : xFl RX3 24 3 3 := ⟨RX3, TX3, 5, rfl, by decide, xin_X3, xm 155 (by decide +kernel) (by decide +kernel)⟩
theorem fl_X7_253 : xFl RX7 253 3 3 := ⟨RX3, TX3, 5, rfl, by decide, xin_X3, xm 156 (by decide +kernel) (by decide +kernel)⟩
theorem fl_X3_28 : xFl RX3 28 3 4 := ⟨RX3, TX3, 5, rfl, by decide, xin_X3, xm 157 (by decide +kernel) (by decide +kernel)⟩
theorem fp_X3_28 : xFp RX3 28 3 4 .int := ⟨RX3, TX3, 5, tyX3, rfl, by decide, xin_X3, xm 157 (by decide +kernel) (by decide +kernel), tyX3_ok, nmX3, rfl, by decide +kernel⟩
theorem fl_X7_248 : xFl RX7 248 3 4 := ⟨RX3, TX3, 5, rfl, by decide, xin_X3, xm 158 (by decide +kernel) (by decide +kernel)⟩
theorem fp_X7_248 : xFp RX7 248 3 4 .int := ⟨RX3, TX3, 5, tyX3, rfl, by decide, xin_X3, xm 158 (by decide +kernel) (by decide +kernel), tyX3_ok, nmX3, rfl, by decide +kernel⟩
theorem fl_X4_9 : xFl RX4 9 4 0 := ⟨RX4, TX4, 2, rfl, by decide, xin_X4, xm 182 (by decide +kernel) (by decide +kernel)⟩
theorem fl_X4_13 : xFl RX4 13 4 1 := ⟨RX4, TX4, 2, rfl, by decide, xin_X4, xm 183 (by decide +kernel) (by decide +kernel)⟩
theorem fp_X4_13 : xFp RX4 13 4 1 .int := ⟨RX4, TX4, 2, tyX4, rfl, by decide, xin_X4, xm 183 (by decide +kernel) (by decide +kernel), tyX4_ok, nmX4, rfl, by decide +kernel⟩
theorem fl_X5_37 : xFl RX5 37 4 1 := ⟨RX4, TX4, 2, rfl, by decide, xin_X4, xm 184 (by decide +kernel) (by decide +kernel)⟩
theorem fp_X5_37 : xFp RX5 37 4 1 .int := ⟨RX4, TX4, 2, tyX4, rfl, by decide, xin_X4, xm 184 (by decide +kernel) (by decide +kernel), tyX4_ok, nmX4, rfl, by decide +kernel⟩
theorem fl_X7_155 : xFl RX7 155 4 1 := ⟨RX4, TX4, 2, rfl, by decide, xin_X4, xm 185 (by decide +kernel) (by decide +kernel)⟩
theorem fp_X7_155 : xFp RX7 155 4 1 .int := ⟨RX4, TX4, 2, tyX4, rfl, by decide, xin_X4, xm 185 (by decide +kernel) (by decide +kernel), tyX4_ok, nmX4, rfl, by decide +kernel⟩
theorem fl_X5_12 : xFl RX5 12 5 0 := ⟨RX5, TX5, 5, rfl, by decide, xin_X5, xm 191 (by decide +kernel) (by decide +kernel)⟩
theorem fl_X7_26 : xFl RX7 26 5 0 := ⟨RX5, TX5, 5, rfl, by decide, xin_X5, xm 192 (by decide +kernel) (by decide +kernel)⟩
theorem fl_X5_45 : xFl RX5 45 5 1 := ⟨RX5, TX5, 5, rfl, by decide, xin_X5, xm 193 (by decide +kernel) (by decide +kernel)⟩
theorem fp_X5_45 : xFp RX5 45 5 1 .int := ⟨RX5, TX5, 5, tyX5, rfl, by decide, xin_X5, xm 193 (by decide +kernel) (by decide +kernel), tyX5_ok, nmX5, rfl, by decide +kernel⟩
theorem fl_X5_34 : xFl RX5 34 5 2 := ⟨RX5, TX5, 5, rfl, by decide, xin_X5, xm 194 (by decide +kernel) (by decide +kernel)⟩
theorem fp_X5_34 : xFp RX5 34 5 2 .int := ⟨RX5, TX5, 5, tyX5, rfl, by decide, xin_X5, xm 194 (by decide +kernel) (by decide +kernel), tyX5_ok, nmX5, rfl, by decide +kernel⟩
theorem fl_X5_18 : xFl RX5 18 5 3 := ⟨RX5, TX5, 5, rfl, by decide, xin_X5, xm 195 (by decide +kernel) (by decide +kernel)⟩
theorem fp_X5_18 : xFp RX5 18 5 3 .int := ⟨RX5, TX5, 5, tyX5, rfl, by decide, xin_X5, xm 195 (by decide +kernel) (by decide +kernel), tyX5_ok, nmX5, rfl, by decide +kernel⟩
theorem fl_X5_42 : xFl RX5 42 5 4 := ⟨RX5, TX5, 5, rfl, by decide, xin_X5, xm 196 (by decide +kernel) (by decide +kernel)⟩
theorem fp_X5_42 : xFp RX5 42 5 4 .int := ⟨RX5, TX5, 5, tyX5, rfl, by decide, xin_X5, xm 196 (by decide +kernel) (by decide +kernel), tyX5_ok, nmX5, rfl, by decide +kernel⟩
theorem fl_X2_7 : xFl RX2 7 2 0 := ⟨RX2, TX2, 3, rfl, by decide, xin_X2, xm 218 (by decide +kernel) (by decide +kernel)⟩
theorem fp_X2_7 : xFp RX2 7 2 0 .long := ⟨RX2, TX2, 3, tyX2, rfl, by decide, xin_X2, xm 218 (by decide +kernel) (by decide +kernel), tyX2_ok, nmX2, rfl, by decide +kernel⟩
theorem fl_X7_232 : xFl RX7 232 2 0 := ⟨RX2, TX2, 3, rfl, by decide, xin_X2, xm 219 (by decide +kernel) (by decide +kernel)⟩
theorem fp_X7_232 : xFp RX7 232 2 0 .long := ⟨RX2, TX2, 3, tyX2, rfl, by decide, xin_X2, xm 219 (by decide +kernel) (by decide +kernel), tyX2_ok, nmX2, rfl, by decide +kernel⟩
theorem fl_X2_13 : xFl RX2 13 2 1 := ⟨RX2, TX2, 3, rfl, by decide, xin_X2, xm 220 (by decide +kernel) (by decide +kernel)⟩
theorem fp_X2_13 : xFp RX2 13 2 1 .long := ⟨RX2, TX2, 3, tyX2, rfl, by decide, xin_X2, xm 220 (by decide +kernel) (by decide +kernel), tyX2_ok, nmX2, rfl, by decide +kernel⟩
theorem fl_X7_236 : xFl RX7 236 2 1 := ⟨RX2, TX2, 3, rfl, by decide, xin_X2, xm 221 (by decide +kernel) (by decide +kernel)⟩
theorem fp_X7_236 : xFp RX7 236 2 1 .long := ⟨RX2, TX2, 3, tyX2, rfl, by decide, xin_X2, xm 221 (by decide +kernel) (by decide +kernel), tyX2_ok, nmX2, rfl, by decide +kernel⟩
theorem fl_X2_16 : xFl RX2 16 2 2 := ⟨RX2, TX2, 3, rfl, by decide, xin_X2, xm 222 (by decide +kernel) (by decide +kernel)⟩
theorem fp_X2_16 : xFp RX2 16 2 2 .long := ⟨RX2, TX2, 3, tyX2, rfl, by decide, xin_X2, xm 222 (by decide +kernel) (by decide +kernel), tyX2_ok, nmX2, rfl, by decide +kernel⟩
theorem fl_X7_239 : xFl RX7 239 2 2 := ⟨RX2, TX2, 3, rfl, by decide, xin_X2, xm 223 (by decide +kernel) (by decide +kernel)⟩
theorem fp_X7_239 : xFp RX7 239 2 2 .long := ⟨RX2, TX2, 3, tyX2, rfl, by decide, xin_X2, xm 223 (by decide +kernel) (by decide +kernel), tyX2_ok, nmX2, rfl, by decide +kernel⟩
theorem fl_X1_9 : xFl RX1 9 1 0 := ⟨RX1, TX1, 3, rfl, by decide, xin_X1, xm 236 (by decide +kernel) (by decide +kernel)⟩
theorem fl_X7_280 : xFl RX7 280 1 0 := ⟨RX1, TX1, 3, rfl, by decide, xin_X1, xm 237 (by decide +kernel) (by decide +kernel)⟩
theorem fl_X1_13 : xFl RX1 13 1 1 := ⟨RX1, TX1, 3, rfl, by decide, xin_X1, xm 238 (by decide +kernel) (by decide +kernel)⟩
theorem fp_X1_13 : xFp RX1 13 1 1 .int := ⟨RX1, TX1, 3, tyX1, rfl, by decide, xin_X1, xm 238 (by decide +kernel) (by decide +kernel), tyX1_ok, nmX1, rfl, by decide +kernel⟩
theorem fl_X7_274 : xFl RX7 274 1 1 := ⟨RX1, TX1, 3, rfl, by decide, xin_X1, xm 239 (by decide +kernel) (by decide +kernel)⟩
theorem fp_X7_274 : xFp RX7 274 1 1 .int := ⟨RX1, TX1, 3, tyX1, rfl, by decide, xin_X1, xm 239 (by decide +kernel) (by decide +kernel), tyX1_ok, nmX1, rfl, by decide +kernel⟩
theorem fl_X1_17 : xFl RX1 17 1 2 := ⟨RX1, TX1, 3, rfl, by decide, xin_X1, xm 240 (by decide +kernel) (by decide +kernel)⟩
theorem fp_X1_17 : xFp RX1 17 1 2 .int := ⟨RX1, TX1, 3, tyX1, rfl, by decide, xin_X1, xm 240 (by decide +kernel) (by decide +kernel), tyX1_ok, nmX1, rfl, by decide +kernel⟩
theorem fl_X7_270 : xFl RX7 270 1 2 := ⟨RX1, TX1, 3, rfl, by decide, xin_X1, xm 241 (by decide +kernel) (by decide +kernel)⟩
theorem fp_X7_270 : xFp RX7 270 1 2 .int := ⟨RX1, TX1, 3, tyX1, rfl, by decide, xin_X1, xm 241 (by decide +kernel) (by decide +kernel), tyX1_ok, nmX1, rfl, by decide +kernel⟩
theorem fl_X7_12 : xFl RX7 12 7 0 := ⟨RX7, TX7, 10, rfl, by decide, xin_X7, xm 249 (by decide +kernel) (by decide +kernel)⟩
theorem fl_X7_16 : xFl RX7 16 7 1 := ⟨RX7, TX7, 10, rfl, by decide, xin_X7, xm 250 (by decide +kernel) (by decide +kernel)⟩
theorem fl_X7_292 : xFl RX7 292 7 2 := ⟨RX7, TX7, 10, rfl, by decide, xin_X7, xm 251 (by decide +kernel) (by decide +kernel)⟩
theorem fp_X7_292 : xFp RX7 292 7 2 .boolean := ⟨RX7, TX7, 10, tyX7, rfl, by decide, xin_X7, xm 251 (by decide +kernel) (by decide +kernel), tyX7_ok, nmX7, rfl, by decide +kernel⟩
theorem fl_X7_22 : xFl RX7 22 7 3 := ⟨RX7, TX7, 10, rfl, by decide, xin_X7, xm 252 (by decide +kernel) (by decide +kernel)⟩
theorem fl_X7_30 : xFl RX7 30 7 4 := ⟨RX7, TX7, 10, rfl, by decide, xin_X7, xm 253 (by decide +kernel) (by decide +kernel)⟩
theorem fl_X7_33 : xFl RX7 33 7 5 := ⟨RX7, TX7, 10, rfl, by decide, xin_X7, xm 254 (by decide +kernel) (by decide +kernel)⟩
theorem fl_X7_40 : xFl RX7 40 7 6 := ⟨RX7, TX7, 10, rfl, by decide, xin_X7, xm 255 (by decide +kernel) (by decide +kernel)⟩
theorem fl_X7_44 : xFl RX7 44 7 7 := ⟨RX7, TX7, 10, rfl, by decide, xin_X7, xm 256 (by decide +kernel) (by decide +kernel)⟩
theorem fl_X7_50 : xFl RX7 50 7 8 := ⟨RX7, TX7, 10, rfl, by decide, xin_X7, xm 257 (by decide +kernel) (by decide +kernel)⟩
theorem fl_X7_54 : xFl RX7 54 7 9 := ⟨RX7, TX7, 10, rfl, by decide, xin_X7, xm 258 (by decide +kernel) (by decide +kernel)⟩
theorem kv_JLeakCupsLaw_13 : xLV "LeakCupsLaw" 13 RX7 yX7_set cX7_set 5 (some .int) 2 := ⟨xm 280 (by decide +kernel) (by decide +kernel), xm 281 (by decide +kernel) (by decide +kernel), xm 282 (by decide +kernel) (by decide +kernel), xm 38 (by decide +kernel) (by decide +kernel), xm 283 (by decide +kernel) (by decide +kernel), rfl, by decide +kernel, by decide +kernel, by decide +kernel⟩
theorem ks_X7_59 : xLS RX7 59 yX7_within cX7_within 3 (some .boolean) 3 := ⟨xm 284 (by decide +kernel) (by decide +kernel), xm 285 (by decide +kernel) (by decide +kernel), xm 38 (by decide +kernel) (by decide +kernel), xm 286 (by decide +kernel) (by decide +kernel), by decide +kernel, by decide +kernel, by decide +kernel⟩
theorem kc_X7_63 : Jvm.Cond.constant RX7 63 (-1000001) ∈ xT := xm 287 (by decide +kernel) (by decide +kernel)
theorem kv_X7_64 : xLV RX7 64 RX7 yX7_finding cX7_finding 3 (some .int) 1 := ⟨xm 288 (by decide +kernel) (by decide +kernel), xm 290 (by decide +kernel) (by decide +kernel), xm 0 (by decide +kernel) (by decide +kernel), xm 38 (by decide +kernel) (by decide +kernel), xm 291 (by decide +kernel) (by decide +kernel), rfl, by decide +kernel, by decide +kernel, by decide +kernel⟩
theorem kv_JLeakCupsLaw_18 : xLV "LeakCupsLaw" 18 RX7 yX7_kind cX7_kind 4 (some .int) 2 := ⟨xm 292 (by decide +kernel) (by decide +kernel), xm 293 (by decide +kernel) (by decide +kernel), xm 294 (by decide +kernel) (by decide +kernel), xm 38 (by decide +kernel) (by decide +kernel), xm 295 (by decide +kernel) (by decide +kernel), rfl, by decide +kernel, by decide +kernel, by decide +kernel⟩
theorem ks_X7_74 : xLS RX7 74 yX7_isCup cX7_isCup 1 (some .boolean) 1 := ⟨xm 296 (by decide +kernel) (by decide +kernel), xm 297 (by decide +kernel) (by decide +kernel), xm 38 (by decide +kernel) (by decide +kernel), xm 298 (by decide +kernel) (by decide +kernel), by decide +kernel, by decide +kernel, by decide +kernel⟩
theorem ks_X7_78 : xLS RX7 78 yX7_isKind cX7_isKind 1 (some .boolean) 1 := ⟨xm 299 (by decide +kernel) (by decide +kernel), xm 300 (by decide +kernel) (by decide +kernel), xm 38 (by decide +kernel) (by decide +kernel), xm 301 (by decide +kernel) (by decide +kernel), by decide +kernel, by decide +kernel, by decide +kernel⟩
theorem kv_JLeakCupsLaw_22 : xLV "LeakCupsLaw" 22 RX7 yX7_cupOf cX7_cupOf 3 (some .int) 2 := ⟨xm 302 (by decide +kernel) (by decide +kernel), xm 303 (by decide +kernel) (by decide +kernel), xm 304 (by decide +kernel) (by decide +kernel), xm 38 (by decide +kernel) (by decide +kernel), xm 305 (by decide +kernel) (by decide +kernel), rfl, by decide +kernel, by decide +kernel, by decide +kernel⟩
theorem kv_X7_87 : xLV RX7 87 RX6 yX6_placeOf cX6_placeOf 2 (some .int) 1 := ⟨xm 306 (by decide +kernel) (by decide +kernel), xm 307 (by decide +kernel) (by decide +kernel), xm 308 (by decide +kernel) (by decide +kernel), xm 40 (by decide +kernel) (by decide +kernel), xm 309 (by decide +kernel) (by decide +kernel), rfl, by decide +kernel, by decide +kernel, by decide +kernel⟩
theorem kv_X7_90 : xLV RX7 90 RX6 yX6_roomOf cX6_roomOf 2 (some .int) 1 := ⟨xm 310 (by decide +kernel) (by decide +kernel), xm 311 (by decide +kernel) (by decide +kernel), xm 312 (by decide +kernel) (by decide +kernel), xm 40 (by decide +kernel) (by decide +kernel), xm 313 (by decide +kernel) (by decide +kernel), rfl, by decide +kernel, by decide +kernel, by decide +kernel⟩
theorem fs_X6_64 : Cond.fieldLink RX6 64 (xzc 0) (xzn 0) "[I" ∈ xT := xm 314 (by decide +kernel) (by decide +kernel)
theorem kv_X7_93 : xLV RX7 93 RX6 yX6_leakOf cX6_leakOf 5 (some .int) 1 := ⟨xm 316 (by decide +kernel) (by decide +kernel), xm 317 (by decide +kernel) (by decide +kernel), xm 318 (by decide +kernel) (by decide +kernel), xm 40 (by decide +kernel) (by decide +kernel), xm 319 (by decide +kernel) (by decide +kernel), rfl, by decide +kernel, by decide +kernel, by decide +kernel⟩
theorem km_X6_74 : Cond.methodLink RX6 74 (⟨"java/lang/Math", "max", "(II)I"⟩ : MethodName) ∈ xT := xm 320 (by decide +kernel) (by decide +kernel)
theorem km_X6_58 : Cond.methodLink RX6 58 (⟨"java/lang/Math", "min", "(II)I"⟩ : MethodName) ∈ xT := xm 323 (by decide +kernel) (by decide +kernel)
theorem kv_X6_77 : xLV RX6 77 RX6 yX6_placeOf cX6_placeOf 2 (some .int) 1 := ⟨xm 326 (by decide +kernel) (by decide +kernel), xm 307 (by decide +kernel) (by decide +kernel), xm 308 (by decide +kernel) (by decide +kernel), xm 40 (by decide +kernel) (by decide +kernel), xm 309 (by decide +kernel) (by decide +kernel), rfl, by decide +kernel, by decide +kernel, by decide +kernel⟩
theorem kv_JLeakCupsLaw_26 : xLV "LeakCupsLaw" 26 RX7 yX7_fill cX7_fill 4 (some .int) 2 := ⟨xm 327 (by decide +kernel) (by decide +kernel), xm 328 (by decide +kernel) (by decide +kernel), xm 329 (by decide +kernel) (by decide +kernel), xm 38 (by decide +kernel) (by decide +kernel), xm 330 (by decide +kernel) (by decide +kernel), rfl, by decide +kernel, by decide +kernel, by decide +kernel⟩
theorem kc_X7_96 : Jvm.Cond.constant RX7 96 (-1000002) ∈ xT := xm 331 (by decide +kernel) (by decide +kernel)
theorem kv_JLeakCupsLaw_30 : xLV "LeakCupsLaw" 30 RX7 yX7_empty cX7_empty 3 (some .int) 1 := ⟨xm 332 (by decide +kernel) (by decide +kernel), xm 333 (by decide +kernel) (by decide +kernel), xm 334 (by decide +kernel) (by decide +kernel), xm 38 (by decide +kernel) (by decide +kernel), xm 335 (by decide +kernel) (by decide +kernel), rfl, by decide +kernel, by decide +kernel, by decide +kernel⟩
theorem kv_JLeakCupsLaw_35 : xLV "LeakCupsLaw" 35 RX7 yX7_touch cX7_touch 2 (some .int) 1 := ⟨xm 336 (by decide +kernel) (by decide +kernel), xm 337 (by decide +kernel) (by decide +kernel), xm 338 (by decide +kernel) (by decide +kernel), xm 38 (by decide +kernel) (by decide +kernel), xm 339 (by decide +kernel) (by decide +kernel), rfl, by decide +kernel, by decide +kernel, by decide +kernel⟩
theorem ks_X7_97 : xLS RX7 97 yX7_isTouch cX7_isTouch 1 (some .boolean) 1 := ⟨xm 340 (by decide +kernel) (by decide +kernel), xm 341 (by decide +kernel) (by decide +kernel), xm 38 (by decide +kernel) (by decide +kernel), xm 342 (by decide +kernel) (by decide +kernel), by decide +kernel, by decide +kernel, by decide +kernel⟩
theorem kv_X7_100 : xLV RX7 100 RX6 yX6_nudge cX6_nudge 2 none 1 := ⟨xm 343 (by decide +kernel) (by decide +kernel), xm 344 (by decide +kernel) (by decide +kernel), xm 345 (by decide +kernel) (by decide +kernel), xm 40 (by decide +kernel) (by decide +kernel), xm 346 (by decide +kernel) (by decide +kernel), rfl, by decide +kernel, by decide +kernel, by decide +kernel⟩
theorem ks_X6_84 : xLS RX6 84 yX6_held cX6_held 1 (some .int) 1 := ⟨xm 347 (by decide +kernel) (by decide +kernel), xm 348 (by decide +kernel) (by decide +kernel), xm 40 (by decide +kernel) (by decide +kernel), xm 349 (by decide +kernel) (by decide +kernel), by decide +kernel, by decide +kernel, by decide +kernel⟩
theorem ks_X6_87 : xLS RX6 87 yJ_Icmp cJ_Icmp 2 (some .int) 2 := ⟨xm 350 (by decide +kernel) (by decide +kernel), xm 351 (by decide +kernel) (by decide +kernel), xm 48 (by decide +kernel) (by decide +kernel), xm 352 (by decide +kernel) (by decide +kernel), by decide +kernel, by decide +kernel, by decide +kernel⟩
theorem kv_JLeakCupsLaw_39 : xLV "LeakCupsLaw" 39 RX7 yX7_stop cX7_stop 3 (some .int) 1 := ⟨xm 353 (by decide +kernel) (by decide +kernel), xm 354 (by decide +kernel) (by decide +kernel), xm 355 (by decide +kernel) (by decide +kernel), xm 38 (by decide +kernel) (by decide +kernel), xm 356 (by decide +kernel) (by decide +kernel), rfl, by decide +kernel, by decide +kernel, by decide +kernel⟩
theorem kv_JLeakCupsLaw_43 : xLV "LeakCupsLaw" 43 RX7 yX7_tick cX7_tick 2 (some .int) 1 := ⟨xm 357 (by decide +kernel) (by decide +kernel), xm 358 (by decide +kernel) (by decide +kernel), xm 359 (by decide +kernel) (by decide +kernel), xm 38 (by decide +kernel) (by decide +kernel), xm 360 (by decide +kernel) (by decide +kernel), rfl, by decide +kernel, by decide +kernel, by decide +kernel⟩
theorem kv_X7_111 : xLV RX7 111 RX6 yX6_steps cX6_steps 3 none 1 := ⟨xm 361 (by decide +kernel) (by decide +kernel), xm 362 (by decide +kernel) (by decide +kernel), xm 363 (by decide +kernel) (by decide +kernel), xm 40 (by decide +kernel) (by decide +kernel), xm 364 (by decide +kernel) (by decide +kernel), rfl, by decide +kernel, by decide +kernel, by decide +kernel⟩
theorem kv_X6_92 : xLV RX6 92 RX6 yX6_step cX6_step 2 none 0 := ⟨xm 365 (by decide +kernel) (by decide +kernel), xm 366 (by decide +kernel) (by decide +kernel), xm 367 (by decide +kernel) (by decide +kernel), xm 40 (by decide +kernel) (by decide +kernel), xm 368 (by decide +kernel) (by decide +kernel), rfl, by decide +kernel, by decide +kernel, by decide +kernel⟩
theorem kv_X6_95 : xLV RX6 95 RX6 yX6_pour cX6_pour 4 none 0 := ⟨xm 369 (by decide +kernel) (by decide +kernel), xm 371 (by decide +kernel) (by decide +kernel), xm 1 (by decide +kernel) (by decide +kernel), xm 40 (by decide +kernel) (by decide +kernel), xm 372 (by decide +kernel) (by decide +kernel), rfl, by decide +kernel, by decide +kernel, by decide +kernel⟩
theorem kv_X6_111 : xLV RX6 111 RX6 yX6_topCup cX6_topCup 1 (some .int) 0 := ⟨xm 373 (by decide +kernel) (by decide +kernel), xm 374 (by decide +kernel) (by decide +kernel), xm 375 (by decide +kernel) (by decide +kernel), xm 40 (by decide +kernel) (by decide +kernel), xm 376 (by decide +kernel) (by decide +kernel), rfl, by decide +kernel, by decide +kernel, by decide +kernel⟩
theorem kv_X6_115 : xLV RX6 115 RX6 yX6_roomOf cX6_roomOf 2 (some .int) 1 := ⟨xm 377 (by decide +kernel) (by decide +kernel), xm 311 (by decide +kernel) (by decide +kernel), xm 312 (by decide +kernel) (by decide +kernel), xm 40 (by decide +kernel) (by decide +kernel), xm 313 (by decide +kernel) (by decide +kernel), rfl, by decide +kernel, by decide +kernel, by decide +kernel⟩
theorem kv_X6_98 : xLV RX6 98 RX6 yX6_drain cX6_drain 3 none 1 := ⟨xm 378 (by decide +kernel) (by decide +kernel), xm 380 (by decide +kernel) (by decide +kernel), xm 2 (by decide +kernel) (by decide +kernel), xm 40 (by decide +kernel) (by decide +kernel), xm 381 (by decide +kernel) (by decide +kernel), rfl, by decide +kernel, by decide +kernel, by decide +kernel⟩
theorem kv_X6_118 : xLV RX6 118 RX6 yX6_leakOf cX6_leakOf 5 (some .int) 1 := ⟨xm 382 (by decide +kernel) (by decide +kernel), xm 317 (by decide +kernel) (by decide +kernel), xm 318 (by decide +kernel) (by decide +kernel), xm 40 (by decide +kernel) (by decide +kernel), xm 319 (by decide +kernel) (by decide +kernel), rfl, by decide +kernel, by decide +kernel, by decide +kernel⟩
theorem kv_X6_121 : xLV RX6 121 RX6 yX6_passOn cX6_passOn 3 none 1 := ⟨xm 383 (by decide +kernel) (by decide +kernel), xm 385 (by decide +kernel) (by decide +kernel), xm 3 (by decide +kernel) (by decide +kernel), xm 40 (by decide +kernel) (by decide +kernel), xm 386 (by decide +kernel) (by decide +kernel), rfl, by decide +kernel, by decide +kernel, by decide +kernel⟩
theorem kv_X6_102 : xLV RX6 102 RX6 yX6_swing cX6_swing 2 none 0 := ⟨xm 387 (by decide +kernel) (by decide +kernel), xm 389 (by decide +kernel) (by decide +kernel), xm 4 (by decide +kernel) (by decide +kernel), xm 40 (by decide +kernel) (by decide +kernel), xm 390 (by decide +kernel) (by decide +kernel), rfl, by decide +kernel, by decide +kernel, by decide +kernel⟩
theorem kv_X6_124 : xLV RX6 124 RX6 yX6_pull cX6_pull 3 (some .int) 0 := ⟨xm 391 (by decide +kernel) (by decide +kernel), xm 392 (by decide +kernel) (by decide +kernel), xm 393 (by decide +kernel) (by decide +kernel), xm 40 (by decide +kernel) (by decide +kernel), xm 394 (by decide +kernel) (by decide +kernel), rfl, by decide +kernel, by decide +kernel, by decide +kernel⟩
theorem fs_X6_81 : Cond.fieldLink RX6 81 (xzc 1) (xzn 1) "[I" ∈ xT := xm 395 (by decide +kernel) (by decide +kernel)
theorem ks_X6_127 : xLS RX6 127 yJ_fmod cJ_fmod 3 (some .int) 2 := ⟨xm 397 (by decide +kernel) (by decide +kernel), xm 398 (by decide +kernel) (by decide +kernel), xm 47 (by decide +kernel) (by decide +kernel), xm 399 (by decide +kernel) (by decide +kernel), by decide +kernel, by decide +kernel, by decide +kernel⟩
theorem kv_X6_105 : xLV RX6 105 RX6 yX6_watchWay cX6_watchWay 2 none 0 := ⟨xm 400 (by decide +kernel) (by decide +kernel), xm 402 (by decide +kernel) (by decide +kernel), xm 5 (by decide +kernel) (by decide +kernel), xm 40 (by decide +kernel) (by decide +kernel), xm 403 (by decide +kernel) (by decide +kernel), rfl, by decide +kernel, by decide +kernel, by decide +kernel⟩
theorem kv_X6_130 : xLV RX6 130 RX6 yX6_logTurn cX6_logTurn 1 none 0 := ⟨xm 404 (by decide +kernel) (by decide +kernel), xm 406 (by decide +kernel) (by decide +kernel), xm 6 (by decide +kernel) (by decide +kernel), xm 40 (by decide +kernel) (by decide +kernel), xm 407 (by decide +kernel) (by decide +kernel), rfl, by decide +kernel, by decide +kernel, by decide +kernel⟩
theorem kn_X6_67 : xLN RX6 67 yX7_within "LeakCups" cX7_within 3 (some .boolean) 3 := ⟨List.mem_of_getElem? (i := 408) (by decide +kernel), xm 285 (by decide +kernel) (by decide +kernel), xm 38 (by decide +kernel) (by decide +kernel), xm 286 (by decide +kernel) (by decide +kernel), by decide +kernel, by decide +kernel, by decide +kernel⟩
theorem km_X6_133 : Cond.methodLink RX6 133 (⟨"java/lang/Math", "abs", "(I)I"⟩ : MethodName) ∈ xT := xm 409 (by decide +kernel) (by decide +kernel)
theorem kv_JLeakCupsLaw_47 : xLV "LeakCupsLaw" 47 RX7 yX7_now cX7_now 3 (some .int) 1 := ⟨xm 412 (by decide +kernel) (by decide +kernel), xm 413 (by decide +kernel) (by decide +kernel), xm 414 (by decide +kernel) (by decide +kernel), xm 38 (by decide +kernel) (by decide +kernel), xm 415 (by decide +kernel) (by decide +kernel), rfl, by decide +kernel, by decide +kernel, by decide +kernel⟩
theorem kv_X7_117 : xLV RX7 117 RX6 yX6_waterOfAll cX6_waterOfAll 3 (some .int) 0 := ⟨xm 416 (by decide +kernel) (by decide +kernel), xm 417 (by decide +kernel) (by decide +kernel), xm 418 (by decide +kernel) (by decide +kernel), xm 40 (by decide +kernel) (by decide +kernel), xm 419 (by decide +kernel) (by decide +kernel), rfl, by decide +kernel, by decide +kernel, by decide +kernel⟩
theorem kv_X7_130 : xLV RX7 130 RX6 yX6_topCup cX6_topCup 1 (some .int) 0 := ⟨xm 420 (by decide +kernel) (by decide +kernel), xm 374 (by decide +kernel) (by decide +kernel), xm 375 (by decide +kernel) (by decide +kernel), xm 40 (by decide +kernel) (by decide +kernel), xm 376 (by decide +kernel) (by decide +kernel), rfl, by decide +kernel, by decide +kernel, by decide +kernel⟩
theorem kv_JLeakCupsLaw_51 : xLV "LeakCupsLaw" 51 RX7 yX7_torque cX7_torque 1 (some .int) 0 := ⟨xm 421 (by decide +kernel) (by decide +kernel), xm 422 (by decide +kernel) (by decide +kernel), xm 423 (by decide +kernel) (by decide +kernel), xm 38 (by decide +kernel) (by decide +kernel), xm 424 (by decide +kernel) (by decide +kernel), rfl, by decide +kernel, by decide +kernel, by decide +kernel⟩
theorem kv_X7_133 : xLV RX7 133 RX6 yX6_pull cX6_pull 3 (some .int) 0 := ⟨xm 425 (by decide +kernel) (by decide +kernel), xm 392 (by decide +kernel) (by decide +kernel), xm 393 (by decide +kernel) (by decide +kernel), xm 40 (by decide +kernel) (by decide +kernel), xm 394 (by decide +kernel) (by decide +kernel), rfl, by decide +kernel, by decide +kernel, by decide +kernel⟩
theorem kv_JLeakCupsLaw_56 : xLV "LeakCupsLaw" 56 RX7 yX7_turn cX7_turn 3 (some .int) 2 := ⟨xm 426 (by decide +kernel) (by decide +kernel), xm 427 (by decide +kernel) (by decide +kernel), xm 428 (by decide +kernel) (by decide +kernel), xm 38 (by decide +kernel) (by decide +kernel), xm 429 (by decide +kernel) (by decide +kernel), rfl, by decide +kernel, by decide +kernel, by decide +kernel⟩
theorem kv_X7_136 : xLV RX7 136 RX6 yX6_logged cX6_logged 1 (some .int) 0 := ⟨xm 430 (by decide +kernel) (by decide +kernel), xm 431 (by decide +kernel) (by decide +kernel), xm 432 (by decide +kernel) (by decide +kernel), xm 40 (by decide +kernel) (by decide +kernel), xm 433 (by decide +kernel) (by decide +kernel), rfl, by decide +kernel, by decide +kernel, by decide +kernel⟩
theorem kv_JLeakCupsLaw_60 : xLV "LeakCupsLaw" 60 RX7 yX7_nextPeak cX7_nextPeak 6 (some .int) 1 := ⟨xm 434 (by decide +kernel) (by decide +kernel), xm 435 (by decide +kernel) (by decide +kernel), xm 436 (by decide +kernel) (by decide +kernel), xm 38 (by decide +kernel) (by decide +kernel), xm 437 (by decide +kernel) (by decide +kernel), rfl, by decide +kernel, by decide +kernel, by decide +kernel⟩
theorem kc_X7_145 : Jvm.Cond.constant RX7 145 (-1000004) ∈ xT := xm 438 (by decide +kernel) (by decide +kernel)
theorem km_X7_146 : Cond.methodLink RX7 146 (⟨"java/lang/Math", "abs", "(I)I"⟩ : MethodName) ∈ xT := xm 439 (by decide +kernel) (by decide +kernel)
theorem kv_JLeakCupsLaw_64 : xLV "LeakCupsLaw" 64 RX7 yX7_rising cX7_rising 4 (some .int) 0 := ⟨xm 440 (by decide +kernel) (by decide +kernel), xm 441 (by decide +kernel) (by decide +kernel), xm 442 (by decide +kernel) (by decide +kernel), xm 38 (by decide +kernel) (by decide +kernel), xm 443 (by decide +kernel) (by decide +kernel), rfl, by decide +kernel, by decide +kernel, by decide +kernel⟩
theorem kv_JLeakCupsLaw_68 : xLV "LeakCupsLaw" 68 RX7 yX7_quickest cX7_quickest 5 (some .int) 0 := ⟨xm 444 (by decide +kernel) (by decide +kernel), xm 445 (by decide +kernel) (by decide +kernel), xm 446 (by decide +kernel) (by decide +kernel), xm 38 (by decide +kernel) (by decide +kernel), xm 447 (by decide +kernel) (by decide +kernel), rfl, by decide +kernel, by decide +kernel, by decide +kernel⟩
theorem km_X7_151 : Cond.methodLink RX7 151 (⟨"java/lang/Math", "min", "(II)I"⟩ : MethodName) ∈ xT := xm 448 (by decide +kernel) (by decide +kernel)
theorem kv_JLeakCupsLaw_72 : xLV "LeakCupsLaw" 72 RX7 yX7_feed cX7_feed 4 (some .int) 2 := ⟨xm 449 (by decide +kernel) (by decide +kernel), xm 450 (by decide +kernel) (by decide +kernel), xm 451 (by decide +kernel) (by decide +kernel), xm 38 (by decide +kernel) (by decide +kernel), xm 452 (by decide +kernel) (by decide +kernel), rfl, by decide +kernel, by decide +kernel, by decide +kernel⟩
theorem kv_X7_160 : xLV RX7 160 RX4 yX4_append cX4_append 2 none 1 := ⟨xm 453 (by decide +kernel) (by decide +kernel), xm 454 (by decide +kernel) (by decide +kernel), xm 455 (by decide +kernel) (by decide +kernel), xm 43 (by decide +kernel) (by decide +kernel), xm 456 (by decide +kernel) (by decide +kernel), rfl, by decide +kernel, by decide +kernel, by decide +kernel⟩
theorem kn_X4_17 : xLN RX4 17 yX7_within "LeakCups" cX7_within 3 (some .boolean) 3 := ⟨List.mem_of_getElem? (i := 457) (by decide +kernel), xm 285 (by decide +kernel) (by decide +kernel), xm 38 (by decide +kernel) (by decide +kernel), xm 286 (by decide +kernel) (by decide +kernel), by decide +kernel, by decide +kernel, by decide +kernel⟩
theorem kv_JLeakCupsLaw_76 : xLV "LeakCupsLaw" 76 RX7 yX7_wipe cX7_wipe 2 (some .int) 0 := ⟨xm 458 (by decide +kernel) (by decide +kernel), xm 459 (by decide +kernel) (by decide +kernel), xm 460 (by decide +kernel) (by decide +kernel), xm 38 (by decide +kernel) (by decide +kernel), xm 461 (by decide +kernel) (by decide +kernel), rfl, by decide +kernel, by decide +kernel, by decide +kernel⟩
theorem kv_JLeakCupsLaw_80 : xLV "LeakCupsLaw" 80 RX7 yX7_program cX7_program 2 (some .int) 0 := ⟨xm 462 (by decide +kernel) (by decide +kernel), xm 463 (by decide +kernel) (by decide +kernel), xm 464 (by decide +kernel) (by decide +kernel), xm 38 (by decide +kernel) (by decide +kernel), xm 465 (by decide +kernel) (by decide +kernel), rfl, by decide +kernel, by decide +kernel, by decide +kernel⟩
theorem kv_X7_170 : xLV RX7 170 RX5 yX5_read cX5_read 3 (some .int) 1 := ⟨xm 466 (by decide +kernel) (by decide +kernel), xm 467 (by decide +kernel) (by decide +kernel), xm 468 (by decide +kernel) (by decide +kernel), xm 42 (by decide +kernel) (by decide +kernel), xm 469 (by decide +kernel) (by decide +kernel), rfl, by decide +kernel, by decide +kernel, by decide +kernel⟩
theorem kv_X5_27 : xLV RX5 27 RX5 yX5_next cX5_next 1 none 0 := ⟨xm 470 (by decide +kernel) (by decide +kernel), xm 472 (by decide +kernel) (by decide +kernel), xm 7 (by decide +kernel) (by decide +kernel), xm 42 (by decide +kernel) (by decide +kernel), xm 473 (by decide +kernel) (by decide +kernel), rfl, by decide +kernel, by decide +kernel, by decide +kernel⟩
theorem kv_X5_56 : xLV RX5 56 RX4 yX4_byteAt cX4_byteAt 2 (some .int) 1 := ⟨xm 474 (by decide +kernel) (by decide +kernel), xm 475 (by decide +kernel) (by decide +kernel), xm 476 (by decide +kernel) (by decide +kernel), xm 43 (by decide +kernel) (by decide +kernel), xm 477 (by decide +kernel) (by decide +kernel), rfl, by decide +kernel, by decide +kernel, by decide +kernel⟩
theorem kv_X5_60 : xLV RX5 60 RX4 yX4_isLetter cX4_isLetter 2 (some .boolean) 1 := ⟨xm 478 (by decide +kernel) (by decide +kernel), xm 479 (by decide +kernel) (by decide +kernel), xm 480 (by decide +kernel) (by decide +kernel), xm 43 (by decide +kernel) (by decide +kernel), xm 481 (by decide +kernel) (by decide +kernel), rfl, by decide +kernel, by decide +kernel, by decide +kernel⟩
theorem kv_X4_23 : xLV RX4 23 RX4 yX4_byteAt cX4_byteAt 2 (some .int) 1 := ⟨xm 482 (by decide +kernel) (by decide +kernel), xm 475 (by decide +kernel) (by decide +kernel), xm 476 (by decide +kernel) (by decide +kernel), xm 43 (by decide +kernel) (by decide +kernel), xm 477 (by decide +kernel) (by decide +kernel), rfl, by decide +kernel, by decide +kernel, by decide +kernel⟩
theorem kv_X5_64 : xLV RX5 64 RX5 yX5_readWord cX5_readWord 2 none 0 := ⟨xm 483 (by decide +kernel) (by decide +kernel), xm 485 (by decide +kernel) (by decide +kernel), xm 8 (by decide +kernel) (by decide +kernel), xm 42 (by decide +kernel) (by decide +kernel), xm 486 (by decide +kernel) (by decide +kernel), rfl, by decide +kernel, by decide +kernel, by decide +kernel⟩
theorem ks_X5_76 : xLS RX5 76 yX0_wordOf cX0_wordOf 1 (some (.object "java/lang/String")) 1 := ⟨xm 487 (by decide +kernel) (by decide +kernel), xm 488 (by decide +kernel) (by decide +kernel), xm 41 (by decide +kernel) (by decide +kernel), xm 489 (by decide +kernel) (by decide +kernel), by decide +kernel, by decide +kernel, by decide +kernel⟩
theorem kv_X5_80 : xLV RX5 80 RX4 yX4_isWordAt cX4_isWordAt 5 (some .boolean) 3 := ⟨xm 503 (by decide +kernel) (by decide +kernel), xm 504 (by decide +kernel) (by decide +kernel), xm 505 (by decide +kernel) (by decide +kernel), xm 43 (by decide +kernel) (by decide +kernel), xm 506 (by decide +kernel) (by decide +kernel), rfl, by decide +kernel, by decide +kernel, by decide +kernel⟩
theorem kv_X4_27 : xLV RX4 27 "java/lang/String" yJ_Slen cJ_Slen 1 (some .int) 0 := ⟨xm 507 (by decide +kernel) (by decide +kernel), xm 508 (by decide +kernel) (by decide +kernel), xm 509 (by decide +kernel) (by decide +kernel), xm 49 (by decide +kernel) (by decide +kernel), xm 510 (by decide +kernel) (by decide +kernel), rfl, by decide +kernel, by decide +kernel, by decide +kernel⟩
theorem kv_JString_335 : xLV "java/lang/String" 335 "java/lang/String" yJ_Scod cJ_Scod 1 (some .byte) 0 := ⟨xm 511 (by decide +kernel) (by decide +kernel), xm 512 (by decide +kernel) (by decide +kernel), xm 513 (by decide +kernel) (by decide +kernel), xm 49 (by decide +kernel) (by decide +kernel), xm 514 (by decide +kernel) (by decide +kernel), rfl, by decide +kernel, by decide +kernel, by decide +kernel⟩
theorem fj_JString_38 : Cond.fieldLink "java/lang/String" 38 "java/lang/String" "COMPACT_STRINGS" "Z" ∈ xT := xm 515 (by decide +kernel) (by decide +kernel)
theorem kv_X4_33 : xLV RX4 33 "java/lang/String" yJ_Sch cJ_Sch 2 (some .char) 1 := ⟨xm 517 (by decide +kernel) (by decide +kernel), xm 518 (by decide +kernel) (by decide +kernel), xm 519 (by decide +kernel) (by decide +kernel), xm 49 (by decide +kernel) (by decide +kernel), xm 520 (by decide +kernel) (by decide +kernel), rfl, by decide +kernel, by decide +kernel, by decide +kernel⟩
theorem kv_JString_492 : xLV "java/lang/String" 492 "java/lang/String" yJ_Slat cJ_Slat 1 (some .boolean) 0 := ⟨xm 521 (by decide +kernel) (by decide +kernel), xm 522 (by decide +kernel) (by decide +kernel), xm 523 (by decide +kernel) (by decide +kernel), xm 49 (by decide +kernel) (by decide +kernel), xm 524 (by decide +kernel) (by decide +kernel), rfl, by decide +kernel, by decide +kernel, by decide +kernel⟩
theorem ks_JString_495 : xLS "java/lang/String" 495 yJ_Lch cJ_Lch 2 (some .char) 2 := ⟨xm 525 (by decide +kernel) (by decide +kernel), xm 526 (by decide +kernel) (by decide +kernel), xm 50 (by decide +kernel) (by decide +kernel), xm 527 (by decide +kernel) (by decide +kernel), by decide +kernel, by decide +kernel, by decide +kernel⟩
theorem ks_JStringLatin1_9 : xLS "java/lang/StringLatin1" 9 yJ_Schk cJ_Schk 2 none 2 := ⟨xm 528 (by decide +kernel) (by decide +kernel), xm 529 (by decide +kernel) (by decide +kernel), xm 49 (by decide +kernel) (by decide +kernel), xm 530 (by decide +kernel) (by decide +kernel), by decide +kernel, by decide +kernel, by decide +kernel⟩
theorem fj_JString_1053 : Cond.fieldLink "java/lang/String" 1053 "jdk/internal/util/Preconditions" "SIOOBE_FORMATTER" "Ljava/util/function/BiFunction;" ∈ xT := xm 531 (by decide +kernel) (by decide +kernel)
theorem ks_JString_1059 : xLS "java/lang/String" 1059 yJ_Pchk cJ_Pchk 3 (some .int) 3 := ⟨xm 533 (by decide +kernel) (by decide +kernel), xm 534 (by decide +kernel) (by decide +kernel), xm 51 (by decide +kernel) (by decide +kernel), xm 535 (by decide +kernel) (by decide +kernel), by decide +kernel, by decide +kernel, by decide +kernel⟩
theorem ks_JStringUTF16_414 : xLS "java/lang/StringUTF16" 414 yJ_Schk cJ_Schk 2 none 2 := ⟨xm 545 (by decide +kernel) (by decide +kernel), xm 529 (by decide +kernel) (by decide +kernel), xm 49 (by decide +kernel) (by decide +kernel), xm 530 (by decide +kernel) (by decide +kernel), by decide +kernel, by decide +kernel, by decide +kernel⟩
theorem fj_JStringUTF16_44 : Cond.fieldLink "java/lang/StringUTF16" 44 "java/lang/StringUTF16" "$assertionsDisabled" "Z" ∈ xT := xm 549 (by decide +kernel) (by decide +kernel)
theorem fj_JStringUTF16_59 : Cond.fieldLink "java/lang/StringUTF16" 59 "java/lang/StringUTF16" "HI_BYTE_SHIFT" "I" ∈ xT := xm 551 (by decide +kernel) (by decide +kernel)
theorem fj_JStringUTF16_63 : Cond.fieldLink "java/lang/StringUTF16" 63 "java/lang/StringUTF16" "LO_BYTE_SHIFT" "I" ∈ xT := xm 553 (by decide +kernel) (by decide +kernel)
theorem kv_X5_67 : xLV RX5 67 RX4 yX4_isDigit cX4_isDigit 2 (some .boolean) 1 := ⟨xm 555 (by decide +kernel) (by decide +kernel), xm 556 (by decide +kernel) (by decide +kernel), xm 557 (by decide +kernel) (by decide +kernel), xm 43 (by decide +kernel) (by decide +kernel), xm 558 (by decide +kernel) (by decide +kernel), rfl, by decide +kernel, by decide +kernel, by decide +kernel⟩
theorem kv_X5_70 : xLV RX5 70 RX5 yX5_readNumber cX5_readNumber 1 none 0 := ⟨xm 559 (by decide +kernel) (by decide +kernel), xm 561 (by decide +kernel) (by decide +kernel), xm 9 (by decide +kernel) (by decide +kernel), xm 42 (by decide +kernel) (by decide +kernel), xm 562 (by decide +kernel) (by decide +kernel), rfl, by decide +kernel, by decide +kernel, by decide +kernel⟩
theorem km_X5_84 : Cond.methodLink RX5 84 (⟨"java/lang/Math", "min", "(II)I"⟩ : MethodName) ∈ xT := xm 563 (by decide +kernel) (by decide +kernel)
theorem kv_X5_73 : xLV RX5 73 RX5 yX5_readSign cX5_readSign 1 none 0 := ⟨xm 564 (by decide +kernel) (by decide +kernel), xm 566 (by decide +kernel) (by decide +kernel), xm 10 (by decide +kernel) (by decide +kernel), xm 42 (by decide +kernel) (by decide +kernel), xm 567 (by decide +kernel) (by decide +kernel), rfl, by decide +kernel, by decide +kernel, by decide +kernel⟩
theorem kv_X5_30 : xLV RX5 30 RX5 yX5_readDeed cX5_readDeed 4 (some .boolean) 1 := ⟨xm 568 (by decide +kernel) (by decide +kernel), xm 570 (by decide +kernel) (by decide +kernel), xm 11 (by decide +kernel) (by decide +kernel), xm 42 (by decide +kernel) (by decide +kernel), xm 571 (by decide +kernel) (by decide +kernel), rfl, by decide +kernel, by decide +kernel, by decide +kernel⟩
theorem kv_X5_38 : xLV RX5 38 RX5 yX5_isSign cX5_isSign 2 (some .boolean) 1 := ⟨xm 572 (by decide +kernel) (by decide +kernel), xm 574 (by decide +kernel) (by decide +kernel), xm 12 (by decide +kernel) (by decide +kernel), xm 42 (by decide +kernel) (by decide +kernel), xm 575 (by decide +kernel) (by decide +kernel), rfl, by decide +kernel, by decide +kernel, by decide +kernel⟩
theorem ks_X5_48 : xLS RX5 48 yX0_takes cX0_takes 2 (some .boolean) 2 := ⟨xm 576 (by decide +kernel) (by decide +kernel), xm 577 (by decide +kernel) (by decide +kernel), xm 41 (by decide +kernel) (by decide +kernel), xm 578 (by decide +kernel) (by decide +kernel), by decide +kernel, by decide +kernel, by decide +kernel⟩
theorem fs_X0_47 : Cond.fieldLink RX0 47 (xzc 2) (xzn 2) "[I" ∈ xT := xm 579 (by decide +kernel) (by decide +kernel)
theorem fs_X0_50 : Cond.fieldLink RX0 50 (xzc 3) (xzn 3) "[I" ∈ xT := xm 581 (by decide +kernel) (by decide +kernel)
theorem kn_X0_28 : xLN RX0 28 yX7_within "LeakCups" cX7_within 3 (some .boolean) 3 := ⟨List.mem_of_getElem? (i := 583) (by decide +kernel), xm 285 (by decide +kernel) (by decide +kernel), xm 38 (by decide +kernel) (by decide +kernel), xm 286 (by decide +kernel) (by decide +kernel), by decide +kernel, by decide +kernel, by decide +kernel⟩
theorem kv_X5_52 : xLV RX5 52 RX0 yX0_add cX0_add 3 none 2 := ⟨xm 584 (by decide +kernel) (by decide +kernel), xm 585 (by decide +kernel) (by decide +kernel), xm 586 (by decide +kernel) (by decide +kernel), xm 41 (by decide +kernel) (by decide +kernel), xm 587 (by decide +kernel) (by decide +kernel), rfl, by decide +kernel, by decide +kernel, by decide +kernel⟩
theorem kv_JLeakCupsLaw_84 : xLV "LeakCupsLaw" 84 RX7 yX7_programOf cX7_programOf 3 (some .int) 2 := ⟨xm 589 (by decide +kernel) (by decide +kernel), xm 590 (by decide +kernel) (by decide +kernel), xm 591 (by decide +kernel) (by decide +kernel), xm 38 (by decide +kernel) (by decide +kernel), xm 592 (by decide +kernel) (by decide +kernel), rfl, by decide +kernel, by decide +kernel, by decide +kernel⟩
theorem kv_X7_174 : xLV RX7 174 RX7 yX7_isProgram cX7_isProgram 2 (some .boolean) 1 := ⟨xm 593 (by decide +kernel) (by decide +kernel), xm 595 (by decide +kernel) (by decide +kernel), xm 13 (by decide +kernel) (by decide +kernel), xm 38 (by decide +kernel) (by decide +kernel), xm 596 (by decide +kernel) (by decide +kernel), rfl, by decide +kernel, by decide +kernel, by decide +kernel⟩
theorem kv_X7_180 : xLV RX7 180 RX0 yX0_ticksOfAll cX0_ticksOfAll 3 (some .int) 0 := ⟨xm 597 (by decide +kernel) (by decide +kernel), xm 598 (by decide +kernel) (by decide +kernel), xm 599 (by decide +kernel) (by decide +kernel), xm 41 (by decide +kernel) (by decide +kernel), xm 600 (by decide +kernel) (by decide +kernel), rfl, by decide +kernel, by decide +kernel, by decide +kernel⟩
theorem kv_JLeakCupsLaw_88 : xLV "LeakCupsLaw" 88 RX7 yX7_play cX7_play 4 (some .int) 1 := ⟨xm 601 (by decide +kernel) (by decide +kernel), xm 602 (by decide +kernel) (by decide +kernel), xm 603 (by decide +kernel) (by decide +kernel), xm 38 (by decide +kernel) (by decide +kernel), xm 604 (by decide +kernel) (by decide +kernel), rfl, by decide +kernel, by decide +kernel, by decide +kernel⟩
theorem kv_X7_183 : xLV RX7 183 RX0 yX0_doDeed cX0_doDeed 5 none 2 := ⟨xm 605 (by decide +kernel) (by decide +kernel), xm 606 (by decide +kernel) (by decide +kernel), xm 607 (by decide +kernel) (by decide +kernel), xm 41 (by decide +kernel) (by decide +kernel), xm 608 (by decide +kernel) (by decide +kernel), rfl, by decide +kernel, by decide +kernel, by decide +kernel⟩
theorem kv_X0_40 : xLV RX0 40 RX6 yX6_nudge cX6_nudge 2 none 1 := ⟨xm 609 (by decide +kernel) (by decide +kernel), xm 344 (by decide +kernel) (by decide +kernel), xm 345 (by decide +kernel) (by decide +kernel), xm 40 (by decide +kernel) (by decide +kernel), xm 346 (by decide +kernel) (by decide +kernel), rfl, by decide +kernel, by decide +kernel, by decide +kernel⟩
theorem kv_X0_44 : xLV RX0 44 RX6 yX6_steps cX6_steps 3 none 1 := ⟨xm 610 (by decide +kernel) (by decide +kernel), xm 362 (by decide +kernel) (by decide +kernel), xm 363 (by decide +kernel) (by decide +kernel), xm 40 (by decide +kernel) (by decide +kernel), xm 364 (by decide +kernel) (by decide +kernel), rfl, by decide +kernel, by decide +kernel, by decide +kernel⟩
theorem kv_JLeakCupsLaw_92 : xLV "LeakCupsLaw" 92 RX7 yX7_ahead cX7_ahead 3 (some .int) 2 := ⟨xm 611 (by decide +kernel) (by decide +kernel), xm 612 (by decide +kernel) (by decide +kernel), xm 613 (by decide +kernel) (by decide +kernel), xm 38 (by decide +kernel) (by decide +kernel), xm 614 (by decide +kernel) (by decide +kernel), rfl, by decide +kernel, by decide +kernel, by decide +kernel⟩
theorem ks_X7_187 : xLS RX7 187 yX7_isAhead cX7_isAhead 1 (some .boolean) 1 := ⟨xm 615 (by decide +kernel) (by decide +kernel), xm 616 (by decide +kernel) (by decide +kernel), xm 38 (by decide +kernel) (by decide +kernel), xm 617 (by decide +kernel) (by decide +kernel), by decide +kernel, by decide +kernel, by decide +kernel⟩
theorem kv_X7_190 : xLV RX7 190 RX6 yX6_become cX6_become 2 none 1 := ⟨xm 618 (by decide +kernel) (by decide +kernel), xm 619 (by decide +kernel) (by decide +kernel), xm 620 (by decide +kernel) (by decide +kernel), xm 40 (by decide +kernel) (by decide +kernel), xm 621 (by decide +kernel) (by decide +kernel), rfl, by decide +kernel, by decide +kernel, by decide +kernel⟩
theorem km_X6_27 : Cond.methodLink RX6 27 arraycopyName ∈ xT := xm 622 (by decide +kernel) (by decide +kernel)
theorem kv_JLeakCupsLaw_96 : xLV "LeakCupsLaw" 96 RX7 yX7_apart cX7_apart 3 (some .int) 2 := ⟨xm 625 (by decide +kernel) (by decide +kernel), xm 626 (by decide +kernel) (by decide +kernel), xm 627 (by decide +kernel) (by decide +kernel), xm 38 (by decide +kernel) (by decide +kernel), xm 628 (by decide +kernel) (by decide +kernel), rfl, by decide +kernel, by decide +kernel, by decide +kernel⟩
theorem kv_X7_197 : xLV RX7 197 RX7 yX7_beginTwoRuns cX7_beginTwoRuns 2 none 1 := ⟨xm 629 (by decide +kernel) (by decide +kernel), xm 631 (by decide +kernel) (by decide +kernel), xm 14 (by decide +kernel) (by decide +kernel), xm 38 (by decide +kernel) (by decide +kernel), xm 632 (by decide +kernel) (by decide +kernel), rfl, by decide +kernel, by decide +kernel, by decide +kernel⟩
theorem kv_X7_200 : xLV RX7 200 RX7 yX7_differenceOfRuns cX7_differenceOfRuns 1 (some .int) 0 := ⟨xm 633 (by decide +kernel) (by decide +kernel), xm 635 (by decide +kernel) (by decide +kernel), xm 15 (by decide +kernel) (by decide +kernel), xm 38 (by decide +kernel) (by decide +kernel), xm 636 (by decide +kernel) (by decide +kernel), rfl, by decide +kernel, by decide +kernel, by decide +kernel⟩
theorem kv_JLeakCupsLaw_100 : xLV "LeakCupsLaw" 100 RX7 yX7_parts cX7_parts 4 (some .int) 2 := ⟨xm 637 (by decide +kernel) (by decide +kernel), xm 638 (by decide +kernel) (by decide +kernel), xm 639 (by decide +kernel) (by decide +kernel), xm 38 (by decide +kernel) (by decide +kernel), xm 640 (by decide +kernel) (by decide +kernel), rfl, by decide +kernel, by decide +kernel, by decide +kernel⟩
theorem kv_X7_203 : xLV RX7 203 RX6 yX6_step cX6_step 2 none 0 := ⟨xm 641 (by decide +kernel) (by decide +kernel), xm 366 (by decide +kernel) (by decide +kernel), xm 367 (by decide +kernel) (by decide +kernel), xm 40 (by decide +kernel) (by decide +kernel), xm 368 (by decide +kernel) (by decide +kernel), rfl, by decide +kernel, by decide +kernel, by decide +kernel⟩
theorem kv_JLeakCupsLaw_104 : xLV "LeakCupsLaw" 104 RX7 yX7_going cX7_going 2 (some .int) 1 := ⟨xm 642 (by decide +kernel) (by decide +kernel), xm 643 (by decide +kernel) (by decide +kernel), xm 644 (by decide +kernel) (by decide +kernel), xm 38 (by decide +kernel) (by decide +kernel), xm 645 (by decide +kernel) (by decide +kernel), rfl, by decide +kernel, by decide +kernel, by decide +kernel⟩
theorem ks_X7_206 : xLS RX7 206 yX7_isLongRun cX7_isLongRun 1 (some .boolean) 1 := ⟨xm 646 (by decide +kernel) (by decide +kernel), xm 647 (by decide +kernel) (by decide +kernel), xm 38 (by decide +kernel) (by decide +kernel), xm 648 (by decide +kernel) (by decide +kernel), by decide +kernel, by decide +kernel, by decide +kernel⟩
theorem kv_X7_209 : xLV RX7 209 RX6 yX6_goes cX6_goes 7 (some .int) 1 := ⟨xm 649 (by decide +kernel) (by decide +kernel), xm 650 (by decide +kernel) (by decide +kernel), xm 651 (by decide +kernel) (by decide +kernel), xm 40 (by decide +kernel) (by decide +kernel), xm 652 (by decide +kernel) (by decide +kernel), rfl, by decide +kernel, by decide +kernel, by decide +kernel⟩
theorem kv_X6_108 : xLV RX6 108 RX6 yX6_steps cX6_steps 3 none 1 := ⟨xm 653 (by decide +kernel) (by decide +kernel), xm 362 (by decide +kernel) (by decide +kernel), xm 363 (by decide +kernel) (by decide +kernel), xm 40 (by decide +kernel) (by decide +kernel), xm 364 (by decide +kernel) (by decide +kernel), rfl, by decide +kernel, by decide +kernel, by decide +kernel⟩
theorem kv_JLeakCupsLaw_108 : xLV "LeakCupsLaw" 108 RX7 yX7_tapFor cX7_tapFor 4 (some .int) 2 := ⟨xm 654 (by decide +kernel) (by decide +kernel), xm 655 (by decide +kernel) (by decide +kernel), xm 656 (by decide +kernel) (by decide +kernel), xm 38 (by decide +kernel) (by decide +kernel), xm 657 (by decide +kernel) (by decide +kernel), rfl, by decide +kernel, by decide +kernel, by decide +kernel⟩
theorem kv_JLeakCupsLaw_112 : xLV "LeakCupsLaw" 112 RX7 yX7_bounds cX7_bounds 6 (some .int) 2 := ⟨xm 658 (by decide +kernel) (by decide +kernel), xm 659 (by decide +kernel) (by decide +kernel), xm 660 (by decide +kernel) (by decide +kernel), xm 38 (by decide +kernel) (by decide +kernel), xm 661 (by decide +kernel) (by decide +kernel), rfl, by decide +kernel, by decide +kernel, by decide +kernel⟩
theorem km_X7_212 : Cond.methodLink RX7 212 (⟨"java/lang/Math", "max", "(II)I"⟩ : MethodName) ∈ xT := xm 662 (by decide +kernel) (by decide +kernel)
theorem kv_JLeakCupsLaw_116 : xLV "LeakCupsLaw" 116 RX7 yX7_often cX7_often 4 (some .int) 1 := ⟨xm 663 (by decide +kernel) (by decide +kernel), xm 664 (by decide +kernel) (by decide +kernel), xm 665 (by decide +kernel) (by decide +kernel), xm 38 (by decide +kernel) (by decide +kernel), xm 666 (by decide +kernel) (by decide +kernel), rfl, by decide +kernel, by decide +kernel, by decide +kernel⟩
theorem kv_JLeakCupsLaw_120 : xLV "LeakCupsLaw" 120 RX7 yX7_holds cX7_holds 3 (some .int) 1 := ⟨xm 667 (by decide +kernel) (by decide +kernel), xm 668 (by decide +kernel) (by decide +kernel), xm 669 (by decide +kernel) (by decide +kernel), xm 38 (by decide +kernel) (by decide +kernel), xm 670 (by decide +kernel) (by decide +kernel), rfl, by decide +kernel, by decide +kernel, by decide +kernel⟩
theorem kv_X7_215 : xLV RX7 215 RX7 yX7_isHeldBy cX7_isHeldBy 4 (some .boolean) 2 := ⟨xm 671 (by decide +kernel) (by decide +kernel), xm 673 (by decide +kernel) (by decide +kernel), xm 16 (by decide +kernel) (by decide +kernel), xm 38 (by decide +kernel) (by decide +kernel), xm 674 (by decide +kernel) (by decide +kernel), rfl, by decide +kernel, by decide +kernel, by decide +kernel⟩
theorem kv_JLeakCupsLaw_124 : xLV "LeakCupsLaw" 124 RX7 yX7_chance cX7_chance 5 (some .int) 2 := ⟨xm 675 (by decide +kernel) (by decide +kernel), xm 676 (by decide +kernel) (by decide +kernel), xm 677 (by decide +kernel) (by decide +kernel), xm 38 (by decide +kernel) (by decide +kernel), xm 678 (by decide +kernel) (by decide +kernel), rfl, by decide +kernel, by decide +kernel, by decide +kernel⟩
theorem kv_X7_219 : xLV RX7 219 RX3 yX3_draw cX3_draw 1 (some .int) 0 := ⟨xm 679 (by decide +kernel) (by decide +kernel), xm 680 (by decide +kernel) (by decide +kernel), xm 681 (by decide +kernel) (by decide +kernel), xm 39 (by decide +kernel) (by decide +kernel), xm 682 (by decide +kernel) (by decide +kernel), rfl, by decide +kernel, by decide +kernel, by decide +kernel⟩
theorem kc_X3_49 : Jvm.Cond.constant RX3 49 (1103515245) ∈ xT := xm 683 (by decide +kernel) (by decide +kernel)
theorem kv_JLeakCupsLaw_128 : xLV "LeakCupsLaw" 128 RX7 yX7_brief cX7_brief 6 (some .int) 4 := ⟨xm 684 (by decide +kernel) (by decide +kernel), xm 685 (by decide +kernel) (by decide +kernel), xm 686 (by decide +kernel) (by decide +kernel), xm 38 (by decide +kernel) (by decide +kernel), xm 687 (by decide +kernel) (by decide +kernel), rfl, by decide +kernel, by decide +kernel, by decide +kernel⟩
theorem ks_X7_222 : xLS RX7 222 yX7_isRuleBegin cX7_isRuleBegin 3 (some .boolean) 3 := ⟨xm 688 (by decide +kernel) (by decide +kernel), xm 689 (by decide +kernel) (by decide +kernel), xm 38 (by decide +kernel) (by decide +kernel), xm 690 (by decide +kernel) (by decide +kernel), by decide +kernel, by decide +kernel, by decide +kernel⟩
theorem kv_X7_225 : xLV RX7 225 RX2 yX2_begin cX2_begin 3 none 2 := ⟨xm 691 (by decide +kernel) (by decide +kernel), xm 692 (by decide +kernel) (by decide +kernel), xm 693 (by decide +kernel) (by decide +kernel), xm 44 (by decide +kernel) (by decide +kernel), xm 694 (by decide +kernel) (by decide +kernel), rfl, by decide +kernel, by decide +kernel, by decide +kernel⟩
theorem kv_X7_229 : xLV RX7 229 RX2 yX2_apply cX2_apply 7 none 0 := ⟨xm 695 (by decide +kernel) (by decide +kernel), xm 696 (by decide +kernel) (by decide +kernel), xm 697 (by decide +kernel) (by decide +kernel), xm 44 (by decide +kernel) (by decide +kernel), xm 698 (by decide +kernel) (by decide +kernel), rfl, by decide +kernel, by decide +kernel, by decide +kernel⟩
theorem kc_X2_19 : Jvm.Cond.constantLong RX2 19 (10) ∈ xT := xm 699 (by decide +kernel) (by decide +kernel)
theorem kc_X2_21 : Jvm.Cond.constantLong RX2 21 (2800) ∈ xT := xm 700 (by decide +kernel) (by decide +kernel)
theorem kc_X2_23 : Jvm.Cond.constantLong RX2 23 (100) ∈ xT := xm 701 (by decide +kernel) (by decide +kernel)
theorem kc_X2_25 : Jvm.Cond.constantLong RX2 25 (8) ∈ xT := xm 702 (by decide +kernel) (by decide +kernel)
theorem kc_X2_27 : Jvm.Cond.constantLong RX2 27 (3) ∈ xT := xm 703 (by decide +kernel) (by decide +kernel)
theorem ks_X2_29 : xLS RX2 29 yX2_held cX2_held 2 (some .long) 1 := ⟨xm 704 (by decide +kernel) (by decide +kernel), xm 705 (by decide +kernel) (by decide +kernel), xm 44 (by decide +kernel) (by decide +kernel), xm 706 (by decide +kernel) (by decide +kernel), by decide +kernel, by decide +kernel, by decide +kernel⟩
theorem kc_X2_33 : Jvm.Cond.constantLong RX2 33 (-99999) ∈ xT := xm 707 (by decide +kernel) (by decide +kernel)
theorem kc_X2_35 : Jvm.Cond.constantLong RX2 35 (99999) ∈ xT := xm 708 (by decide +kernel) (by decide +kernel)
theorem km_X2_37 : Cond.methodLink RX2 37 (⟨"java/lang/Math", "min", "(JJ)J"⟩ : MethodName) ∈ xT := xm 709 (by decide +kernel) (by decide +kernel)
theorem km_X2_43 : Cond.methodLink RX2 43 (⟨"java/lang/Math", "max", "(JJ)J"⟩ : MethodName) ∈ xT := xm 712 (by decide +kernel) (by decide +kernel)
theorem kv_JLeakCupsLaw_133 : xLV "LeakCupsLaw" 133 RX7 yX7_flips cX7_flips 8 (some .int) 3 := ⟨xm 715 (by decide +kernel) (by decide +kernel), xm 716 (by decide +kernel) (by decide +kernel), xm 717 (by decide +kernel) (by decide +kernel), xm 38 (by decide +kernel) (by decide +kernel), xm 718 (by decide +kernel) (by decide +kernel), rfl, by decide +kernel, by decide +kernel, by decide +kernel⟩
theorem ks_X7_242 : xLS RX7 242 yJ_Lcmp cJ_Lcmp 4 (some .int) 2 := ⟨xm 719 (by decide +kernel) (by decide +kernel), xm 720 (by decide +kernel) (by decide +kernel), xm 54 (by decide +kernel) (by decide +kernel), xm 721 (by decide +kernel) (by decide +kernel), by decide +kernel, by decide +kernel, by decide +kernel⟩
theorem kv_JLeakCupsLaw_138 : xLV "LeakCupsLaw" 138 RX7 yX7_seed cX7_seed 3 (some .int) 1 := ⟨xm 722 (by decide +kernel) (by decide +kernel), xm 723 (by decide +kernel) (by decide +kernel), xm 724 (by decide +kernel) (by decide +kernel), xm 38 (by decide +kernel) (by decide +kernel), xm 725 (by decide +kernel) (by decide +kernel), rfl, by decide +kernel, by decide +kernel, by decide +kernel⟩
theorem kv_JLeakCupsLaw_142 : xLV "LeakCupsLaw" 142 RX7 yX7_hold cX7_hold 3 (some .int) 2 := ⟨xm 726 (by decide +kernel) (by decide +kernel), xm 727 (by decide +kernel) (by decide +kernel), xm 728 (by decide +kernel) (by decide +kernel), xm 38 (by decide +kernel) (by decide +kernel), xm 729 (by decide +kernel) (by decide +kernel), rfl, by decide +kernel, by decide +kernel, by decide +kernel⟩
theorem ks_X7_250 : xLS RX7 250 yX7_isSpot cX7_isSpot 1 (some .boolean) 1 := ⟨xm 730 (by decide +kernel) (by decide +kernel), xm 731 (by decide +kernel) (by decide +kernel), xm 38 (by decide +kernel) (by decide +kernel), xm 732 (by decide +kernel) (by decide +kernel), by decide +kernel, by decide +kernel, by decide +kernel⟩
theorem kv_JLeakCupsLaw_146 : xLV "LeakCupsLaw" 146 RX7 yX7_as cX7_as 4 (some .int) 2 := ⟨xm 733 (by decide +kernel) (by decide +kernel), xm 734 (by decide +kernel) (by decide +kernel), xm 735 (by decide +kernel) (by decide +kernel), xm 38 (by decide +kernel) (by decide +kernel), xm 736 (by decide +kernel) (by decide +kernel), rfl, by decide +kernel, by decide +kernel, by decide +kernel⟩
theorem kc_X7_256 : Jvm.Cond.constant RX7 256 (-1000006) ∈ xT := xm 737 (by decide +kernel) (by decide +kernel)
theorem kv_X7_257 : xLV RX7 257 RX6 yX6_isOf cX6_isOf 5 (some .boolean) 2 := ⟨xm 738 (by decide +kernel) (by decide +kernel), xm 739 (by decide +kernel) (by decide +kernel), xm 740 (by decide +kernel) (by decide +kernel), xm 40 (by decide +kernel) (by decide +kernel), xm 741 (by decide +kernel) (by decide +kernel), rfl, by decide +kernel, by decide +kernel, by decide +kernel⟩
theorem fs_X6_71 : Cond.fieldLink RX6 71 (xzc 4) (xzn 4) "[I" ∈ xT := xm 742 (by decide +kernel) (by decide +kernel)
theorem kc_X7_260 : Jvm.Cond.constant RX7 260 (-1000003) ∈ xT := xm 744 (by decide +kernel) (by decide +kernel)
theorem kv_JLeakCupsLaw_150 : xLV "LeakCupsLaw" 150 RX7 yX7_sheet cX7_sheet 5 (some .int) 3 := ⟨xm 745 (by decide +kernel) (by decide +kernel), xm 746 (by decide +kernel) (by decide +kernel), xm 747 (by decide +kernel) (by decide +kernel), xm 38 (by decide +kernel) (by decide +kernel), xm 748 (by decide +kernel) (by decide +kernel), rfl, by decide +kernel, by decide +kernel, by decide +kernel⟩
theorem ks_X7_261 : xLS RX7 261 yX7_isSheet cX7_isSheet 1 (some .boolean) 1 := ⟨xm 749 (by decide +kernel) (by decide +kernel), xm 750 (by decide +kernel) (by decide +kernel), xm 38 (by decide +kernel) (by decide +kernel), xm 751 (by decide +kernel) (by decide +kernel), by decide +kernel, by decide +kernel, by decide +kernel⟩
theorem kc_X7_264 : Jvm.Cond.constant RX7 264 (-1000007) ∈ xT := xm 752 (by decide +kernel) (by decide +kernel)
theorem kv_X7_265 : xLV RX7 265 RX1 yX1_begin cX1_begin 4 none 2 := ⟨xm 753 (by decide +kernel) (by decide +kernel), xm 754 (by decide +kernel) (by decide +kernel), xm 755 (by decide +kernel) (by decide +kernel), xm 45 (by decide +kernel) (by decide +kernel), xm 756 (by decide +kernel) (by decide +kernel), rfl, by decide +kernel, by decide +kernel, by decide +kernel⟩
theorem kv_JLeakCupsLaw_154 : xLV "LeakCupsLaw" 154 RX7 yX7_write cX7_write 4 (some .int) 3 := ⟨xm 757 (by decide +kernel) (by decide +kernel), xm 758 (by decide +kernel) (by decide +kernel), xm 759 (by decide +kernel) (by decide +kernel), xm 38 (by decide +kernel) (by decide +kernel), xm 760 (by decide +kernel) (by decide +kernel), rfl, by decide +kernel, by decide +kernel, by decide +kernel⟩
theorem kv_X7_266 : xLV RX7 266 RX1 yX1_isMissing cX1_isMissing 1 (some .boolean) 0 := ⟨xm 761 (by decide +kernel) (by decide +kernel), xm 762 (by decide +kernel) (by decide +kernel), xm 763 (by decide +kernel) (by decide +kernel), xm 45 (by decide +kernel) (by decide +kernel), xm 764 (by decide +kernel) (by decide +kernel), rfl, by decide +kernel, by decide +kernel, by decide +kernel⟩
theorem kv_X7_271 : xLV RX7 271 RX1 yX1_put cX1_put 3 none 2 := ⟨xm 765 (by decide +kernel) (by decide +kernel), xm 766 (by decide +kernel) (by decide +kernel), xm 767 (by decide +kernel) (by decide +kernel), xm 45 (by decide +kernel) (by decide +kernel), xm 768 (by decide +kernel) (by decide +kernel), rfl, by decide +kernel, by decide +kernel, by decide +kernel⟩
theorem kn_X1_20 : xLN RX1 20 yX7_within "LeakCups" cX7_within 3 (some .boolean) 3 := ⟨List.mem_of_getElem? (i := 769) (by decide +kernel), xm 285 (by decide +kernel) (by decide +kernel), xm 38 (by decide +kernel) (by decide +kernel), xm 286 (by decide +kernel) (by decide +kernel), by decide +kernel, by decide +kernel, by decide +kernel⟩
theorem kv_X1_26 : xLV RX1 26 RX1 yX1_cut cX1_cut 2 (some .int) 1 := ⟨xm 770 (by decide +kernel) (by decide +kernel), xm 772 (by decide +kernel) (by decide +kernel), xm 17 (by decide +kernel) (by decide +kernel), xm 45 (by decide +kernel) (by decide +kernel), xm 773 (by decide +kernel) (by decide +kernel), rfl, by decide +kernel, by decide +kernel, by decide +kernel⟩
theorem kv_JLeakCupsLaw_158 : xLV "LeakCupsLaw" 158 RX7 yX7_copy cX7_copy 8 (some .int) 5 := ⟨xm 774 (by decide +kernel) (by decide +kernel), xm 775 (by decide +kernel) (by decide +kernel), xm 776 (by decide +kernel) (by decide +kernel), xm 38 (by decide +kernel) (by decide +kernel), xm 777 (by decide +kernel) (by decide +kernel), rfl, by decide +kernel, by decide +kernel, by decide +kernel⟩
theorem kv_X7_277 : xLV RX7 277 RX1 yX1_has cX1_has 3 (some .boolean) 2 := ⟨xm 778 (by decide +kernel) (by decide +kernel), xm 779 (by decide +kernel) (by decide +kernel), xm 780 (by decide +kernel) (by decide +kernel), xm 45 (by decide +kernel) (by decide +kernel), xm 781 (by decide +kernel) (by decide +kernel), rfl, by decide +kernel, by decide +kernel, by decide +kernel⟩
theorem km_X7_283 : Cond.methodLink RX7 283 arraycopyName ∈ xT := xm 782 (by decide +kernel) (by decide +kernel)
theorem kv_JLeakCupsLaw_163 : xLV "LeakCupsLaw" 163 RX7 yX7_load cX7_load 4 (some .int) 1 := ⟨xm 783 (by decide +kernel) (by decide +kernel), xm 784 (by decide +kernel) (by decide +kernel), xm 785 (by decide +kernel) (by decide +kernel), xm 38 (by decide +kernel) (by decide +kernel), xm 786 (by decide +kernel) (by decide +kernel), rfl, by decide +kernel, by decide +kernel, by decide +kernel⟩
theorem kv_JLeakCupsLaw_167 : xLV "LeakCupsLaw" 167 RX7 yX7_judge cX7_judge 4 (some .int) 1 := ⟨xm 787 (by decide +kernel) (by decide +kernel), xm 788 (by decide +kernel) (by decide +kernel), xm 789 (by decide +kernel) (by decide +kernel), xm 38 (by decide +kernel) (by decide +kernel), xm 790 (by decide +kernel) (by decide +kernel), rfl, by decide +kernel, by decide +kernel, by decide +kernel⟩
theorem kv_JLeakCupsLaw_171 : xLV "LeakCupsLaw" 171 RX7 yX7_image cX7_image 1 (some .int) 0 := ⟨xm 791 (by decide +kernel) (by decide +kernel), xm 792 (by decide +kernel) (by decide +kernel), xm 793 (by decide +kernel) (by decide +kernel), xm 38 (by decide +kernel) (by decide +kernel), xm 794 (by decide +kernel) (by decide +kernel), rfl, by decide +kernel, by decide +kernel, by decide +kernel⟩
theorem kv_X7_289 : xLV RX7 289 RX3 yX3_become cX3_become 3 none 1 := ⟨xm 795 (by decide +kernel) (by decide +kernel), xm 796 (by decide +kernel) (by decide +kernel), xm 797 (by decide +kernel) (by decide +kernel), xm 39 (by decide +kernel) (by decide +kernel), xm 798 (by decide +kernel) (by decide +kernel), rfl, by decide +kernel, by decide +kernel, by decide +kernel⟩
theorem kv_X3_33 : xLV RX3 33 RX6 yX6_become cX6_become 2 none 1 := ⟨xm 799 (by decide +kernel) (by decide +kernel), xm 619 (by decide +kernel) (by decide +kernel), xm 620 (by decide +kernel) (by decide +kernel), xm 40 (by decide +kernel) (by decide +kernel), xm 621 (by decide +kernel) (by decide +kernel), rfl, by decide +kernel, by decide +kernel, by decide +kernel⟩
theorem kv_X3_37 : xLV RX3 37 RX0 yX0_become cX0_become 2 none 1 := ⟨xm 800 (by decide +kernel) (by decide +kernel), xm 801 (by decide +kernel) (by decide +kernel), xm 802 (by decide +kernel) (by decide +kernel), xm 41 (by decide +kernel) (by decide +kernel), xm 803 (by decide +kernel) (by decide +kernel), rfl, by decide +kernel, by decide +kernel, by decide +kernel⟩
theorem km_X0_18 : Cond.methodLink RX0 18 arraycopyName ∈ xT := xm 804 (by decide +kernel) (by decide +kernel)
theorem km_X3_43 : Cond.methodLink RX3 43 arraycopyName ∈ xT := xm 805 (by decide +kernel) (by decide +kernel)
theorem kv_JLeakCupsLaw_175 : xLV "LeakCupsLaw" 175 RX7 yX7_undo cX7_undo 1 (some .int) 0 := ⟨xm 806 (by decide +kernel) (by decide +kernel), xm 807 (by decide +kernel) (by decide +kernel), xm 808 (by decide +kernel) (by decide +kernel), xm 38 (by decide +kernel) (by decide +kernel), xm 809 (by decide +kernel) (by decide +kernel), rfl, by decide +kernel, by decide +kernel, by decide +kernel⟩
theorem kv_JLeakCupsLaw_179 : xLV "LeakCupsLaw" 179 RX7 yX7_tear cX7_tear 2 (some .int) 0 := ⟨xm 810 (by decide +kernel) (by decide +kernel), xm 811 (by decide +kernel) (by decide +kernel), xm 812 (by decide +kernel) (by decide +kernel), xm 38 (by decide +kernel) (by decide +kernel), xm 813 (by decide +kernel) (by decide +kernel), rfl, by decide +kernel, by decide +kernel, by decide +kernel⟩
theorem kv_JLeakCupsLaw_183 : xLV "LeakCupsLaw" 183 RX7 yX7_count cX7_count 2 (some .int) 1 := ⟨xm 814 (by decide +kernel) (by decide +kernel), xm 815 (by decide +kernel) (by decide +kernel), xm 816 (by decide +kernel) (by decide +kernel), xm 38 (by decide +kernel) (by decide +kernel), xm 817 (by decide +kernel) (by decide +kernel), rfl, by decide +kernel, by decide +kernel, by decide +kernel⟩
theorem kv_JLeakCupsLaw_187 : xLV "LeakCupsLaw" 187 RX7 yX7_status cX7_status 2 (some .int) 1 := ⟨xm 818 (by decide +kernel) (by decide +kernel), xm 819 (by decide +kernel) (by decide +kernel), xm 820 (by decide +kernel) (by decide +kernel), xm 38 (by decide +kernel) (by decide +kernel), xm 821 (by decide +kernel) (by decide +kernel), rfl, by decide +kernel, by decide +kernel, by decide +kernel⟩
theorem kv_X7_296 : xLV RX7 296 RX7 yX7_findingsOfAll cX7_findingsOfAll 3 (some .int) 0 := ⟨xm 822 (by decide +kernel) (by decide +kernel), xm 824 (by decide +kernel) (by decide +kernel), xm 18 (by decide +kernel) (by decide +kernel), xm 38 (by decide +kernel) (by decide +kernel), xm 825 (by decide +kernel) (by decide +kernel), rfl, by decide +kernel, by decide +kernel, by decide +kernel⟩
theorem fl_X8_9 : xFl RX8 9 8 0 := ⟨RX8, TX8, 20, rfl, by decide, xin_X8, xm 832 (by decide +kernel) (by decide +kernel)⟩
theorem fl_X8_13 : xFl RX8 13 8 1 := ⟨RX8, TX8, 20, rfl, by decide, xin_X8, xm 833 (by decide +kernel) (by decide +kernel)⟩
theorem fl_X8_16 : xFl RX8 16 8 2 := ⟨RX8, TX8, 20, rfl, by decide, xin_X8, xm 834 (by decide +kernel) (by decide +kernel)⟩
theorem fl_X8_19 : xFl RX8 19 8 3 := ⟨RX8, TX8, 20, rfl, by decide, xin_X8, xm 835 (by decide +kernel) (by decide +kernel)⟩
theorem fl_X8_288 : xFl RX8 288 8 4 := ⟨RX8, TX8, 20, rfl, by decide, xin_X8, xm 836 (by decide +kernel) (by decide +kernel)⟩
theorem fp_X8_288 : xFp RX8 288 8 4 .boolean := ⟨RX8, TX8, 20, tyX8, rfl, by decide, xin_X8, xm 836 (by decide +kernel) (by decide +kernel), tyX8_ok, nmX8, rfl, by decide +kernel⟩
theorem fl_X8_22 : xFl RX8 22 8 5 := ⟨RX8, TX8, 20, rfl, by decide, xin_X8, xm 837 (by decide +kernel) (by decide +kernel)⟩
theorem fl_X8_25 : xFl RX8 25 8 6 := ⟨RX8, TX8, 20, rfl, by decide, xin_X8, xm 838 (by decide +kernel) (by decide +kernel)⟩
theorem fl_X8_28 : xFl RX8 28 8 7 := ⟨RX8, TX8, 20, rfl, by decide, xin_X8, xm 839 (by decide +kernel) (by decide +kernel)⟩
theorem fl_X8_129 : xFl RX8 129 8 8 := ⟨RX8, TX8, 20, rfl, by decide, xin_X8, xm 840 (by decide +kernel) (by decide +kernel)⟩
theorem fp_X8_129 : xFp RX8 129 8 8 .int := ⟨RX8, TX8, 20, tyX8, rfl, by decide, xin_X8, xm 840 (by decide +kernel) (by decide +kernel), tyX8_ok, nmX8, rfl, by decide +kernel⟩
theorem fl_X8_133 : xFl RX8 133 8 9 := ⟨RX8, TX8, 20, rfl, by decide, xin_X8, xm 841 (by decide +kernel) (by decide +kernel)⟩
theorem fp_X8_133 : xFp RX8 133 8 9 .int := ⟨RX8, TX8, 20, tyX8, rfl, by decide, xin_X8, xm 841 (by decide +kernel) (by decide +kernel), tyX8_ok, nmX8, rfl, by decide +kernel⟩
theorem fl_X8_136 : xFl RX8 136 8 10 := ⟨RX8, TX8, 20, rfl, by decide, xin_X8, xm 842 (by decide +kernel) (by decide +kernel)⟩
theorem fp_X8_136 : xFp RX8 136 8 10 .int := ⟨RX8, TX8, 20, tyX8, rfl, by decide, xin_X8, xm 842 (by decide +kernel) (by decide +kernel), tyX8_ok, nmX8, rfl, by decide +kernel⟩
theorem fl_X8_146 : xFl RX8 146 8 11 := ⟨RX8, TX8, 20, rfl, by decide, xin_X8, xm 843 (by decide +kernel) (by decide +kernel)⟩
theorem fp_X8_146 : xFp RX8 146 8 11 .int := ⟨RX8, TX8, 20, tyX8, rfl, by decide, xin_X8, xm 843 (by decide +kernel) (by decide +kernel), tyX8_ok, nmX8, rfl, by decide +kernel⟩
theorem fl_X8_139 : xFl RX8 139 8 12 := ⟨RX8, TX8, 20, rfl, by decide, xin_X8, xm 844 (by decide +kernel) (by decide +kernel)⟩
theorem fp_X8_139 : xFp RX8 139 8 12 .long := ⟨RX8, TX8, 20, tyX8, rfl, by decide, xin_X8, xm 844 (by decide +kernel) (by decide +kernel), tyX8_ok, nmX8, rfl, by decide +kernel⟩
theorem fl_X8_143 : xFl RX8 143 8 13 := ⟨RX8, TX8, 20, rfl, by decide, xin_X8, xm 845 (by decide +kernel) (by decide +kernel)⟩
theorem fp_X8_143 : xFp RX8 143 8 13 .int := ⟨RX8, TX8, 20, tyX8, rfl, by decide, xin_X8, xm 845 (by decide +kernel) (by decide +kernel), tyX8_ok, nmX8, rfl, by decide +kernel⟩
theorem fl_X8_200 : xFl RX8 200 8 14 := ⟨RX8, TX8, 20, rfl, by decide, xin_X8, xm 846 (by decide +kernel) (by decide +kernel)⟩
theorem fp_X8_200 : xFp RX8 200 8 14 .boolean := ⟨RX8, TX8, 20, tyX8, rfl, by decide, xin_X8, xm 846 (by decide +kernel) (by decide +kernel), tyX8_ok, nmX8, rfl, by decide +kernel⟩
theorem fl_X8_31 : xFl RX8 31 8 15 := ⟨RX8, TX8, 20, rfl, by decide, xin_X8, xm 847 (by decide +kernel) (by decide +kernel)⟩
theorem fl_X8_34 : xFl RX8 34 8 16 := ⟨RX8, TX8, 20, rfl, by decide, xin_X8, xm 848 (by decide +kernel) (by decide +kernel)⟩
theorem fl_X8_37 : xFl RX8 37 8 17 := ⟨RX8, TX8, 20, rfl, by decide, xin_X8, xm 849 (by decide +kernel) (by decide +kernel)⟩
theorem fl_X8_40 : xFl RX8 40 8 18 := ⟨RX8, TX8, 20, rfl, by decide, xin_X8, xm 850 (by decide +kernel) (by decide +kernel)⟩
theorem fl_X8_43 : xFl RX8 43 8 19 := ⟨RX8, TX8, 20, rfl, by decide, xin_X8, xm 851 (by decide +kernel) (by decide +kernel)⟩
theorem kv_JLeakCupsLaw_17 : xLV "LeakCupsLaw" 17 RX8 yX8_set cX8_set 4 (some .int) 2 := ⟨xm 893 (by decide +kernel) (by decide +kernel), xm 894 (by decide +kernel) (by decide +kernel), xm 895 (by decide +kernel) (by decide +kernel), xm 46 (by decide +kernel) (by decide +kernel), xm 896 (by decide +kernel) (by decide +kernel), rfl, by decide +kernel, by decide +kernel, by decide +kernel⟩
theorem ks_X8_57 : xLS RX8 57 yX8_mayBe cX8_mayBe 2 (some .boolean) 2 := ⟨xm 897 (by decide +kernel) (by decide +kernel), xm 898 (by decide +kernel) (by decide +kernel), xm 46 (by decide +kernel) (by decide +kernel), xm 899 (by decide +kernel) (by decide +kernel), by decide +kernel, by decide +kernel, by decide +kernel⟩
theorem kc_X8_53 : Jvm.Cond.constantLong RX8 53 (99) ∈ xT := xm 900 (by decide +kernel) (by decide +kernel)
theorem ks_X8_49 : xLS RX8 49 yX8_in cX8_in 6 (some .boolean) 3 := ⟨xm 901 (by decide +kernel) (by decide +kernel), xm 902 (by decide +kernel) (by decide +kernel), xm 46 (by decide +kernel) (by decide +kernel), xm 903 (by decide +kernel) (by decide +kernel), by decide +kernel, by decide +kernel, by decide +kernel⟩
theorem kc_X8_55 : Jvm.Cond.constantLong RX8 55 (2) ∈ xT := xm 904 (by decide +kernel) (by decide +kernel)
theorem kc_X8_46 : Jvm.Cond.constant RX8 46 (-1000001) ∈ xT := xm 905 (by decide +kernel) (by decide +kernel)
theorem kv_X8_61 : xLV RX8 61 RX8 yX8_finds cX8_finds 2 (some .int) 1 := ⟨xm 906 (by decide +kernel) (by decide +kernel), xm 908 (by decide +kernel) (by decide +kernel), xm 19 (by decide +kernel) (by decide +kernel), xm 46 (by decide +kernel) (by decide +kernel), xm 909 (by decide +kernel) (by decide +kernel), rfl, by decide +kernel, by decide +kernel, by decide +kernel⟩
theorem kv_JLeakCupsLaw_21 : xLV "LeakCupsLaw" 21 RX8 yX8_kind cX8_kind 4 (some .int) 2 := ⟨xm 910 (by decide +kernel) (by decide +kernel), xm 911 (by decide +kernel) (by decide +kernel), xm 912 (by decide +kernel) (by decide +kernel), xm 46 (by decide +kernel) (by decide +kernel), xm 913 (by decide +kernel) (by decide +kernel), rfl, by decide +kernel, by decide +kernel, by decide +kernel⟩
theorem ks_X8_65 : xLS RX8 65 yX8_isCup cX8_isCup 1 (some .boolean) 1 := ⟨xm 914 (by decide +kernel) (by decide +kernel), xm 915 (by decide +kernel) (by decide +kernel), xm 46 (by decide +kernel) (by decide +kernel), xm 916 (by decide +kernel) (by decide +kernel), by decide +kernel, by decide +kernel, by decide +kernel⟩
theorem kc_X8_47 : Jvm.Cond.constantLong RX8 47 (11) ∈ xT := xm 917 (by decide +kernel) (by decide +kernel)
theorem kc_X8_69 : Jvm.Cond.constantLong RX8 69 (6) ∈ xT := xm 918 (by decide +kernel) (by decide +kernel)
theorem kv_JLeakCupsLaw_25 : xLV "LeakCupsLaw" 25 RX8 yX8_cupOf cX8_cupOf 3 (some .int) 2 := ⟨xm 919 (by decide +kernel) (by decide +kernel), xm 920 (by decide +kernel) (by decide +kernel), xm 921 (by decide +kernel) (by decide +kernel), xm 46 (by decide +kernel) (by decide +kernel), xm 922 (by decide +kernel) (by decide +kernel), rfl, by decide +kernel, by decide +kernel, by decide +kernel⟩
theorem kc_X8_75 : Jvm.Cond.constantLong RX8 75 (4) ∈ xT := xm 923 (by decide +kernel) (by decide +kernel)
theorem ks_X8_71 : xLS RX8 71 yX8_placeOf cX8_placeOf 2 (some .int) 2 := ⟨xm 924 (by decide +kernel) (by decide +kernel), xm 925 (by decide +kernel) (by decide +kernel), xm 46 (by decide +kernel) (by decide +kernel), xm 926 (by decide +kernel) (by decide +kernel), by decide +kernel, by decide +kernel, by decide +kernel⟩
theorem ks_X8_77 : xLS RX8 77 yX8_roomOf cX8_roomOf 2 (some .int) 2 := ⟨xm 927 (by decide +kernel) (by decide +kernel), xm 928 (by decide +kernel) (by decide +kernel), xm 46 (by decide +kernel) (by decide +kernel), xm 929 (by decide +kernel) (by decide +kernel), by decide +kernel, by decide +kernel, by decide +kernel⟩
theorem ks_X8_80 : xLS RX8 80 yX8_leaksFrom cX8_leaksFrom 5 (some .int) 2 := ⟨xm 930 (by decide +kernel) (by decide +kernel), xm 931 (by decide +kernel) (by decide +kernel), xm 46 (by decide +kernel) (by decide +kernel), xm 932 (by decide +kernel) (by decide +kernel), by decide +kernel, by decide +kernel, by decide +kernel⟩
theorem kv_JLeakCupsLaw_29 : xLV "LeakCupsLaw" 29 RX8 yX8_fill cX8_fill 3 (some .int) 2 := ⟨xm 933 (by decide +kernel) (by decide +kernel), xm 934 (by decide +kernel) (by decide +kernel), xm 935 (by decide +kernel) (by decide +kernel), xm 46 (by decide +kernel) (by decide +kernel), xm 936 (by decide +kernel) (by decide +kernel), rfl, by decide +kernel, by decide +kernel, by decide +kernel⟩
theorem kc_X8_83 : Jvm.Cond.constantLong RX8 83 (999) ∈ xT := xm 937 (by decide +kernel) (by decide +kernel)
theorem kc_X8_85 : Jvm.Cond.constant RX8 85 (-1000002) ∈ xT := xm 938 (by decide +kernel) (by decide +kernel)
theorem kv_JLeakCupsLaw_34 : xLV "LeakCupsLaw" 34 RX8 yX8_empty cX8_empty 3 (some .int) 1 := ⟨xm 939 (by decide +kernel) (by decide +kernel), xm 940 (by decide +kernel) (by decide +kernel), xm 941 (by decide +kernel) (by decide +kernel), xm 46 (by decide +kernel) (by decide +kernel), xm 942 (by decide +kernel) (by decide +kernel), rfl, by decide +kernel, by decide +kernel, by decide +kernel⟩
theorem kv_JLeakCupsLaw_38 : xLV "LeakCupsLaw" 38 RX8 yX8_touch cX8_touch 2 (some .int) 1 := ⟨xm 943 (by decide +kernel) (by decide +kernel), xm 944 (by decide +kernel) (by decide +kernel), xm 945 (by decide +kernel) (by decide +kernel), xm 46 (by decide +kernel) (by decide +kernel), xm 946 (by decide +kernel) (by decide +kernel), rfl, by decide +kernel, by decide +kernel, by decide +kernel⟩
theorem kc_X8_90 : Jvm.Cond.constantLong RX8 90 (-200) ∈ xT := xm 947 (by decide +kernel) (by decide +kernel)
theorem kc_X8_92 : Jvm.Cond.constantLong RX8 92 (200) ∈ xT := xm 948 (by decide +kernel) (by decide +kernel)
theorem ks_X8_94 : xLS RX8 94 yX8_touches cX8_touches 2 none 2 := ⟨xm 949 (by decide +kernel) (by decide +kernel), xm 950 (by decide +kernel) (by decide +kernel), xm 46 (by decide +kernel) (by decide +kernel), xm 951 (by decide +kernel) (by decide +kernel), by decide +kernel, by decide +kernel, by decide +kernel⟩
theorem ks_X8_86 : xLS RX8 86 yX8_held cX8_held 4 (some .int) 3 := ⟨xm 952 (by decide +kernel) (by decide +kernel), xm 953 (by decide +kernel) (by decide +kernel), xm 46 (by decide +kernel) (by decide +kernel), xm 954 (by decide +kernel) (by decide +kernel), by decide +kernel, by decide +kernel, by decide +kernel⟩
theorem kv_JLeakCupsLaw_42 : xLV "LeakCupsLaw" 42 RX8 yX8_stop cX8_stop 3 (some .int) 1 := ⟨xm 955 (by decide +kernel) (by decide +kernel), xm 956 (by decide +kernel) (by decide +kernel), xm 957 (by decide +kernel) (by decide +kernel), xm 46 (by decide +kernel) (by decide +kernel), xm 958 (by decide +kernel) (by decide +kernel), rfl, by decide +kernel, by decide +kernel, by decide +kernel⟩
theorem kc_X8_98 : Jvm.Cond.constantLong RX8 98 (1199) ∈ xT := xm 959 (by decide +kernel) (by decide +kernel)
theorem kv_JLeakCupsLaw_46 : xLV "LeakCupsLaw" 46 RX8 yX8_tick cX8_tick 2 (some .int) 1 := ⟨xm 960 (by decide +kernel) (by decide +kernel), xm 961 (by decide +kernel) (by decide +kernel), xm 962 (by decide +kernel) (by decide +kernel), xm 46 (by decide +kernel) (by decide +kernel), xm 963 (by decide +kernel) (by decide +kernel), rfl, by decide +kernel, by decide +kernel, by decide +kernel⟩
theorem kc_X8_111 : Jvm.Cond.constantLong RX8 111 (100) ∈ xT := xm 964 (by decide +kernel) (by decide +kernel)
theorem kv_X8_113 : xLV RX8 113 RX8 yX8_goesOn cX8_goesOn 4 none 2 := ⟨xm 965 (by decide +kernel) (by decide +kernel), xm 967 (by decide +kernel) (by decide +kernel), xm 20 (by decide +kernel) (by decide +kernel), xm 46 (by decide +kernel) (by decide +kernel), xm 968 (by decide +kernel) (by decide +kernel), rfl, by decide +kernel, by decide +kernel, by decide +kernel⟩
theorem kv_X8_108 : xLV RX8 108 RX8 yX8_goesBy cX8_goesBy 5 none 1 := ⟨xm 969 (by decide +kernel) (by decide +kernel), xm 971 (by decide +kernel) (by decide +kernel), xm 21 (by decide +kernel) (by decide +kernel), xm 46 (by decide +kernel) (by decide +kernel), xm 972 (by decide +kernel) (by decide +kernel), rfl, by decide +kernel, by decide +kernel, by decide +kernel⟩
theorem kv_X8_100 : xLV RX8 100 RX8 yX8_torqueOf cX8_torqueOf 4 (some .int) 1 := ⟨xm 973 (by decide +kernel) (by decide +kernel), xm 975 (by decide +kernel) (by decide +kernel), xm 22 (by decide +kernel) (by decide +kernel), xm 46 (by decide +kernel) (by decide +kernel), xm 976 (by decide +kernel) (by decide +kernel), rfl, by decide +kernel, by decide +kernel, by decide +kernel⟩
theorem ks_X8_104 : xLS RX8 104 yX8_notes cX8_notes 3 none 1 := ⟨xm 977 (by decide +kernel) (by decide +kernel), xm 978 (by decide +kernel) (by decide +kernel), xm 46 (by decide +kernel) (by decide +kernel), xm 979 (by decide +kernel) (by decide +kernel), by decide +kernel, by decide +kernel, by decide +kernel⟩
theorem kv_JLeakCupsLaw_50 : xLV "LeakCupsLaw" 50 RX8 yX8_now cX8_now 2 (some .int) 1 := ⟨xm 980 (by decide +kernel) (by decide +kernel), xm 981 (by decide +kernel) (by decide +kernel), xm 982 (by decide +kernel) (by decide +kernel), xm 46 (by decide +kernel) (by decide +kernel), xm 983 (by decide +kernel) (by decide +kernel), rfl, by decide +kernel, by decide +kernel, by decide +kernel⟩
theorem ks_X8_116 : xLS RX8 116 yX8_allWater cX8_allWater 3 (some .int) 1 := ⟨xm 984 (by decide +kernel) (by decide +kernel), xm 985 (by decide +kernel) (by decide +kernel), xm 46 (by decide +kernel) (by decide +kernel), xm 986 (by decide +kernel) (by decide +kernel), by decide +kernel, by decide +kernel, by decide +kernel⟩
theorem kv_JLeakCupsLaw_55 : xLV "LeakCupsLaw" 55 RX8 yX8_torque cX8_torque 1 (some .int) 0 := ⟨xm 987 (by decide +kernel) (by decide +kernel), xm 988 (by decide +kernel) (by decide +kernel), xm 989 (by decide +kernel) (by decide +kernel), xm 46 (by decide +kernel) (by decide +kernel), xm 990 (by decide +kernel) (by decide +kernel), rfl, by decide +kernel, by decide +kernel, by decide +kernel⟩
theorem kv_JLeakCupsLaw_59 : xLV "LeakCupsLaw" 59 RX8 yX8_turn cX8_turn 3 (some .int) 2 := ⟨xm 991 (by decide +kernel) (by decide +kernel), xm 992 (by decide +kernel) (by decide +kernel), xm 993 (by decide +kernel) (by decide +kernel), xm 46 (by decide +kernel) (by decide +kernel), xm 994 (by decide +kernel) (by decide +kernel), rfl, by decide +kernel, by decide +kernel, by decide +kernel⟩
theorem kv_X8_119 : xLV RX8 119 RX8 yX8_logged cX8_logged 1 (some .int) 0 := ⟨xm 995 (by decide +kernel) (by decide +kernel), xm 997 (by decide +kernel) (by decide +kernel), xm 23 (by decide +kernel) (by decide +kernel), xm 46 (by decide +kernel) (by decide +kernel), xm 998 (by decide +kernel) (by decide +kernel), rfl, by decide +kernel, by decide +kernel, by decide +kernel⟩
theorem kv_JLeakCupsLaw_63 : xLV "LeakCupsLaw" 63 RX8 yX8_nextPeak cX8_nextPeak 6 (some .int) 1 := ⟨xm 999 (by decide +kernel) (by decide +kernel), xm 1000 (by decide +kernel) (by decide +kernel), xm 1001 (by decide +kernel) (by decide +kernel), xm 46 (by decide +kernel) (by decide +kernel), xm 1002 (by decide +kernel) (by decide +kernel), rfl, by decide +kernel, by decide +kernel, by decide +kernel⟩
theorem kc_X8_123 : Jvm.Cond.constantLong RX8 123 (600) ∈ xT := xm 1003 (by decide +kernel) (by decide +kernel)
theorem kc_X8_125 : Jvm.Cond.constant RX8 125 (-1000004) ∈ xT := xm 1004 (by decide +kernel) (by decide +kernel)
theorem kv_X8_126 : xLV RX8 126 RX8 yX8_peak cX8_peak 2 (some .int) 1 := ⟨xm 1005 (by decide +kernel) (by decide +kernel), xm 1007 (by decide +kernel) (by decide +kernel), xm 24 (by decide +kernel) (by decide +kernel), xm 46 (by decide +kernel) (by decide +kernel), xm 1008 (by decide +kernel) (by decide +kernel), rfl, by decide +kernel, by decide +kernel, by decide +kernel⟩
theorem kv_JLeakCupsLaw_67 : xLV "LeakCupsLaw" 67 RX8 yX8_rising cX8_rising 3 (some .int) 0 := ⟨xm 1009 (by decide +kernel) (by decide +kernel), xm 1010 (by decide +kernel) (by decide +kernel), xm 1011 (by decide +kernel) (by decide +kernel), xm 46 (by decide +kernel) (by decide +kernel), xm 1012 (by decide +kernel) (by decide +kernel), rfl, by decide +kernel, by decide +kernel, by decide +kernel⟩
theorem kv_JLeakCupsLaw_71 : xLV "LeakCupsLaw" 71 RX8 yX8_quickest cX8_quickest 4 (some .int) 0 := ⟨xm 1013 (by decide +kernel) (by decide +kernel), xm 1014 (by decide +kernel) (by decide +kernel), xm 1015 (by decide +kernel) (by decide +kernel), xm 46 (by decide +kernel) (by decide +kernel), xm 1016 (by decide +kernel) (by decide +kernel), rfl, by decide +kernel, by decide +kernel, by decide +kernel⟩
theorem kv_JLeakCupsLaw_75 : xLV "LeakCupsLaw" 75 RX8 yX8_feed cX8_feed 4 (some .int) 2 := ⟨xm 1017 (by decide +kernel) (by decide +kernel), xm 1018 (by decide +kernel) (by decide +kernel), xm 1019 (by decide +kernel) (by decide +kernel), xm 46 (by decide +kernel) (by decide +kernel), xm 1020 (by decide +kernel) (by decide +kernel), rfl, by decide +kernel, by decide +kernel, by decide +kernel⟩
theorem kv_JLeakCupsLaw_79 : xLV "LeakCupsLaw" 79 RX8 yX8_wipe cX8_wipe 2 (some .int) 0 := ⟨xm 1021 (by decide +kernel) (by decide +kernel), xm 1022 (by decide +kernel) (by decide +kernel), xm 1023 (by decide +kernel) (by decide +kernel), xm 46 (by decide +kernel) (by decide +kernel), xm 1024 (by decide +kernel) (by decide +kernel), rfl, by decide +kernel, by decide +kernel, by decide +kernel⟩
theorem kv_JLeakCupsLaw_83 : xLV "LeakCupsLaw" 83 RX8 yX8_program cX8_program 2 (some .int) 0 := ⟨xm 1025 (by decide +kernel) (by decide +kernel), xm 1026 (by decide +kernel) (by decide +kernel), xm 1027 (by decide +kernel) (by decide +kernel), xm 46 (by decide +kernel) (by decide +kernel), xm 1028 (by decide +kernel) (by decide +kernel), rfl, by decide +kernel, by decide +kernel, by decide +kernel⟩
theorem kv_X8_211 : xLV RX8 211 RX8 yX8_look cX8_look 2 none 0 := ⟨xm 1029 (by decide +kernel) (by decide +kernel), xm 1031 (by decide +kernel) (by decide +kernel), xm 25 (by decide +kernel) (by decide +kernel), xm 46 (by decide +kernel) (by decide +kernel), xm 1032 (by decide +kernel) (by decide +kernel), rfl, by decide +kernel, by decide +kernel, by decide +kernel⟩
theorem ks_X8_149 : xLS RX8 149 yX8_isLetter cX8_isLetter 1 (some .boolean) 1 := ⟨xm 1033 (by decide +kernel) (by decide +kernel), xm 1034 (by decide +kernel) (by decide +kernel), xm 46 (by decide +kernel) (by decide +kernel), xm 1035 (by decide +kernel) (by decide +kernel), by decide +kernel, by decide +kernel, by decide +kernel⟩
theorem ks_X8_152 : xLS RX8 152 yX8_isDigit cX8_isDigit 1 (some .boolean) 1 := ⟨xm 1036 (by decide +kernel) (by decide +kernel), xm 1037 (by decide +kernel) (by decide +kernel), xm 46 (by decide +kernel) (by decide +kernel), xm 1038 (by decide +kernel) (by decide +kernel), by decide +kernel, by decide +kernel, by decide +kernel⟩
theorem kc_X8_155 : Jvm.Cond.constantLong RX8 155 (32) ∈ xT := xm 1039 (by decide +kernel) (by decide +kernel)
theorem kc_X8_157 : Jvm.Cond.constantLong RX8 157 (97) ∈ xT := xm 1040 (by decide +kernel) (by decide +kernel)
theorem kc_X8_159 : Jvm.Cond.constantLong RX8 159 (-1) ∈ xT := xm 1041 (by decide +kernel) (by decide +kernel)
theorem kv_X8_220 : xLV RX8 220 RX8 yX8_reads cX8_reads 4 none 1 := ⟨xm 1042 (by decide +kernel) (by decide +kernel), xm 1044 (by decide +kernel) (by decide +kernel), xm 26 (by decide +kernel) (by decide +kernel), xm 46 (by decide +kernel) (by decide +kernel), xm 1045 (by decide +kernel) (by decide +kernel), rfl, by decide +kernel, by decide +kernel, by decide +kernel⟩
theorem kv_X8_204 : xLV RX8 204 RX8 yX8_deed cX8_deed 1 (some .int) 0 := ⟨xm 1046 (by decide +kernel) (by decide +kernel), xm 1048 (by decide +kernel) (by decide +kernel), xm 27 (by decide +kernel) (by decide +kernel), xm 46 (by decide +kernel) (by decide +kernel), xm 1049 (by decide +kernel) (by decide +kernel), rfl, by decide +kernel, by decide +kernel, by decide +kernel⟩
theorem kv_X8_172 : xLV RX8 172 RX8 yX8_isWord cX8_isWord 5 (some .boolean) 1 := ⟨xm 1051 (by decide +kernel) (by decide +kernel), xm 1053 (by decide +kernel) (by decide +kernel), xm 28 (by decide +kernel) (by decide +kernel), xm 46 (by decide +kernel) (by decide +kernel), xm 1054 (by decide +kernel) (by decide +kernel), rfl, by decide +kernel, by decide +kernel, by decide +kernel⟩
theorem kv_X8_161 : xLV RX8 161 "java/lang/String" yJ_Slen cJ_Slen 1 (some .int) 0 := ⟨xm 1055 (by decide +kernel) (by decide +kernel), xm 508 (by decide +kernel) (by decide +kernel), xm 509 (by decide +kernel) (by decide +kernel), xm 49 (by decide +kernel) (by decide +kernel), xm 510 (by decide +kernel) (by decide +kernel), rfl, by decide +kernel, by decide +kernel, by decide +kernel⟩
theorem kv_X8_166 : xLV RX8 166 "java/lang/String" yJ_Sch cJ_Sch 2 (some .char) 1 := ⟨xm 1056 (by decide +kernel) (by decide +kernel), xm 518 (by decide +kernel) (by decide +kernel), xm 519 (by decide +kernel) (by decide +kernel), xm 49 (by decide +kernel) (by decide +kernel), xm 520 (by decide +kernel) (by decide +kernel), rfl, by decide +kernel, by decide +kernel, by decide +kernel⟩
theorem kv_X8_207 : xLV RX8 207 RX8 yX8_must cX8_must 2 none 1 := ⟨xm 1069 (by decide +kernel) (by decide +kernel), xm 1071 (by decide +kernel) (by decide +kernel), xm 29 (by decide +kernel) (by decide +kernel), xm 46 (by decide +kernel) (by decide +kernel), xm 1072 (by decide +kernel) (by decide +kernel), rfl, by decide +kernel, by decide +kernel, by decide +kernel⟩
theorem ks_X8_214 : xLS RX8 214 yX8_leastOf cX8_leastOf 1 (some .int) 1 := ⟨xm 1073 (by decide +kernel) (by decide +kernel), xm 1074 (by decide +kernel) (by decide +kernel), xm 46 (by decide +kernel) (by decide +kernel), xm 1075 (by decide +kernel) (by decide +kernel), by decide +kernel, by decide +kernel, by decide +kernel⟩
theorem ks_X8_217 : xLS RX8 217 yX8_mostOf cX8_mostOf 1 (some .int) 1 := ⟨xm 1076 (by decide +kernel) (by decide +kernel), xm 1077 (by decide +kernel) (by decide +kernel), xm 46 (by decide +kernel) (by decide +kernel), xm 1078 (by decide +kernel) (by decide +kernel), by decide +kernel, by decide +kernel, by decide +kernel⟩
theorem kv_JLeakCupsLaw_87 : xLV "LeakCupsLaw" 87 RX8 yX8_programOf cX8_programOf 6 (some .int) 2 := ⟨xm 1079 (by decide +kernel) (by decide +kernel), xm 1080 (by decide +kernel) (by decide +kernel), xm 1081 (by decide +kernel) (by decide +kernel), xm 46 (by decide +kernel) (by decide +kernel), xm 1082 (by decide +kernel) (by decide +kernel), rfl, by decide +kernel, by decide +kernel, by decide +kernel⟩
theorem kv_X8_224 : xLV RX8 224 RX8 yX8_isProgram cX8_isProgram 2 (some .boolean) 1 := ⟨xm 1083 (by decide +kernel) (by decide +kernel), xm 1085 (by decide +kernel) (by decide +kernel), xm 30 (by decide +kernel) (by decide +kernel), xm 46 (by decide +kernel) (by decide +kernel), xm 1086 (by decide +kernel) (by decide +kernel), rfl, by decide +kernel, by decide +kernel, by decide +kernel⟩
theorem kv_JLeakCupsLaw_91 : xLV "LeakCupsLaw" 91 RX8 yX8_play cX8_play 4 (some .int) 1 := ⟨xm 1087 (by decide +kernel) (by decide +kernel), xm 1088 (by decide +kernel) (by decide +kernel), xm 1089 (by decide +kernel) (by decide +kernel), xm 46 (by decide +kernel) (by decide +kernel), xm 1090 (by decide +kernel) (by decide +kernel), rfl, by decide +kernel, by decide +kernel, by decide +kernel⟩
theorem kv_X8_227 : xLV RX8 227 RX8 yX8_plays cX8_plays 3 none 2 := ⟨xm 1091 (by decide +kernel) (by decide +kernel), xm 1093 (by decide +kernel) (by decide +kernel), xm 31 (by decide +kernel) (by decide +kernel), xm 46 (by decide +kernel) (by decide +kernel), xm 1094 (by decide +kernel) (by decide +kernel), rfl, by decide +kernel, by decide +kernel, by decide +kernel⟩
theorem kv_JLeakCupsLaw_95 : xLV "LeakCupsLaw" 95 RX8 yX8_ahead cX8_ahead 3 (some .int) 2 := ⟨xm 1095 (by decide +kernel) (by decide +kernel), xm 1096 (by decide +kernel) (by decide +kernel), xm 1097 (by decide +kernel) (by decide +kernel), xm 46 (by decide +kernel) (by decide +kernel), xm 1098 (by decide +kernel) (by decide +kernel), rfl, by decide +kernel, by decide +kernel, by decide +kernel⟩
theorem kc_X8_231 : Jvm.Cond.constantLong RX8 231 (400) ∈ xT := xm 1099 (by decide +kernel) (by decide +kernel)
theorem kc_X8_233 : Jvm.Cond.constantLong RX8 233 (3) ∈ xT := xm 1100 (by decide +kernel) (by decide +kernel)
theorem ks_X8_235 : xLS RX8 235 yX8_copies cX8_copies 3 none 2 := ⟨xm 1101 (by decide +kernel) (by decide +kernel), xm 1102 (by decide +kernel) (by decide +kernel), xm 46 (by decide +kernel) (by decide +kernel), xm 1103 (by decide +kernel) (by decide +kernel), by decide +kernel, by decide +kernel, by decide +kernel⟩
theorem kv_JLeakCupsLaw_99 : xLV "LeakCupsLaw" 99 RX8 yX8_apart cX8_apart 3 (some .int) 2 := ⟨xm 1104 (by decide +kernel) (by decide +kernel), xm 1105 (by decide +kernel) (by decide +kernel), xm 1106 (by decide +kernel) (by decide +kernel), xm 46 (by decide +kernel) (by decide +kernel), xm 1107 (by decide +kernel) (by decide +kernel), rfl, by decide +kernel, by decide +kernel, by decide +kernel⟩
theorem kv_X8_239 : xLV RX8 239 RX8 yX8_twoBegin cX8_twoBegin 2 none 1 := ⟨xm 1108 (by decide +kernel) (by decide +kernel), xm 1110 (by decide +kernel) (by decide +kernel), xm 32 (by decide +kernel) (by decide +kernel), xm 46 (by decide +kernel) (by decide +kernel), xm 1111 (by decide +kernel) (by decide +kernel), rfl, by decide +kernel, by decide +kernel, by decide +kernel⟩
theorem ks_X8_242 : xLS RX8 242 yX8_differ cX8_differ 3 (some .int) 2 := ⟨xm 1112 (by decide +kernel) (by decide +kernel), xm 1113 (by decide +kernel) (by decide +kernel), xm 46 (by decide +kernel) (by decide +kernel), xm 1114 (by decide +kernel) (by decide +kernel), by decide +kernel, by decide +kernel, by decide +kernel⟩
theorem kv_JLeakCupsLaw_103 : xLV "LeakCupsLaw" 103 RX8 yX8_parts cX8_parts 4 (some .int) 2 := ⟨xm 1115 (by decide +kernel) (by decide +kernel), xm 1116 (by decide +kernel) (by decide +kernel), xm 1117 (by decide +kernel) (by decide +kernel), xm 46 (by decide +kernel) (by decide +kernel), xm 1118 (by decide +kernel) (by decide +kernel), rfl, by decide +kernel, by decide +kernel, by decide +kernel⟩
theorem kc_X8_246 : Jvm.Cond.constantLong RX8 246 (1200) ∈ xT := xm 1119 (by decide +kernel) (by decide +kernel)
theorem kv_JLeakCupsLaw_107 : xLV "LeakCupsLaw" 107 RX8 yX8_going cX8_going 2 (some .int) 1 := ⟨xm 1120 (by decide +kernel) (by decide +kernel), xm 1121 (by decide +kernel) (by decide +kernel), xm 1122 (by decide +kernel) (by decide +kernel), xm 46 (by decide +kernel) (by decide +kernel), xm 1123 (by decide +kernel) (by decide +kernel), rfl, by decide +kernel, by decide +kernel, by decide +kernel⟩
theorem kc_X8_248 : Jvm.Cond.constantLong RX8 248 (10) ∈ xT := xm 1124 (by decide +kernel) (by decide +kernel)
theorem kv_X8_250 : xLV RX8 250 RX8 yX8_goingOf cX8_goingOf 6 (some .int) 1 := ⟨xm 1125 (by decide +kernel) (by decide +kernel), xm 1127 (by decide +kernel) (by decide +kernel), xm 33 (by decide +kernel) (by decide +kernel), xm 46 (by decide +kernel) (by decide +kernel), xm 1128 (by decide +kernel) (by decide +kernel), rfl, by decide +kernel, by decide +kernel, by decide +kernel⟩
theorem kv_JLeakCupsLaw_111 : xLV "LeakCupsLaw" 111 RX8 yX8_tapFor cX8_tapFor 4 (some .int) 2 := ⟨xm 1129 (by decide +kernel) (by decide +kernel), xm 1130 (by decide +kernel) (by decide +kernel), xm 1131 (by decide +kernel) (by decide +kernel), xm 46 (by decide +kernel) (by decide +kernel), xm 1132 (by decide +kernel) (by decide +kernel), rfl, by decide +kernel, by decide +kernel, by decide +kernel⟩
theorem kv_JLeakCupsLaw_115 : xLV "LeakCupsLaw" 115 RX8 yX8_bounds cX8_bounds 5 (some .int) 2 := ⟨xm 1133 (by decide +kernel) (by decide +kernel), xm 1134 (by decide +kernel) (by decide +kernel), xm 1135 (by decide +kernel) (by decide +kernel), xm 46 (by decide +kernel) (by decide +kernel), xm 1136 (by decide +kernel) (by decide +kernel), rfl, by decide +kernel, by decide +kernel, by decide +kernel⟩
theorem kv_JLeakCupsLaw_119 : xLV "LeakCupsLaw" 119 RX8 yX8_often cX8_often 4 (some .int) 1 := ⟨xm 1137 (by decide +kernel) (by decide +kernel), xm 1138 (by decide +kernel) (by decide +kernel), xm 1139 (by decide +kernel) (by decide +kernel), xm 46 (by decide +kernel) (by decide +kernel), xm 1140 (by decide +kernel) (by decide +kernel), rfl, by decide +kernel, by decide +kernel, by decide +kernel⟩
theorem kv_JLeakCupsLaw_123 : xLV "LeakCupsLaw" 123 RX8 yX8_holds cX8_holds 4 (some .int) 1 := ⟨xm 1141 (by decide +kernel) (by decide +kernel), xm 1142 (by decide +kernel) (by decide +kernel), xm 1143 (by decide +kernel) (by decide +kernel), xm 46 (by decide +kernel) (by decide +kernel), xm 1144 (by decide +kernel) (by decide +kernel), rfl, by decide +kernel, by decide +kernel, by decide +kernel⟩
theorem kv_JLeakCupsLaw_127 : xLV "LeakCupsLaw" 127 RX8 yX8_chance cX8_chance 6 (some .int) 2 := ⟨xm 1145 (by decide +kernel) (by decide +kernel), xm 1146 (by decide +kernel) (by decide +kernel), xm 1147 (by decide +kernel) (by decide +kernel), xm 46 (by decide +kernel) (by decide +kernel), xm 1148 (by decide +kernel) (by decide +kernel), rfl, by decide +kernel, by decide +kernel, by decide +kernel⟩
theorem kc_X8_254 : Jvm.Cond.constantLong RX8 254 (20) ∈ xT := xm 1149 (by decide +kernel) (by decide +kernel)
theorem kv_X8_256 : xLV RX8 256 RX8 yX8_drawn cX8_drawn 1 (some .int) 0 := ⟨xm 1150 (by decide +kernel) (by decide +kernel), xm 1152 (by decide +kernel) (by decide +kernel), xm 34 (by decide +kernel) (by decide +kernel), xm 46 (by decide +kernel) (by decide +kernel), xm 1153 (by decide +kernel) (by decide +kernel), rfl, by decide +kernel, by decide +kernel, by decide +kernel⟩
theorem kc_X8_253 : Jvm.Cond.constant RX8 253 (1103515245) ∈ xT := xm 1154 (by decide +kernel) (by decide +kernel)
theorem kv_JLeakCupsLaw_132 : xLV "LeakCupsLaw" 132 RX8 yX8_brief cX8_brief 6 (some .int) 4 := ⟨xm 1155 (by decide +kernel) (by decide +kernel), xm 1156 (by decide +kernel) (by decide +kernel), xm 1157 (by decide +kernel) (by decide +kernel), xm 46 (by decide +kernel) (by decide +kernel), xm 1158 (by decide +kernel) (by decide +kernel), rfl, by decide +kernel, by decide +kernel, by decide +kernel⟩
theorem ks_X8_267 : xLS RX8 267 yX8_isBrief cX8_isBrief 3 (some .boolean) 3 := ⟨xm 1159 (by decide +kernel) (by decide +kernel), xm 1160 (by decide +kernel) (by decide +kernel), xm 46 (by decide +kernel) (by decide +kernel), xm 1161 (by decide +kernel) (by decide +kernel), by decide +kernel, by decide +kernel, by decide +kernel⟩
theorem kc_X8_265 : Jvm.Cond.constantLong RX8 265 (-999) ∈ xT := xm 1162 (by decide +kernel) (by decide +kernel)
theorem kv_X8_271 : xLV RX8 271 RX8 yX8_begins cX8_begins 3 none 2 := ⟨xm 1163 (by decide +kernel) (by decide +kernel), xm 1165 (by decide +kernel) (by decide +kernel), xm 35 (by decide +kernel) (by decide +kernel), xm 46 (by decide +kernel) (by decide +kernel), xm 1166 (by decide +kernel) (by decide +kernel), rfl, by decide +kernel, by decide +kernel, by decide +kernel⟩
theorem kv_X8_274 : xLV RX8 274 RX8 yX8_briefly cX8_briefly 7 none 0 := ⟨xm 1167 (by decide +kernel) (by decide +kernel), xm 1169 (by decide +kernel) (by decide +kernel), xm 36 (by decide +kernel) (by decide +kernel), xm 46 (by decide +kernel) (by decide +kernel), xm 1170 (by decide +kernel) (by decide +kernel), rfl, by decide +kernel, by decide +kernel, by decide +kernel⟩
theorem kc_X8_259 : Jvm.Cond.constant RX8 259 (-99999) ∈ xT := xm 1171 (by decide +kernel) (by decide +kernel)
theorem kc_X8_260 : Jvm.Cond.constant RX8 260 (99999) ∈ xT := xm 1172 (by decide +kernel) (by decide +kernel)
theorem kc_X8_261 : Jvm.Cond.constantLong RX8 261 (2800) ∈ xT := xm 1173 (by decide +kernel) (by decide +kernel)
theorem kc_X8_263 : Jvm.Cond.constantLong RX8 263 (8) ∈ xT := xm 1174 (by decide +kernel) (by decide +kernel)
theorem kv_JLeakCupsLaw_137 : xLV "LeakCupsLaw" 137 RX8 yX8_flips cX8_flips 8 (some .int) 3 := ⟨xm 1175 (by decide +kernel) (by decide +kernel), xm 1176 (by decide +kernel) (by decide +kernel), xm 1177 (by decide +kernel) (by decide +kernel), xm 46 (by decide +kernel) (by decide +kernel), xm 1178 (by decide +kernel) (by decide +kernel), rfl, by decide +kernel, by decide +kernel, by decide +kernel⟩
theorem kv_JLeakCupsLaw_141 : xLV "LeakCupsLaw" 141 RX8 yX8_seed cX8_seed 3 (some .int) 1 := ⟨xm 1179 (by decide +kernel) (by decide +kernel), xm 1180 (by decide +kernel) (by decide +kernel), xm 1181 (by decide +kernel) (by decide +kernel), xm 46 (by decide +kernel) (by decide +kernel), xm 1182 (by decide +kernel) (by decide +kernel), rfl, by decide +kernel, by decide +kernel, by decide +kernel⟩
theorem kv_JLeakCupsLaw_145 : xLV "LeakCupsLaw" 145 RX8 yX8_hold cX8_hold 3 (some .int) 2 := ⟨xm 1183 (by decide +kernel) (by decide +kernel), xm 1184 (by decide +kernel) (by decide +kernel), xm 1185 (by decide +kernel) (by decide +kernel), xm 46 (by decide +kernel) (by decide +kernel), xm 1186 (by decide +kernel) (by decide +kernel), rfl, by decide +kernel, by decide +kernel, by decide +kernel⟩
theorem kc_X8_277 : Jvm.Cond.constantLong RX8 277 (9) ∈ xT := xm 1187 (by decide +kernel) (by decide +kernel)
theorem kv_JLeakCupsLaw_149 : xLV "LeakCupsLaw" 149 RX8 yX8_as cX8_as 4 (some .int) 2 := ⟨xm 1188 (by decide +kernel) (by decide +kernel), xm 1189 (by decide +kernel) (by decide +kernel), xm 1190 (by decide +kernel) (by decide +kernel), xm 46 (by decide +kernel) (by decide +kernel), xm 1191 (by decide +kernel) (by decide +kernel), rfl, by decide +kernel, by decide +kernel, by decide +kernel⟩
theorem kc_X8_279 : Jvm.Cond.constant RX8 279 (-1000006) ∈ xT := xm 1192 (by decide +kernel) (by decide +kernel)
theorem ks_X8_280 : xLS RX8 280 yX8_isOf cX8_isOf 2 (some .boolean) 2 := ⟨xm 1193 (by decide +kernel) (by decide +kernel), xm 1194 (by decide +kernel) (by decide +kernel), xm 46 (by decide +kernel) (by decide +kernel), xm 1195 (by decide +kernel) (by decide +kernel), by decide +kernel, by decide +kernel, by decide +kernel⟩
theorem kc_X8_283 : Jvm.Cond.constant RX8 283 (-1000003) ∈ xT := xm 1196 (by decide +kernel) (by decide +kernel)
theorem kv_JLeakCupsLaw_153 : xLV "LeakCupsLaw" 153 RX8 yX8_sheet cX8_sheet 5 (some .int) 3 := ⟨xm 1197 (by decide +kernel) (by decide +kernel), xm 1198 (by decide +kernel) (by decide +kernel), xm 1199 (by decide +kernel) (by decide +kernel), xm 46 (by decide +kernel) (by decide +kernel), xm 1200 (by decide +kernel) (by decide +kernel), rfl, by decide +kernel, by decide +kernel, by decide +kernel⟩
theorem ks_X8_284 : xLS RX8 284 yX8_isSheet cX8_isSheet 1 (some .boolean) 1 := ⟨xm 1201 (by decide +kernel) (by decide +kernel), xm 1202 (by decide +kernel) (by decide +kernel), xm 46 (by decide +kernel) (by decide +kernel), xm 1203 (by decide +kernel) (by decide +kernel), by decide +kernel, by decide +kernel, by decide +kernel⟩
theorem kc_X8_287 : Jvm.Cond.constant RX8 287 (-1000007) ∈ xT := xm 1204 (by decide +kernel) (by decide +kernel)
theorem kv_JLeakCupsLaw_157 : xLV "LeakCupsLaw" 157 RX8 yX8_write cX8_write 4 (some .int) 3 := ⟨xm 1205 (by decide +kernel) (by decide +kernel), xm 1206 (by decide +kernel) (by decide +kernel), xm 1207 (by decide +kernel) (by decide +kernel), xm 46 (by decide +kernel) (by decide +kernel), xm 1208 (by decide +kernel) (by decide +kernel), rfl, by decide +kernel, by decide +kernel, by decide +kernel⟩
theorem kv_JLeakCupsLaw_162 : xLV "LeakCupsLaw" 162 RX8 yX8_copy cX8_copy 7 (some .int) 5 := ⟨xm 1209 (by decide +kernel) (by decide +kernel), xm 1210 (by decide +kernel) (by decide +kernel), xm 1211 (by decide +kernel) (by decide +kernel), xm 46 (by decide +kernel) (by decide +kernel), xm 1212 (by decide +kernel) (by decide +kernel), rfl, by decide +kernel, by decide +kernel, by decide +kernel⟩
theorem kv_JLeakCupsLaw_166 : xLV "LeakCupsLaw" 166 RX8 yX8_load cX8_load 3 (some .int) 1 := ⟨xm 1213 (by decide +kernel) (by decide +kernel), xm 1214 (by decide +kernel) (by decide +kernel), xm 1215 (by decide +kernel) (by decide +kernel), xm 46 (by decide +kernel) (by decide +kernel), xm 1216 (by decide +kernel) (by decide +kernel), rfl, by decide +kernel, by decide +kernel, by decide +kernel⟩
theorem kv_JLeakCupsLaw_170 : xLV "LeakCupsLaw" 170 RX8 yX8_judge cX8_judge 3 (some .int) 1 := ⟨xm 1217 (by decide +kernel) (by decide +kernel), xm 1218 (by decide +kernel) (by decide +kernel), xm 1219 (by decide +kernel) (by decide +kernel), xm 46 (by decide +kernel) (by decide +kernel), xm 1220 (by decide +kernel) (by decide +kernel), rfl, by decide +kernel, by decide +kernel, by decide +kernel⟩
theorem kv_JLeakCupsLaw_174 : xLV "LeakCupsLaw" 174 RX8 yX8_image cX8_image 1 (some .int) 0 := ⟨xm 1221 (by decide +kernel) (by decide +kernel), xm 1222 (by decide +kernel) (by decide +kernel), xm 1223 (by decide +kernel) (by decide +kernel), xm 46 (by decide +kernel) (by decide +kernel), xm 1224 (by decide +kernel) (by decide +kernel), rfl, by decide +kernel, by decide +kernel, by decide +kernel⟩
theorem kv_JLeakCupsLaw_178 : xLV "LeakCupsLaw" 178 RX8 yX8_undo cX8_undo 1 (some .int) 0 := ⟨xm 1225 (by decide +kernel) (by decide +kernel), xm 1226 (by decide +kernel) (by decide +kernel), xm 1227 (by decide +kernel) (by decide +kernel), xm 46 (by decide +kernel) (by decide +kernel), xm 1228 (by decide +kernel) (by decide +kernel), rfl, by decide +kernel, by decide +kernel, by decide +kernel⟩
theorem kv_JLeakCupsLaw_182 : xLV "LeakCupsLaw" 182 RX8 yX8_tear cX8_tear 2 (some .int) 0 := ⟨xm 1229 (by decide +kernel) (by decide +kernel), xm 1230 (by decide +kernel) (by decide +kernel), xm 1231 (by decide +kernel) (by decide +kernel), xm 46 (by decide +kernel) (by decide +kernel), xm 1232 (by decide +kernel) (by decide +kernel), rfl, by decide +kernel, by decide +kernel, by decide +kernel⟩
theorem kv_JLeakCupsLaw_186 : xLV "LeakCupsLaw" 186 RX8 yX8_count cX8_count 2 (some .int) 1 := ⟨xm 1233 (by decide +kernel) (by decide +kernel), xm 1234 (by decide +kernel) (by decide +kernel), xm 1235 (by decide +kernel) (by decide +kernel), xm 46 (by decide +kernel) (by decide +kernel), xm 1236 (by decide +kernel) (by decide +kernel), rfl, by decide +kernel, by decide +kernel, by decide +kernel⟩
theorem kv_JLeakCupsLaw_190 : xLV "LeakCupsLaw" 190 RX8 yX8_status cX8_status 4 (some .int) 1 := ⟨xm 1237 (by decide +kernel) (by decide +kernel), xm 1238 (by decide +kernel) (by decide +kernel), xm 1239 (by decide +kernel) (by decide +kernel), xm 46 (by decide +kernel) (by decide +kernel), xm 1240 (by decide +kernel) (by decide +kernel), rfl, by decide +kernel, by decide +kernel, by decide +kernel⟩
theorem fj_JString_9 : Cond.fieldLink "java/lang/String" 9 "java/lang/String" "value" "[B" ∈ xT := xm 1241 (by decide +kernel) (by decide +kernel)
theorem fj_JString_15 : Cond.fieldLink "java/lang/String" 15 "java/lang/String" "coder" "B" ∈ xT := xm 1242 (by decide +kernel) (by decide +kernel)
theorem kM_max : Cond.static Lib.Math.max.name ∈ xT ∧ Cond.initialized "java/lang/Math" ∈ xT ∧ Cond.code Lib.Math.max.name Lib.Math.max.code 2 (some .int) ∈ xT := ⟨xm 321 (by decide +kernel) (by decide +kernel), xm 47 (by decide +kernel) (by decide +kernel), xm 322 (by decide +kernel) (by decide +kernel)⟩
theorem kM_min : Cond.static Lib.Math.min.name ∈ xT ∧ Cond.initialized "java/lang/Math" ∈ xT ∧ Cond.code Lib.Math.min.name Lib.Math.min.code 2 (some .int) ∈ xT := ⟨xm 324 (by decide +kernel) (by decide +kernel), xm 47 (by decide +kernel) (by decide +kernel), xm 325 (by decide +kernel) (by decide +kernel)⟩
theorem kM_abs : Cond.static Lib.Math.abs.name ∈ xT ∧ Cond.initialized "java/lang/Math" ∈ xT ∧ Cond.code Lib.Math.abs.name Lib.Math.abs.code 1 (some .int) ∈ xT := ⟨xm 410 (by decide +kernel) (by decide +kernel), xm 47 (by decide +kernel) (by decide +kernel), xm 411 (by decide +kernel) (by decide +kernel)⟩
theorem kM_maxL : Cond.static Lib.MathLoose.max_long.x ∈ xT ∧ Cond.initialized "java/lang/Math" ∈ xT ∧ Cond.code Lib.MathLoose.max_long.x Lib.MathLoose.max_long.code 4 (some .long) ∈ xT := ⟨xm 713 (by decide +kernel) (by decide +kernel), xm 47 (by decide +kernel) (by decide +kernel), xm 714 (by decide +kernel) (by decide +kernel)⟩
theorem kM_minL : Cond.static Lib.MathLoose.min_long.x ∈ xT ∧ Cond.initialized "java/lang/Math" ∈ xT ∧ Cond.code Lib.MathLoose.min_long.x Lib.MathLoose.min_long.code 4 (some .long) ∈ xT := ⟨xm 710 (by decide +kernel) (by decide +kernel), xm 47 (by decide +kernel) (by decide +kernel), xm 711 (by decide +kernel) (by decide +kernel)⟩
theorem kM_copy : Cond.native arraycopyName ∈ xT ∧ Cond.static arraycopyName ∈ xT ∧ Cond.initialized "java/lang/System" ∈ xT := ⟨xm 624 (by decide +kernel) (by decide +kernel), xm 623 (by decide +kernel) (by decide +kernel), xm 53 (by decide +kernel) (by decide +kernel)⟩
