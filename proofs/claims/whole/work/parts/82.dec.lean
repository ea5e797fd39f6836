section
def RLw : String := "ReconcilerHallLaw"
abbrev cL_make : ByteArray := method_3_code
def yL_make : MethodName := ⟨RLw, "make", "(LReconcilerHall;II[J)I"⟩
abbrev cL_apply : ByteArray := method_4_code
def yL_apply : MethodName := ⟨RLw, "apply", "(LReconcilerHall;IIIIIZ[J)I"⟩
abbrev cL_applyBudget : ByteArray := method_5_code
def yL_applyBudget : MethodName := ⟨RLw, "applyBudget", "(LReconcilerHall;IIIZ[J)I"⟩
abbrev cL_delete : ByteArray := method_6_code
def yL_delete : MethodName := ⟨RLw, "delete", "(LReconcilerHall;II[J)I"⟩
abbrev cL_hold : ByteArray := method_7_code
def yL_hold : MethodName := ⟨RLw, "hold", "(LReconcilerHall;IZ[J)I"⟩
abbrev cL_finish : ByteArray := method_8_code
def yL_finish : MethodName := ⟨RLw, "finish", "(LReconcilerHall;IZ[J)I"⟩
abbrev cL_rule : ByteArray := method_9_code
def yL_rule : MethodName := ⟨RLw, "rule", "(LReconcilerHall;IIIIII[J)I"⟩
abbrev cL_check : ByteArray := method_10_code
def yL_check : MethodName := ⟨RLw, "check", "(LReconcilerHall;III[J)I"⟩
abbrev cL_quota : ByteArray := method_11_code
def yL_quota : MethodName := ⟨RLw, "quota", "(LReconcilerHall;I[J)I"⟩
abbrev cL_see : ByteArray := method_12_code
def yL_see : MethodName := ⟨RLw, "see", "(LReconcilerHall;II[J)I"⟩
abbrev cL_work : ByteArray := method_13_code
def yL_work : MethodName := ⟨RLw, "work", "(LReconcilerHall;I[J)I"⟩
abbrev cL_turn : ByteArray := method_14_code
def yL_turn : MethodName := ⟨RLw, "turn", "(LReconcilerHall;I[J)I"⟩
abbrev cL_seen : ByteArray := method_15_code
def yL_seen : MethodName := ⟨RLw, "seen", "(LReconcilerHall;I[J)I"⟩
abbrev cL_queued : ByteArray := method_16_code
def yL_queued : MethodName := ⟨RLw, "queued", "(LReconcilerHall;II[J)I"⟩
abbrev cL_failures : ByteArray := method_17_code
def yL_failures : MethodName := ⟨RLw, "failures", "(LReconcilerHall;II[J)I"⟩
abbrev cL_believed : ByteArray := method_18_code
def yL_believed : MethodName := ⟨RLw, "believed", "(LReconcilerHall;III[J)I"⟩
abbrev cL_watch : ByteArray := method_19_code
def yL_watch : MethodName := ⟨RLw, "watch", "(LReconcilerHall;II[J)I"⟩
abbrev cL_next : ByteArray := method_20_code
def yL_next : MethodName := ⟨RLw, "next", "(LReconcilerHall;I[J)I"⟩
abbrev cL_list : ByteArray := method_21_code
def yL_list : MethodName := ⟨RLw, "list", "(LReconcilerHall;I[J)I"⟩
abbrev cL_compact : ByteArray := method_22_code
def yL_compact : MethodName := ⟨RLw, "compact", "(LReconcilerHall;I[J)I"⟩
abbrev cL_tick : ByteArray := method_23_code
def yL_tick : MethodName := ⟨RLw, "tick", "(LReconcilerHall;I[J)I"⟩
abbrev cL_beat : ByteArray := method_24_code
def yL_beat : MethodName := ⟨RLw, "beat", "(LReconcilerHall;I[J)I"⟩
abbrev cL_wish : ByteArray := method_25_code
def yL_wish : MethodName := ⟨RLw, "wish", "(LReconcilerHall;II[J)I"⟩
abbrev cL_kindOf : ByteArray := method_26_code
def yL_kindOf : MethodName := ⟨RLw, "kindOf", "(LReconcilerHall;I[J)I"⟩
abbrev cL_field : ByteArray := method_27_code
def yL_field : MethodName := ⟨RLw, "field", "(LReconcilerHall;II[J)I"⟩
abbrev cL_managerOf : ByteArray := method_28_code
def yL_managerOf : MethodName := ⟨RLw, "managerOf", "(LReconcilerHall;II[J)I"⟩
abbrev cL_budget : ByteArray := method_29_code
def yL_budget : MethodName := ⟨RLw, "budget", "(LReconcilerHall;I[J)I"⟩
abbrev cL_versionOf : ByteArray := method_30_code
def yL_versionOf : MethodName := ⟨RLw, "versionOf", "(LReconcilerHall;I[J)I"⟩
abbrev cL_goingOf : ByteArray := method_31_code
def yL_goingOf : MethodName := ⟨RLw, "goingOf", "(LReconcilerHall;I[J)I"⟩
abbrev cL_ownerOf : ByteArray := method_32_code
def yL_ownerOf : MethodName := ⟨RLw, "ownerOf", "(LReconcilerHall;I[J)I"⟩
abbrev cL_phaseOf : ByteArray := method_33_code
def yL_phaseOf : MethodName := ⟨RLw, "phaseOf", "(LReconcilerHall;I[J)I"⟩
abbrev cL_placeOf : ByteArray := method_34_code
def yL_placeOf : MethodName := ⟨RLw, "placeOf", "(LReconcilerHall;I[J)I"⟩
abbrev cL_isReady : ByteArray := method_35_code
def yL_isReady : MethodName := ⟨RLw, "isReady", "(LReconcilerHall;I[J)I"⟩
abbrev cL_isBehind : ByteArray := method_36_code
def yL_isBehind : MethodName := ⟨RLw, "isBehind", "(LReconcilerHall;II[J)I"⟩
abbrev cL_running : ByteArray := method_37_code
def yL_running : MethodName := ⟨RLw, "running", "(LReconcilerHall;IZ[J)I"⟩
abbrev cL_objectOf : ByteArray := method_38_code
def yL_objectOf : MethodName := ⟨RLw, "objectOf", "(LReconcilerHall;I[J)I"⟩
theorem dX0_init_0 : decode cX0_init 0 = .ok (.aload_n 0, 1) := by decide +kernel
theorem dX0_init_1 : decode cX0_init 1 = .ok (.invokespecial 3, 3) := by decide +kernel
theorem dX0_init_4 : decode cX0_init 4 = .ok (.aload_n 0, 1) := by decide +kernel
theorem dX0_init_5 : decode cX0_init 5 = .ok (.bipush 48, 2) := by decide +kernel
theorem dX0_init_7 : decode cX0_init 7 = .ok (.newarray .int, 2) := by decide +kernel
theorem dX0_init_9 : decode cX0_init 9 = .ok (.putfield 11, 3) := by decide +kernel
theorem dX0_init_12 : decode cX0_init 12 = .ok (.aload_n 0, 1) := by decide +kernel
theorem dX0_init_13 : decode cX0_init 13 = .ok (.bipush 24, 2) := by decide +kernel
theorem dX0_init_15 : decode cX0_init 15 = .ok (.newarray .int, 2) := by decide +kernel
theorem dX0_init_17 : decode cX0_init 17 = .ok (.putfield 15, 3) := by decide +kernel
theorem dX0_init_20 : decode cX0_init 20 = .ok (.aload_n 0, 1) := by decide +kernel
theorem dX0_init_21 : decode cX0_init 21 = .ok (.bipush 11, 2) := by decide +kernel
theorem dX0_init_23 : decode cX0_init 23 = .ok (.newarray .int, 2) := by decide +kernel
theorem dX0_init_25 : decode cX0_init 25 = .ok (.putfield 18, 3) := by decide +kernel
theorem dX0_init_28 : decode cX0_init 28 = .ok (.aload_n 0, 1) := by decide +kernel
theorem dX0_init_29 : decode cX0_init 29 = .ok (.bipush 30, 2) := by decide +kernel
theorem dX0_init_31 : decode cX0_init 31 = .ok (.putfield 21, 3) := by decide +kernel
theorem dX0_init_34 : decode cX0_init 34 = .ok (.return_, 1) := by decide +kernel
theorem dX1_init_0 : decode cX1_init 0 = .ok (.aload_n 0, 1) := by decide +kernel
theorem dX1_init_1 : decode cX1_init 1 = .ok (.aload_n 1, 1) := by decide +kernel
theorem dX1_init_2 : decode cX1_init 2 = .ok (.iconst (-1), 1) := by decide +kernel
theorem dX1_init_3 : decode cX1_init 3 = .ok (.invokespecial 3, 3) := by decide +kernel
theorem dX1_init_6 : decode cX1_init 6 = .ok (.return_, 1) := by decide +kernel
theorem dX2_init_0 : decode cX2_init 0 = .ok (.aload_n 0, 1) := by decide +kernel
theorem dX2_init_1 : decode cX2_init 1 = .ok (.aload_n 1, 1) := by decide +kernel
theorem dX2_init_2 : decode cX2_init 2 = .ok (.getfield 3, 3) := by decide +kernel
theorem dX2_init_5 : decode cX2_init 5 = .ok (.invokespecial 9, 3) := by decide +kernel
theorem dX2_init_8 : decode cX2_init 8 = .ok (.aload_n 0, 1) := by decide +kernel
theorem dX2_init_9 : decode cX2_init 9 = .ok (.aload_n 1, 1) := by decide +kernel
theorem dX2_init_10 : decode cX2_init 10 = .ok (.putfield 15, 3) := by decide +kernel
theorem dX2_init_13 : decode cX2_init 13 = .ok (.aload_n 0, 1) := by decide +kernel
theorem dX2_init_14 : decode cX2_init 14 = .ok (.iload_n 2, 1) := by decide +kernel
theorem dX2_init_15 : decode cX2_init 15 = .ok (.putfield 21, 3) := by decide +kernel
theorem dX2_init_18 : decode cX2_init 18 = .ok (.aload_n 0, 1) := by decide +kernel
theorem dX2_init_19 : decode cX2_init 19 = .ok (.bipush 60, 2) := by decide +kernel
theorem dX2_init_21 : decode cX2_init 21 = .ok (.newarray .int, 2) := by decide +kernel
theorem dX2_init_23 : decode cX2_init 23 = .ok (.putfield 25, 3) := by decide +kernel
theorem dX2_init_26 : decode cX2_init 26 = .ok (.aload_n 0, 1) := by decide +kernel
theorem dX2_init_27 : decode cX2_init 27 = .ok (.bipush 60, 2) := by decide +kernel
theorem dX2_init_29 : decode cX2_init 29 = .ok (.newarray .boolean, 2) := by decide +kernel
theorem dX2_init_31 : decode cX2_init 31 = .ok (.putfield 28, 3) := by decide +kernel
theorem dX2_init_34 : decode cX2_init 34 = .ok (.aload_n 0, 1) := by decide +kernel
theorem dX2_init_35 : decode cX2_init 35 = .ok (.bipush 60, 2) := by decide +kernel
theorem dX2_init_37 : decode cX2_init 37 = .ok (.newarray .int, 2) := by decide +kernel
theorem dX2_init_39 : decode cX2_init 39 = .ok (.putfield 32, 3) := by decide +kernel
theorem dX2_init_42 : decode cX2_init 42 = .ok (.aload_n 0, 1) := by decide +kernel
theorem dX2_init_43 : decode cX2_init 43 = .ok (.bipush 60, 2) := by decide +kernel
theorem dX2_init_45 : decode cX2_init 45 = .ok (.newarray .int, 2) := by decide +kernel
theorem dX2_init_47 : decode cX2_init 47 = .ok (.putfield 35, 3) := by decide +kernel
theorem dX2_init_50 : decode cX2_init 50 = .ok (.aload_n 0, 1) := by decide +kernel
theorem dX2_init_51 : decode cX2_init 51 = .ok (.bipush 60, 2) := by decide +kernel
theorem dX2_init_53 : decode cX2_init 53 = .ok (.newarray .int, 2) := by decide +kernel
theorem dX2_init_55 : decode cX2_init 55 = .ok (.putfield 38, 3) := by decide +kernel
theorem dX2_init_58 : decode cX2_init 58 = .ok (.return_, 1) := by decide +kernel
theorem dX3_init_0 : decode cX3_init 0 = .ok (.aload_n 0, 1) := by decide +kernel
theorem dX3_init_1 : decode cX3_init 1 = .ok (.aload_n 1, 1) := by decide +kernel
theorem dX3_init_2 : decode cX3_init 2 = .ok (.iconst 0, 1) := by decide +kernel
theorem dX3_init_3 : decode cX3_init 3 = .ok (.invokespecial 3, 3) := by decide +kernel
theorem dX3_init_6 : decode cX3_init 6 = .ok (.return_, 1) := by decide +kernel
theorem dX4_init_0 : decode cX4_init 0 = .ok (.aload_n 0, 1) := by decide +kernel
theorem dX4_init_1 : decode cX4_init 1 = .ok (.aload_n 1, 1) := by decide +kernel
theorem dX4_init_2 : decode cX4_init 2 = .ok (.iload_n 2, 1) := by decide +kernel
theorem dX4_init_3 : decode cX4_init 3 = .ok (.invokespecial 3, 3) := by decide +kernel
theorem dX4_init_6 : decode cX4_init 6 = .ok (.return_, 1) := by decide +kernel
theorem dX5_init_0 : decode cX5_init 0 = .ok (.aload_n 0, 1) := by decide +kernel
theorem dX5_init_1 : decode cX5_init 1 = .ok (.aload_n 1, 1) := by decide +kernel
theorem dX5_init_2 : decode cX5_init 2 = .ok (.iconst 5, 1) := by decide +kernel
theorem dX5_init_3 : decode cX5_init 3 = .ok (.invokespecial 3, 3) := by decide +kernel
theorem dX5_init_6 : decode cX5_init 6 = .ok (.return_, 1) := by decide +kernel
theorem dX6_init_0 : decode cX6_init 0 = .ok (.aload_n 0, 1) := by decide +kernel
theorem dX6_init_1 : decode cX6_init 1 = .ok (.aload_n 1, 1) := by decide +kernel
theorem dX6_init_2 : decode cX6_init 2 = .ok (.iconst 2, 1) := by decide +kernel
theorem dX6_init_3 : decode cX6_init 3 = .ok (.invokespecial 3, 3) := by decide +kernel
theorem dX6_init_6 : decode cX6_init 6 = .ok (.return_, 1) := by decide +kernel
theorem dX7_init_0 : decode cX7_init 0 = .ok (.aload_n 0, 1) := by decide +kernel
theorem dX7_init_1 : decode cX7_init 1 = .ok (.aload_n 1, 1) := by decide +kernel
theorem dX7_init_2 : decode cX7_init 2 = .ok (.iconst 0, 1) := by decide +kernel
theorem dX7_init_3 : decode cX7_init 3 = .ok (.invokespecial 3, 3) := by decide +kernel
theorem dX7_init_6 : decode cX7_init 6 = .ok (.aload_n 0, 1) := by decide +kernel
theorem dX7_init_7 : decode cX7_init 7 = .ok (.bipush 60, 2) := by decide +kernel
theorem dX7_init_9 : decode cX7_init 9 = .ok (.newarray .int, 2) := by decide +kernel
theorem dX7_init_11 : decode cX7_init 11 = .ok (.putfield 9, 3) := by decide +kernel
theorem dX7_init_14 : decode cX7_init 14 = .ok (.iconst 0, 1) := by decide +kernel
theorem dX7_init_15 : decode cX7_init 15 = .ok (.istore_n 2, 1) := by decide +kernel
theorem dX7_init_16 : decode cX7_init 16 = .ok (.iload_n 2, 1) := by decide +kernel
theorem dX7_init_17 : decode cX7_init 17 = .ok (.bipush 60, 2) := by decide +kernel
theorem dX7_init_19 : decode cX7_init 19 = .ok (.if_icmp .ge 16, 3) := by decide +kernel
theorem dX7_init_22 : decode cX7_init 22 = .ok (.aload_n 0, 1) := by decide +kernel
theorem dX7_init_23 : decode cX7_init 23 = .ok (.getfield 9, 3) := by decide +kernel
theorem dX7_init_26 : decode cX7_init 26 = .ok (.iload_n 2, 1) := by decide +kernel
theorem dX7_init_27 : decode cX7_init 27 = .ok (.iconst (-1), 1) := by decide +kernel
theorem dX7_init_28 : decode cX7_init 28 = .ok (.iastore, 1) := by decide +kernel
theorem dX7_init_29 : decode cX7_init 29 = .ok (.iinc 2 1, 3) := by decide +kernel
theorem dX7_init_32 : decode cX7_init 32 = .ok (.goto (-16), 3) := by decide +kernel
theorem dX7_init_35 : decode cX7_init 35 = .ok (.return_, 1) := by decide +kernel
theorem dX8_init_0 : decode cX8_init 0 = .ok (.aload_n 0, 1) := by decide +kernel
theorem dX8_init_1 : decode cX8_init 1 = .ok (.aload_n 1, 1) := by decide +kernel
theorem dX8_init_2 : decode cX8_init 2 = .ok (.iconst 2, 1) := by decide +kernel
theorem dX8_init_3 : decode cX8_init 3 = .ok (.invokespecial 3, 3) := by decide +kernel
theorem dX8_init_6 : decode cX8_init 6 = .ok (.aload_n 0, 1) := by decide +kernel
theorem dX8_init_7 : decode cX8_init 7 = .ok (.bipush 60, 2) := by decide +kernel
theorem dX8_init_9 : decode cX8_init 9 = .ok (.newarray .int, 2) := by decide +kernel
theorem dX8_init_11 : decode cX8_init 11 = .ok (.putfield 9, 3) := by decide +kernel
theorem dX8_init_14 : decode cX8_init 14 = .ok (.aload_n 0, 1) := by decide +kernel
theorem dX8_init_15 : decode cX8_init 15 = .ok (.iconst 3, 1) := by decide +kernel
theorem dX8_init_16 : decode cX8_init 16 = .ok (.newarray .int, 2) := by decide +kernel
theorem dX8_init_18 : decode cX8_init 18 = .ok (.putfield 15, 3) := by decide +kernel
theorem dX8_init_21 : decode cX8_init 21 = .ok (.aload_n 0, 1) := by decide +kernel
theorem dX8_init_22 : decode cX8_init 22 = .ok (.bipush 60, 2) := by decide +kernel
theorem dX8_init_24 : decode cX8_init 24 = .ok (.newarray .int, 2) := by decide +kernel
theorem dX8_init_26 : decode cX8_init 26 = .ok (.putfield 18, 3) := by decide +kernel
theorem dX8_init_29 : decode cX8_init 29 = .ok (.return_, 1) := by decide +kernel
theorem dX9_init_0 : decode cX9_init 0 = .ok (.aload_n 0, 1) := by decide +kernel
theorem dX9_init_1 : decode cX9_init 1 = .ok (.invokestatic 3, 3) := by decide +kernel
theorem dX9_init_4 : decode cX9_init 4 = .ok (.invokespecial 9, 3) := by decide +kernel
theorem dX9_init_7 : decode cX9_init 7 = .ok (.aload_n 0, 1) := by decide +kernel
theorem dX9_init_8 : decode cX9_init 8 = .ok (.new 15, 3) := by decide +kernel
theorem dX9_init_11 : decode cX9_init 11 = .ok (.dup, 1) := by decide +kernel
theorem dX9_init_12 : decode cX9_init 12 = .ok (.invokespecial 17, 3) := by decide +kernel
theorem dX9_init_15 : decode cX9_init 15 = .ok (.putfield 20, 3) := by decide +kernel
theorem dX9_init_18 : decode cX9_init 18 = .ok (.aload_n 0, 1) := by decide +kernel
theorem dX9_init_19 : decode cX9_init 19 = .ok (.bipush 60, 2) := by decide +kernel
theorem dX9_init_21 : decode cX9_init 21 = .ok (.newarray .int, 2) := by decide +kernel
theorem dX9_init_23 : decode cX9_init 23 = .ok (.putfield 24, 3) := by decide +kernel
theorem dX9_init_26 : decode cX9_init 26 = .ok (.aload_n 0, 1) := by decide +kernel
theorem dX9_init_27 : decode cX9_init 27 = .ok (.bipush 32, 2) := by decide +kernel
theorem dX9_init_29 : decode cX9_init 29 = .ok (.newarray .int, 2) := by decide +kernel
theorem dX9_init_31 : decode cX9_init 31 = .ok (.putfield 28, 3) := by decide +kernel
theorem dX9_init_34 : decode cX9_init 34 = .ok (.return_, 1) := by decide +kernel
theorem dX9_emptyLog_0 : decode cX9_emptyLog 0 = .ok (.sipush 12832, 3) := by decide +kernel
theorem dX9_emptyLog_3 : decode cX9_emptyLog 3 = .ok (.newarray .int, 2) := by decide +kernel
theorem dX9_emptyLog_5 : decode cX9_emptyLog 5 = .ok (.astore_n 0, 1) := by decide +kernel
theorem dX9_emptyLog_6 : decode cX9_emptyLog 6 = .ok (.iconst 0, 1) := by decide +kernel
theorem dX9_emptyLog_7 : decode cX9_emptyLog 7 = .ok (.istore_n 1, 1) := by decide +kernel
theorem dX9_emptyLog_8 : decode cX9_emptyLog 8 = .ok (.iload_n 1, 1) := by decide +kernel
theorem dX9_emptyLog_9 : decode cX9_emptyLog 9 = .ok (.bipush 32, 2) := by decide +kernel
theorem dX9_emptyLog_11 : decode cX9_emptyLog 11 = .ok (.if_icmp .ge 13, 3) := by decide +kernel
theorem dX9_emptyLog_14 : decode cX9_emptyLog 14 = .ok (.aload_n 0, 1) := by decide +kernel
theorem dX9_emptyLog_15 : decode cX9_emptyLog 15 = .ok (.iload_n 1, 1) := by decide +kernel
theorem dX9_emptyLog_16 : decode cX9_emptyLog 16 = .ok (.iconst (-1), 1) := by decide +kernel
theorem dX9_emptyLog_17 : decode cX9_emptyLog 17 = .ok (.iastore, 1) := by decide +kernel
theorem dX9_emptyLog_18 : decode cX9_emptyLog 18 = .ok (.iinc 1 1, 3) := by decide +kernel
theorem dX9_emptyLog_21 : decode cX9_emptyLog 21 = .ok (.goto (-13), 3) := by decide +kernel
theorem dX9_emptyLog_24 : decode cX9_emptyLog 24 = .ok (.aload_n 0, 1) := by decide +kernel
theorem dX9_emptyLog_25 : decode cX9_emptyLog 25 = .ok (.bipush 25, 2) := by decide +kernel
theorem dX9_emptyLog_27 : decode cX9_emptyLog 27 = .ok (.iconst 4, 1) := by decide +kernel
theorem dX9_emptyLog_28 : decode cX9_emptyLog 28 = .ok (.iastore, 1) := by decide +kernel
theorem dX9_emptyLog_29 : decode cX9_emptyLog 29 = .ok (.aload_n 0, 1) := by decide +kernel
theorem dX9_emptyLog_30 : decode cX9_emptyLog 30 = .ok (.areturn, 1) := by decide +kernel
theorem dX10_init_0 : decode cX10_init 0 = .ok (.aload_n 0, 1) := by decide +kernel
theorem dX10_init_1 : decode cX10_init 1 = .ok (.invokespecial 3, 3) := by decide +kernel
theorem dX10_init_4 : decode cX10_init 4 = .ok (.aload_n 0, 1) := by decide +kernel
theorem dX10_init_5 : decode cX10_init 5 = .ok (.aload_n 1, 1) := by decide +kernel
theorem dX10_init_6 : decode cX10_init 6 = .ok (.putfield 9, 3) := by decide +kernel
theorem dX10_init_9 : decode cX10_init 9 = .ok (.aload_n 0, 1) := by decide +kernel
theorem dX10_init_10 : decode cX10_init 10 = .ok (.bipush 60, 2) := by decide +kernel
theorem dX10_init_12 : decode cX10_init 12 = .ok (.newarray .int, 2) := by decide +kernel
theorem dX10_init_14 : decode cX10_init 14 = .ok (.putfield 15, 3) := by decide +kernel
theorem dX10_init_17 : decode cX10_init 17 = .ok (.return_, 1) := by decide +kernel
theorem dX11_init_0 : decode cX11_init 0 = .ok (.aload_n 0, 1) := by decide +kernel
theorem dX11_init_1 : decode cX11_init 1 = .ok (.invokespecial 1, 3) := by decide +kernel
theorem dX11_init_4 : decode cX11_init 4 = .ok (.aload_n 0, 1) := by decide +kernel
theorem dX11_init_5 : decode cX11_init 5 = .ok (.new 7, 3) := by decide +kernel
theorem dX11_init_8 : decode cX11_init 8 = .ok (.dup, 1) := by decide +kernel
theorem dX11_init_9 : decode cX11_init 9 = .ok (.invokespecial 9, 3) := by decide +kernel
theorem dX11_init_12 : decode cX11_init 12 = .ok (.putfield 10, 3) := by decide +kernel
theorem dX11_init_15 : decode cX11_init 15 = .ok (.aload_n 0, 1) := by decide +kernel
theorem dX11_init_16 : decode cX11_init 16 = .ok (.bipush 8, 2) := by decide +kernel
theorem dX11_init_18 : decode cX11_init 18 = .ok (.anewarray 16, 3) := by decide +kernel
theorem dX11_init_21 : decode cX11_init 21 = .ok (.putfield 18, 3) := by decide +kernel
theorem dX11_init_24 : decode cX11_init 24 = .ok (.aload_n 0, 1) := by decide +kernel
theorem dX11_init_25 : decode cX11_init 25 = .ok (.getfield 18, 3) := by decide +kernel
theorem dX11_init_28 : decode cX11_init 28 = .ok (.iconst 0, 1) := by decide +kernel
theorem dX11_init_29 : decode cX11_init 29 = .ok (.new 22, 3) := by decide +kernel
theorem dX11_init_32 : decode cX11_init 32 = .ok (.dup, 1) := by decide +kernel
theorem dX11_init_33 : decode cX11_init 33 = .ok (.aload_n 0, 1) := by decide +kernel
theorem dX11_init_34 : decode cX11_init 34 = .ok (.getfield 10, 3) := by decide +kernel
theorem dX11_init_37 : decode cX11_init 37 = .ok (.invokespecial 24, 3) := by decide +kernel
theorem dX11_init_40 : decode cX11_init 40 = .ok (.aastore, 1) := by decide +kernel
theorem dX11_init_41 : decode cX11_init 41 = .ok (.aload_n 0, 1) := by decide +kernel
theorem dX11_init_42 : decode cX11_init 42 = .ok (.getfield 18, 3) := by decide +kernel
theorem dX11_init_45 : decode cX11_init 45 = .ok (.iconst 1, 1) := by decide +kernel
theorem dX11_init_46 : decode cX11_init 46 = .ok (.new 27, 3) := by decide +kernel
theorem dX11_init_49 : decode cX11_init 49 = .ok (.dup, 1) := by decide +kernel
theorem dX11_init_50 : decode cX11_init 50 = .ok (.aload_n 0, 1) := by decide +kernel
theorem dX11_init_51 : decode cX11_init 51 = .ok (.getfield 10, 3) := by decide +kernel
theorem dX11_init_54 : decode cX11_init 54 = .ok (.iconst 1, 1) := by decide +kernel
theorem dX11_init_55 : decode cX11_init 55 = .ok (.invokespecial 29, 3) := by decide +kernel
theorem dX11_init_58 : decode cX11_init 58 = .ok (.aastore, 1) := by decide +kernel
theorem dX11_init_59 : decode cX11_init 59 = .ok (.aload_n 0, 1) := by decide +kernel
theorem dX11_init_60 : decode cX11_init 60 = .ok (.getfield 18, 3) := by decide +kernel
theorem dX11_init_63 : decode cX11_init 63 = .ok (.iconst 2, 1) := by decide +kernel
theorem dX11_init_64 : decode cX11_init 64 = .ok (.new 27, 3) := by decide +kernel
theorem dX11_init_67 : decode cX11_init 67 = .ok (.dup, 1) := by decide +kernel
theorem dX11_init_68 : decode cX11_init 68 = .ok (.aload_n 0, 1) := by decide +kernel
theorem dX11_init_69 : decode cX11_init 69 = .ok (.getfield 10, 3) := by decide +kernel
theorem dX11_init_72 : decode cX11_init 72 = .ok (.iconst 3, 1) := by decide +kernel
theorem dX11_init_73 : decode cX11_init 73 = .ok (.invokespecial 29, 3) := by decide +kernel
theorem dX11_init_76 : decode cX11_init 76 = .ok (.aastore, 1) := by decide +kernel
theorem dX11_init_77 : decode cX11_init 77 = .ok (.aload_n 0, 1) := by decide +kernel
theorem dX11_init_78 : decode cX11_init 78 = .ok (.getfield 18, 3) := by decide +kernel
theorem dX11_init_81 : decode cX11_init 81 = .ok (.iconst 3, 1) := by decide +kernel
theorem dX11_init_82 : decode cX11_init 82 = .ok (.new 32, 3) := by decide +kernel
theorem dX11_init_85 : decode cX11_init 85 = .ok (.dup, 1) := by decide +kernel
theorem dX11_init_86 : decode cX11_init 86 = .ok (.aload_n 0, 1) := by decide +kernel
theorem dX11_init_87 : decode cX11_init 87 = .ok (.getfield 10, 3) := by decide +kernel
theorem dX11_init_90 : decode cX11_init 90 = .ok (.invokespecial 34, 3) := by decide +kernel
theorem dX11_init_93 : decode cX11_init 93 = .ok (.aastore, 1) := by decide +kernel
theorem dX11_init_94 : decode cX11_init 94 = .ok (.aload_n 0, 1) := by decide +kernel
theorem dX11_init_95 : decode cX11_init 95 = .ok (.getfield 18, 3) := by decide +kernel
theorem dX11_init_98 : decode cX11_init 98 = .ok (.iconst 4, 1) := by decide +kernel
theorem dX11_init_99 : decode cX11_init 99 = .ok (.new 35, 3) := by decide +kernel
theorem dX11_init_102 : decode cX11_init 102 = .ok (.dup, 1) := by decide +kernel
theorem dX11_init_103 : decode cX11_init 103 = .ok (.aload_n 0, 1) := by decide +kernel
theorem dX11_init_104 : decode cX11_init 104 = .ok (.getfield 10, 3) := by decide +kernel
theorem dX11_init_107 : decode cX11_init 107 = .ok (.invokespecial 37, 3) := by decide +kernel
theorem dX11_init_110 : decode cX11_init 110 = .ok (.aastore, 1) := by decide +kernel
theorem dX11_init_111 : decode cX11_init 111 = .ok (.aload_n 0, 1) := by decide +kernel
theorem dX11_init_112 : decode cX11_init 112 = .ok (.getfield 18, 3) := by decide +kernel
theorem dX11_init_115 : decode cX11_init 115 = .ok (.iconst 5, 1) := by decide +kernel
theorem dX11_init_116 : decode cX11_init 116 = .ok (.new 38, 3) := by decide +kernel
theorem dX11_init_119 : decode cX11_init 119 = .ok (.dup, 1) := by decide +kernel
theorem dX11_init_120 : decode cX11_init 120 = .ok (.aload_n 0, 1) := by decide +kernel
theorem dX11_init_121 : decode cX11_init 121 = .ok (.getfield 10, 3) := by decide +kernel
theorem dX11_init_124 : decode cX11_init 124 = .ok (.invokespecial 40, 3) := by decide +kernel
theorem dX11_init_127 : decode cX11_init 127 = .ok (.aastore, 1) := by decide +kernel
theorem dX11_init_128 : decode cX11_init 128 = .ok (.aload_n 0, 1) := by decide +kernel
theorem dX11_init_129 : decode cX11_init 129 = .ok (.getfield 18, 3) := by decide +kernel
theorem dX11_init_132 : decode cX11_init 132 = .ok (.bipush 6, 2) := by decide +kernel
theorem dX11_init_134 : decode cX11_init 134 = .ok (.new 41, 3) := by decide +kernel
theorem dX11_init_137 : decode cX11_init 137 = .ok (.dup, 1) := by decide +kernel
theorem dX11_init_138 : decode cX11_init 138 = .ok (.aload_n 0, 1) := by decide +kernel
theorem dX11_init_139 : decode cX11_init 139 = .ok (.getfield 10, 3) := by decide +kernel
theorem dX11_init_142 : decode cX11_init 142 = .ok (.invokespecial 43, 3) := by decide +kernel
theorem dX11_init_145 : decode cX11_init 145 = .ok (.aastore, 1) := by decide +kernel
theorem dX11_init_146 : decode cX11_init 146 = .ok (.aload_n 0, 1) := by decide +kernel
theorem dX11_init_147 : decode cX11_init 147 = .ok (.getfield 18, 3) := by decide +kernel
theorem dX11_init_150 : decode cX11_init 150 = .ok (.bipush 7, 2) := by decide +kernel
theorem dX11_init_152 : decode cX11_init 152 = .ok (.new 44, 3) := by decide +kernel
theorem dX11_init_155 : decode cX11_init 155 = .ok (.dup, 1) := by decide +kernel
theorem dX11_init_156 : decode cX11_init 156 = .ok (.aload_n 0, 1) := by decide +kernel
theorem dX11_init_157 : decode cX11_init 157 = .ok (.getfield 10, 3) := by decide +kernel
theorem dX11_init_160 : decode cX11_init 160 = .ok (.invokespecial 46, 3) := by decide +kernel
theorem dX11_init_163 : decode cX11_init 163 = .ok (.aastore, 1) := by decide +kernel
theorem dX11_init_164 : decode cX11_init 164 = .ok (.aload_n 0, 1) := by decide +kernel
theorem dX11_init_165 : decode cX11_init 165 = .ok (.iconst 4, 1) := by decide +kernel
theorem dX11_init_166 : decode cX11_init 166 = .ok (.newarray .int, 2) := by decide +kernel
theorem dX11_init_168 : decode cX11_init 168 = .ok (.putfield 47, 3) := by decide +kernel
theorem dX11_init_171 : decode cX11_init 171 = .ok (.aload_n 0, 1) := by decide +kernel
theorem dX11_init_172 : decode cX11_init 172 = .ok (.bipush 60, 2) := by decide +kernel
theorem dX11_init_174 : decode cX11_init 174 = .ok (.newarray .int, 2) := by decide +kernel
theorem dX11_init_176 : decode cX11_init 176 = .ok (.putfield 51, 3) := by decide +kernel
theorem dX11_init_179 : decode cX11_init 179 = .ok (.iconst 0, 1) := by decide +kernel
theorem dX11_init_180 : decode cX11_init 180 = .ok (.istore_n 1, 1) := by decide +kernel
theorem dX11_init_181 : decode cX11_init 181 = .ok (.iload_n 1, 1) := by decide +kernel
theorem dX11_init_182 : decode cX11_init 182 = .ok (.bipush 60, 2) := by decide +kernel
theorem dX11_init_184 : decode cX11_init 184 = .ok (.if_icmp .ge 16, 3) := by decide +kernel
theorem dX11_init_187 : decode cX11_init 187 = .ok (.aload_n 0, 1) := by decide +kernel
theorem dX11_init_188 : decode cX11_init 188 = .ok (.getfield 51, 3) := by decide +kernel
theorem dX11_init_191 : decode cX11_init 191 = .ok (.iload_n 1, 1) := by decide +kernel
theorem dX11_init_192 : decode cX11_init 192 = .ok (.iconst (-1), 1) := by decide +kernel
theorem dX11_init_193 : decode cX11_init 193 = .ok (.iastore, 1) := by decide +kernel
theorem dX11_init_194 : decode cX11_init 194 = .ok (.iinc 1 1, 3) := by decide +kernel
theorem dX11_init_197 : decode cX11_init 197 = .ok (.goto (-16), 3) := by decide +kernel
theorem dX11_init_200 : decode cX11_init 200 = .ok (.return_, 1) := by decide +kernel
theorem dX12_init_0 : decode cX12_init 0 = .ok (.aload_n 0, 1) := by decide +kernel
theorem dX12_init_1 : decode cX12_init 1 = .ok (.invokespecial 1, 3) := by decide +kernel
theorem dX12_init_4 : decode cX12_init 4 = .ok (.aload_n 0, 1) := by decide +kernel
theorem dX12_init_5 : decode cX12_init 5 = .ok (.bipush 17, 2) := by decide +kernel
theorem dX12_init_7 : decode cX12_init 7 = .ok (.newarray .int, 2) := by decide +kernel
theorem dX12_init_9 : decode cX12_init 9 = .ok (.putfield 7, 3) := by decide +kernel
theorem dX12_init_12 : decode cX12_init 12 = .ok (.aload_n 0, 1) := by decide +kernel
theorem dX12_init_13 : decode cX12_init 13 = .ok (.bipush 17, 2) := by decide +kernel
theorem dX12_init_15 : decode cX12_init 15 = .ok (.newarray .int, 2) := by decide +kernel
theorem dX12_init_17 : decode cX12_init 17 = .ok (.putfield 13, 3) := by decide +kernel
theorem dX12_init_20 : decode cX12_init 20 = .ok (.aload_n 0, 1) := by decide +kernel
theorem dX12_init_21 : decode cX12_init 21 = .ok (.bipush 11, 2) := by decide +kernel
theorem dX12_init_23 : decode cX12_init 23 = .ok (.newarray .int, 2) := by decide +kernel
theorem dX12_init_25 : decode cX12_init 25 = .ok (.putfield 16, 3) := by decide +kernel
theorem dX12_init_28 : decode cX12_init 28 = .ok (.aload_n 0, 1) := by decide +kernel
theorem dX12_init_29 : decode cX12_init 29 = .ok (.bipush 11, 2) := by decide +kernel
theorem dX12_init_31 : decode cX12_init 31 = .ok (.newarray .int, 2) := by decide +kernel
theorem dX12_init_33 : decode cX12_init 33 = .ok (.putfield 19, 3) := by decide +kernel
theorem dX12_init_36 : decode cX12_init 36 = .ok (.aload_n 0, 1) := by decide +kernel
theorem dX12_init_37 : decode cX12_init 37 = .ok (.bipush 6, 2) := by decide +kernel
theorem dX12_init_39 : decode cX12_init 39 = .ok (.newarray .int, 2) := by decide +kernel
theorem dX12_init_41 : decode cX12_init 41 = .ok (.putfield 22, 3) := by decide +kernel
theorem dX12_init_44 : decode cX12_init 44 = .ok (.aload_n 0, 1) := by decide +kernel
theorem dX12_init_45 : decode cX12_init 45 = .ok (.bipush 60, 2) := by decide +kernel
theorem dX12_init_47 : decode cX12_init 47 = .ok (.newarray .int, 2) := by decide +kernel
theorem dX12_init_49 : decode cX12_init 49 = .ok (.putfield 25, 3) := by decide +kernel
theorem dX12_init_52 : decode cX12_init 52 = .ok (.aload_n 0, 1) := by decide +kernel
theorem dX12_init_53 : decode cX12_init 53 = .ok (.bipush 60, 2) := by decide +kernel
theorem dX12_init_55 : decode cX12_init 55 = .ok (.newarray .long, 2) := by decide +kernel
theorem dX12_init_57 : decode cX12_init 57 = .ok (.putfield 28, 3) := by decide +kernel
theorem dX12_init_60 : decode cX12_init 60 = .ok (.aload_n 0, 1) := by decide +kernel
theorem dX12_init_61 : decode cX12_init 61 = .ok (.bipush 60, 2) := by decide +kernel
theorem dX12_init_63 : decode cX12_init 63 = .ok (.newarray .long, 2) := by decide +kernel
theorem dX12_init_65 : decode cX12_init 65 = .ok (.putfield 32, 3) := by decide +kernel
theorem dX12_init_68 : decode cX12_init 68 = .ok (.aload_n 0, 1) := by decide +kernel
theorem dX12_init_69 : decode cX12_init 69 = .ok (.bipush 60, 2) := by decide +kernel
theorem dX12_init_71 : decode cX12_init 71 = .ok (.newarray .int, 2) := by decide +kernel
theorem dX12_init_73 : decode cX12_init 73 = .ok (.putfield 35, 3) := by decide +kernel
theorem dX12_init_76 : decode cX12_init 76 = .ok (.aload_n 0, 1) := by decide +kernel
theorem dX12_init_77 : decode cX12_init 77 = .ok (.sipush 660, 3) := by decide +kernel
theorem dX12_init_80 : decode cX12_init 80 = .ok (.newarray .int, 2) := by decide +kernel
theorem dX12_init_82 : decode cX12_init 82 = .ok (.putfield 38, 3) := by decide +kernel
theorem dX12_init_85 : decode cX12_init 85 = .ok (.aload_n 0, 1) := by decide +kernel
theorem dX12_init_86 : decode cX12_init 86 = .ok (.bipush 60, 2) := by decide +kernel
theorem dX12_init_88 : decode cX12_init 88 = .ok (.newarray .int, 2) := by decide +kernel
theorem dX12_init_90 : decode cX12_init 90 = .ok (.putfield 41, 3) := by decide +kernel
theorem dX12_init_93 : decode cX12_init 93 = .ok (.aload_n 0, 1) := by decide +kernel
theorem dX12_init_94 : decode cX12_init 94 = .ok (.bipush 60, 2) := by decide +kernel
theorem dX12_init_96 : decode cX12_init 96 = .ok (.newarray .int, 2) := by decide +kernel
theorem dX12_init_98 : decode cX12_init 98 = .ok (.putfield 44, 3) := by decide +kernel
theorem dX12_init_101 : decode cX12_init 101 = .ok (.aload_n 0, 1) := by decide +kernel
theorem dX12_init_102 : decode cX12_init 102 = .ok (.bipush 60, 2) := by decide +kernel
theorem dX12_init_104 : decode cX12_init 104 = .ok (.newarray .int, 2) := by decide +kernel
theorem dX12_init_106 : decode cX12_init 106 = .ok (.putfield 47, 3) := by decide +kernel
theorem dX12_init_109 : decode cX12_init 109 = .ok (.aload_n 0, 1) := by decide +kernel
theorem dX12_init_110 : decode cX12_init 110 = .ok (.sipush 401, 3) := by decide +kernel
theorem dX12_init_113 : decode cX12_init 113 = .ok (.newarray .int, 2) := by decide +kernel
theorem dX12_init_115 : decode cX12_init 115 = .ok (.putfield 50, 3) := by decide +kernel
theorem dX12_init_118 : decode cX12_init 118 = .ok (.aload_n 0, 1) := by decide +kernel
theorem dX12_init_119 : decode cX12_init 119 = .ok (.sipush 401, 3) := by decide +kernel
theorem dX12_init_122 : decode cX12_init 122 = .ok (.newarray .long, 2) := by decide +kernel
theorem dX12_init_124 : decode cX12_init 124 = .ok (.putfield 53, 3) := by decide +kernel
theorem dX12_init_127 : decode cX12_init 127 = .ok (.aload_n 0, 1) := by decide +kernel
theorem dX12_init_128 : decode cX12_init 128 = .ok (.sipush 401, 3) := by decide +kernel
theorem dX12_init_131 : decode cX12_init 131 = .ok (.newarray .long, 2) := by decide +kernel
theorem dX12_init_133 : decode cX12_init 133 = .ok (.putfield 56, 3) := by decide +kernel
theorem dX12_init_136 : decode cX12_init 136 = .ok (.aload_n 0, 1) := by decide +kernel
theorem dX12_init_137 : decode cX12_init 137 = .ok (.bipush 8, 2) := by decide +kernel
theorem dX12_init_139 : decode cX12_init 139 = .ok (.newarray .int, 2) := by decide +kernel
theorem dX12_init_141 : decode cX12_init 141 = .ok (.putfield 59, 3) := by decide +kernel
theorem dX12_init_144 : decode cX12_init 144 = .ok (.aload_n 0, 1) := by decide +kernel
theorem dX12_init_145 : decode cX12_init 145 = .ok (.bipush 8, 2) := by decide +kernel
theorem dX12_init_147 : decode cX12_init 147 = .ok (.newarray .int, 2) := by decide +kernel
theorem dX12_init_149 : decode cX12_init 149 = .ok (.putfield 62, 3) := by decide +kernel
theorem dX12_init_152 : decode cX12_init 152 = .ok (.aload_n 0, 1) := by decide +kernel
theorem dX12_init_153 : decode cX12_init 153 = .ok (.bipush 8, 2) := by decide +kernel
theorem dX12_init_155 : decode cX12_init 155 = .ok (.newarray .int, 2) := by decide +kernel
theorem dX12_init_157 : decode cX12_init 157 = .ok (.putfield 65, 3) := by decide +kernel
theorem dX12_init_160 : decode cX12_init 160 = .ok (.aload_n 0, 1) := by decide +kernel
theorem dX12_init_161 : decode cX12_init 161 = .ok (.bipush 8, 2) := by decide +kernel
theorem dX12_init_163 : decode cX12_init 163 = .ok (.newarray .int, 2) := by decide +kernel
theorem dX12_init_165 : decode cX12_init 165 = .ok (.putfield 68, 3) := by decide +kernel
theorem dX12_init_168 : decode cX12_init 168 = .ok (.aload_n 0, 1) := by decide +kernel
theorem dX12_init_169 : decode cX12_init 169 = .ok (.bipush 8, 2) := by decide +kernel
theorem dX12_init_171 : decode cX12_init 171 = .ok (.newarray .int, 2) := by decide +kernel
theorem dX12_init_173 : decode cX12_init 173 = .ok (.putfield 71, 3) := by decide +kernel
theorem dX12_init_176 : decode cX12_init 176 = .ok (.aload_n 0, 1) := by decide +kernel
theorem dX12_init_177 : decode cX12_init 177 = .ok (.bipush 8, 2) := by decide +kernel
theorem dX12_init_179 : decode cX12_init 179 = .ok (.newarray .int, 2) := by decide +kernel
theorem dX12_init_181 : decode cX12_init 181 = .ok (.putfield 74, 3) := by decide +kernel
theorem dX12_init_184 : decode cX12_init 184 = .ok (.aload_n 0, 1) := by decide +kernel
theorem dX12_init_185 : decode cX12_init 185 = .ok (.bipush 8, 2) := by decide +kernel
theorem dX12_init_187 : decode cX12_init 187 = .ok (.newarray .int, 2) := by decide +kernel
theorem dX12_init_189 : decode cX12_init 189 = .ok (.putfield 77, 3) := by decide +kernel
theorem dX12_init_192 : decode cX12_init 192 = .ok (.aload_n 0, 1) := by decide +kernel
theorem dX12_init_193 : decode cX12_init 193 = .ok (.bipush 8, 2) := by decide +kernel
theorem dX12_init_195 : decode cX12_init 195 = .ok (.newarray .int, 2) := by decide +kernel
theorem dX12_init_197 : decode cX12_init 197 = .ok (.putfield 80, 3) := by decide +kernel
theorem dX12_init_200 : decode cX12_init 200 = .ok (.aload_n 0, 1) := by decide +kernel
theorem dX12_init_201 : decode cX12_init 201 = .ok (.bipush 8, 2) := by decide +kernel
theorem dX12_init_203 : decode cX12_init 203 = .ok (.newarray .int, 2) := by decide +kernel
theorem dX12_init_205 : decode cX12_init 205 = .ok (.putfield 83, 3) := by decide +kernel
theorem dX12_init_208 : decode cX12_init 208 = .ok (.aload_n 0, 1) := by decide +kernel
theorem dX12_init_209 : decode cX12_init 209 = .ok (.bipush 30, 2) := by decide +kernel
theorem dX12_init_211 : decode cX12_init 211 = .ok (.putfield 86, 3) := by decide +kernel
theorem dX12_init_214 : decode cX12_init 214 = .ok (.aload_n 0, 1) := by decide +kernel
theorem dX12_init_215 : decode cX12_init 215 = .ok (.bipush 8, 2) := by decide +kernel
theorem dX12_init_217 : decode cX12_init 217 = .ok (.newarray .int, 2) := by decide +kernel
theorem dX12_init_219 : decode cX12_init 219 = .ok (.putfield 90, 3) := by decide +kernel
theorem dX12_init_222 : decode cX12_init 222 = .ok (.aload_n 0, 1) := by decide +kernel
theorem dX12_init_223 : decode cX12_init 223 = .ok (.sipush 480, 3) := by decide +kernel
theorem dX12_init_226 : decode cX12_init 226 = .ok (.newarray .boolean, 2) := by decide +kernel
theorem dX12_init_228 : decode cX12_init 228 = .ok (.putfield 93, 3) := by decide +kernel
theorem dX12_init_231 : decode cX12_init 231 = .ok (.aload_n 0, 1) := by decide +kernel
theorem dX12_init_232 : decode cX12_init 232 = .ok (.sipush 480, 3) := by decide +kernel
theorem dX12_init_235 : decode cX12_init 235 = .ok (.newarray .long, 2) := by decide +kernel
theorem dX12_init_237 : decode cX12_init 237 = .ok (.putfield 97, 3) := by decide +kernel
theorem dX12_init_240 : decode cX12_init 240 = .ok (.aload_n 0, 1) := by decide +kernel
theorem dX12_init_241 : decode cX12_init 241 = .ok (.sipush 480, 3) := by decide +kernel
theorem dX12_init_244 : decode cX12_init 244 = .ok (.newarray .long, 2) := by decide +kernel
theorem dX12_init_246 : decode cX12_init 246 = .ok (.putfield 100, 3) := by decide +kernel
theorem dX12_init_249 : decode cX12_init 249 = .ok (.aload_n 0, 1) := by decide +kernel
theorem dX12_init_250 : decode cX12_init 250 = .ok (.sipush 480, 3) := by decide +kernel
theorem dX12_init_253 : decode cX12_init 253 = .ok (.newarray .int, 2) := by decide +kernel
theorem dX12_init_255 : decode cX12_init 255 = .ok (.putfield 103, 3) := by decide +kernel
theorem dX12_init_258 : decode cX12_init 258 = .ok (.aload_n 0, 1) := by decide +kernel
theorem dX12_init_259 : decode cX12_init 259 = .ok (.bipush 8, 2) := by decide +kernel
theorem dX12_init_261 : decode cX12_init 261 = .ok (.newarray .int, 2) := by decide +kernel
theorem dX12_init_263 : decode cX12_init 263 = .ok (.putfield 106, 3) := by decide +kernel
theorem dX12_init_266 : decode cX12_init 266 = .ok (.aload_n 0, 1) := by decide +kernel
theorem dX12_init_267 : decode cX12_init 267 = .ok (.sipush 480, 3) := by decide +kernel
theorem dX12_init_270 : decode cX12_init 270 = .ok (.newarray .int, 2) := by decide +kernel
theorem dX12_init_272 : decode cX12_init 272 = .ok (.putfield 109, 3) := by decide +kernel
theorem dX12_init_275 : decode cX12_init 275 = .ok (.aload_n 0, 1) := by decide +kernel
theorem dX12_init_276 : decode cX12_init 276 = .ok (.sipush 480, 3) := by decide +kernel
theorem dX12_init_279 : decode cX12_init 279 = .ok (.newarray .int, 2) := by decide +kernel
theorem dX12_init_281 : decode cX12_init 281 = .ok (.putfield 112, 3) := by decide +kernel
theorem dX12_init_284 : decode cX12_init 284 = .ok (.aload_n 0, 1) := by decide +kernel
theorem dX12_init_285 : decode cX12_init 285 = .ok (.sipush 480, 3) := by decide +kernel
theorem dX12_init_288 : decode cX12_init 288 = .ok (.newarray .int, 2) := by decide +kernel
theorem dX12_init_290 : decode cX12_init 290 = .ok (.putfield 115, 3) := by decide +kernel
theorem dX12_init_293 : decode cX12_init 293 = .ok (.aload_n 0, 1) := by decide +kernel
theorem dX12_init_294 : decode cX12_init 294 = .ok (.sipush 480, 3) := by decide +kernel
theorem dX12_init_297 : decode cX12_init 297 = .ok (.newarray .int, 2) := by decide +kernel
theorem dX12_init_299 : decode cX12_init 299 = .ok (.putfield 118, 3) := by decide +kernel
theorem dX12_init_302 : decode cX12_init 302 = .ok (.aload_n 0, 1) := by decide +kernel
theorem dX12_init_303 : decode cX12_init 303 = .ok (.bipush 60, 2) := by decide +kernel
theorem dX12_init_305 : decode cX12_init 305 = .ok (.newarray .int, 2) := by decide +kernel
theorem dX12_init_307 : decode cX12_init 307 = .ok (.putfield 121, 3) := by decide +kernel
theorem dX12_init_310 : decode cX12_init 310 = .ok (.aload_n 0, 1) := by decide +kernel
theorem dX12_init_311 : decode cX12_init 311 = .ok (.bipush 60, 2) := by decide +kernel
theorem dX12_init_313 : decode cX12_init 313 = .ok (.newarray .int, 2) := by decide +kernel
theorem dX12_init_315 : decode cX12_init 315 = .ok (.putfield 124, 3) := by decide +kernel
theorem dX12_init_318 : decode cX12_init 318 = .ok (.aload_n 0, 1) := by decide +kernel
theorem dX12_init_319 : decode cX12_init 319 = .ok (.iconst 4, 1) := by decide +kernel
theorem dX12_init_320 : decode cX12_init 320 = .ok (.newarray .int, 2) := by decide +kernel
theorem dX12_init_322 : decode cX12_init 322 = .ok (.putfield 127, 3) := by decide +kernel
theorem dX12_init_325 : decode cX12_init 325 = .ok (.iconst 0, 1) := by decide +kernel
theorem dX12_init_326 : decode cX12_init 326 = .ok (.istore_n 1, 1) := by decide +kernel
theorem dX12_init_327 : decode cX12_init 327 = .ok (.iconst 0, 1) := by decide +kernel
theorem dX12_init_328 : decode cX12_init 328 = .ok (.istore_n 2, 1) := by decide +kernel
theorem dX12_init_329 : decode cX12_init 329 = .ok (.iload_n 2, 1) := by decide +kernel
theorem dX12_init_330 : decode cX12_init 330 = .ok (.bipush 17, 2) := by decide +kernel
theorem dX12_init_332 : decode cX12_init 332 = .ok (.if_icmp .ge 35, 3) := by decide +kernel
theorem dX12_init_335 : decode cX12_init 335 = .ok (.aload_n 0, 1) := by decide +kernel
theorem dX12_init_336 : decode cX12_init 336 = .ok (.getfield 7, 3) := by decide +kernel
theorem dX12_init_339 : decode cX12_init 339 = .ok (.iload_n 2, 1) := by decide +kernel
theorem dX12_init_340 : decode cX12_init 340 = .ok (.iload_n 1, 1) := by decide +kernel
theorem dX12_init_341 : decode cX12_init 341 = .ok (.iastore, 1) := by decide +kernel
theorem dX12_init_342 : decode cX12_init 342 = .ok (.aload_n 0, 1) := by decide +kernel
theorem dX12_init_343 : decode cX12_init 343 = .ok (.getfield 13, 3) := by decide +kernel
theorem dX12_init_346 : decode cX12_init 346 = .ok (.iload_n 2, 1) := by decide +kernel
theorem dX12_init_347 : decode cX12_init 347 = .ok (.iload_n 2, 1) := by decide +kernel
theorem dX12_init_348 : decode cX12_init 348 = .ok (.invokestatic 130, 3) := by decide +kernel
theorem dX12_init_351 : decode cX12_init 351 = .ok (.iastore, 1) := by decide +kernel
theorem dX12_init_352 : decode cX12_init 352 = .ok (.iload_n 1, 1) := by decide +kernel
theorem dX12_init_353 : decode cX12_init 353 = .ok (.aload_n 0, 1) := by decide +kernel
theorem dX12_init_354 : decode cX12_init 354 = .ok (.getfield 13, 3) := by decide +kernel
theorem dX12_init_357 : decode cX12_init 357 = .ok (.iload_n 2, 1) := by decide +kernel
theorem dX12_init_358 : decode cX12_init 358 = .ok (.iaload, 1) := by decide +kernel
theorem dX12_init_359 : decode cX12_init 359 = .ok (.iadd, 1) := by decide +kernel
theorem dX12_init_360 : decode cX12_init 360 = .ok (.istore_n 1, 1) := by decide +kernel
theorem dX12_init_361 : decode cX12_init 361 = .ok (.iinc 2 1, 3) := by decide +kernel
theorem dX12_init_364 : decode cX12_init 364 = .ok (.goto (-35), 3) := by decide +kernel
theorem dX12_init_367 : decode cX12_init 367 = .ok (.iconst 0, 1) := by decide +kernel
theorem dX12_init_368 : decode cX12_init 368 = .ok (.istore_n 2, 1) := by decide +kernel
theorem dX12_init_369 : decode cX12_init 369 = .ok (.iload_n 2, 1) := by decide +kernel
theorem dX12_init_370 : decode cX12_init 370 = .ok (.bipush 11, 2) := by decide +kernel
theorem dX12_init_372 : decode cX12_init 372 = .ok (.if_icmp .ge 94, 3) := by decide +kernel
theorem dX12_init_375 : decode cX12_init 375 = .ok (.aload_n 0, 1) := by decide +kernel
theorem dX12_init_376 : decode cX12_init 376 = .ok (.getfield 16, 3) := by decide +kernel
theorem dX12_init_379 : decode cX12_init 379 = .ok (.iload_n 2, 1) := by decide +kernel
theorem dX12_init_380 : decode cX12_init 380 = .ok (.iload_n 2, 1) := by decide +kernel
theorem dX12_init_381 : decode cX12_init 381 = .ok (.bipush 10, 2) := by decide +kernel
theorem dX12_init_383 : decode cX12_init 383 = .ok (.if_icmp .ne 7, 3) := by decide +kernel
theorem dX12_init_386 : decode cX12_init 386 = .ok (.iconst 1, 1) := by decide +kernel
theorem dX12_init_387 : decode cX12_init 387 = .ok (.goto 4, 3) := by decide +kernel
theorem dX12_init_390 : decode cX12_init 390 = .ok (.iconst 0, 1) := by decide +kernel
theorem dX12_init_391 : decode cX12_init 391 = .ok (.iastore, 1) := by decide +kernel
theorem dX12_init_392 : decode cX12_init 392 = .ok (.aload_n 0, 1) := by decide +kernel
theorem dX12_init_393 : decode cX12_init 393 = .ok (.getfield 19, 3) := by decide +kernel
theorem dX12_init_396 : decode cX12_init 396 = .ok (.iload_n 2, 1) := by decide +kernel
theorem dX12_init_397 : decode cX12_init 397 = .ok (.iload_n 2, 1) := by decide +kernel
theorem dX12_init_398 : decode cX12_init 398 = .ok (.bipush 6, 2) := by decide +kernel
theorem dX12_init_400 : decode cX12_init 400 = .ok (.if_icmp .ne 8, 3) := by decide +kernel
theorem dX12_init_403 : decode cX12_init 403 = .ok (.bipush 99, 2) := by decide +kernel
theorem dX12_init_405 : decode cX12_init 405 = .ok (.goto 54, 3) := by decide +kernel
theorem dX12_init_408 : decode cX12_init 408 = .ok (.iload_n 2, 1) := by decide +kernel
theorem dX12_init_409 : decode cX12_init 409 = .ok (.iconst 1, 1) := by decide +kernel
theorem dX12_init_410 : decode cX12_init 410 = .ok (.if_icmp .eq 9, 3) := by decide +kernel
theorem dX12_init_413 : decode cX12_init 413 = .ok (.iload_n 2, 1) := by decide +kernel
theorem dX12_init_414 : decode cX12_init 414 = .ok (.bipush 7, 2) := by decide +kernel
theorem dX12_init_416 : decode cX12_init 416 = .ok (.if_icmp .ne 8, 3) := by decide +kernel
theorem dX12_init_419 : decode cX12_init 419 = .ok (.bipush 9, 2) := by decide +kernel
theorem dX12_init_421 : decode cX12_init 421 = .ok (.goto 38, 3) := by decide +kernel
theorem dX12_init_424 : decode cX12_init 424 = .ok (.iload_n 2, 1) := by decide +kernel
theorem dX12_init_425 : decode cX12_init 425 = .ok (.ifCond .eq 14, 3) := by decide +kernel
theorem dX12_init_428 : decode cX12_init 428 = .ok (.iload_n 2, 1) := by decide +kernel
theorem dX12_init_429 : decode cX12_init 429 = .ok (.iconst 5, 1) := by decide +kernel
theorem dX12_init_430 : decode cX12_init 430 = .ok (.if_icmp .eq 9, 3) := by decide +kernel
theorem dX12_init_433 : decode cX12_init 433 = .ok (.iload_n 2, 1) := by decide +kernel
theorem dX12_init_434 : decode cX12_init 434 = .ok (.bipush 10, 2) := by decide +kernel
theorem dX12_init_436 : decode cX12_init 436 = .ok (.if_icmp .ne 7, 3) := by decide +kernel
theorem dX12_init_439 : decode cX12_init 439 = .ok (.iconst 5, 1) := by decide +kernel
theorem dX12_init_440 : decode cX12_init 440 = .ok (.goto 19, 3) := by decide +kernel
theorem dX12_init_443 : decode cX12_init 443 = .ok (.iload_n 2, 1) := by decide +kernel
theorem dX12_init_444 : decode cX12_init 444 = .ok (.iconst 4, 1) := by decide +kernel
theorem dX12_init_445 : decode cX12_init 445 = .ok (.if_icmp .eq 9, 3) := by decide +kernel
theorem dX12_init_448 : decode cX12_init 448 = .ok (.iload_n 2, 1) := by decide +kernel
theorem dX12_init_449 : decode cX12_init 449 = .ok (.bipush 9, 2) := by decide +kernel
theorem dX12_init_451 : decode cX12_init 451 = .ok (.if_icmp .ne 7, 3) := by decide +kernel
theorem dX12_init_454 : decode cX12_init 454 = .ok (.iconst 1, 1) := by decide +kernel
theorem dX12_init_455 : decode cX12_init 455 = .ok (.goto 4, 3) := by decide +kernel
theorem dX12_init_458 : decode cX12_init 458 = .ok (.iconst 2, 1) := by decide +kernel
theorem dX12_init_459 : decode cX12_init 459 = .ok (.iastore, 1) := by decide +kernel
theorem dX12_init_460 : decode cX12_init 460 = .ok (.iinc 2 1, 3) := by decide +kernel
theorem dX12_init_463 : decode cX12_init 463 = .ok (.goto (-94), 3) := by decide +kernel
theorem dX12_init_466 : decode cX12_init 466 = .ok (.aload_n 0, 1) := by decide +kernel
theorem dX12_init_467 : decode cX12_init 467 = .ok (.getfield 22, 3) := by decide +kernel
theorem dX12_init_470 : decode cX12_init 470 = .ok (.iconst 0, 1) := by decide +kernel
theorem dX12_init_471 : decode cX12_init 471 = .ok (.bipush 127, 2) := by decide +kernel
theorem dX12_init_473 : decode cX12_init 473 = .ok (.iastore, 1) := by decide +kernel
theorem dX12_init_474 : decode cX12_init 474 = .ok (.aload_n 0, 1) := by decide +kernel
theorem dX12_init_475 : decode cX12_init 475 = .ok (.getfield 22, 3) := by decide +kernel
theorem dX12_init_478 : decode cX12_init 478 = .ok (.iconst 1, 1) := by decide +kernel
theorem dX12_init_479 : decode cX12_init 479 = .ok (.iconst 3, 1) := by decide +kernel
theorem dX12_init_480 : decode cX12_init 480 = .ok (.iastore, 1) := by decide +kernel
theorem dX12_init_481 : decode cX12_init 481 = .ok (.aload_n 0, 1) := by decide +kernel
theorem dX12_init_482 : decode cX12_init 482 = .ok (.getfield 22, 3) := by decide +kernel
theorem dX12_init_485 : decode cX12_init 485 = .ok (.iconst 2, 1) := by decide +kernel
theorem dX12_init_486 : decode cX12_init 486 = .ok (.iconst 2, 1) := by decide +kernel
theorem dX12_init_487 : decode cX12_init 487 = .ok (.iastore, 1) := by decide +kernel
theorem dX12_init_488 : decode cX12_init 488 = .ok (.aload_n 0, 1) := by decide +kernel
theorem dX12_init_489 : decode cX12_init 489 = .ok (.getfield 22, 3) := by decide +kernel
theorem dX12_init_492 : decode cX12_init 492 = .ok (.iconst 3, 1) := by decide +kernel
theorem dX12_init_493 : decode cX12_init 493 = .ok (.sipush 1027, 3) := by decide +kernel
theorem dX12_init_496 : decode cX12_init 496 = .ok (.iastore, 1) := by decide +kernel
theorem dX12_init_497 : decode cX12_init 497 = .ok (.aload_n 0, 1) := by decide +kernel
theorem dX12_init_498 : decode cX12_init 498 = .ok (.getfield 22, 3) := by decide +kernel
theorem dX12_init_501 : decode cX12_init 501 = .ok (.iconst 4, 1) := by decide +kernel
theorem dX12_init_502 : decode cX12_init 502 = .ok (.sipush 896, 3) := by decide +kernel
theorem dX12_init_505 : decode cX12_init 505 = .ok (.iastore, 1) := by decide +kernel
theorem dX12_init_506 : decode cX12_init 506 = .ok (.aload_n 0, 1) := by decide +kernel
theorem dX12_init_507 : decode cX12_init 507 = .ok (.getfield 22, 3) := by decide +kernel
theorem dX12_init_510 : decode cX12_init 510 = .ok (.iconst 5, 1) := by decide +kernel
theorem dX12_init_511 : decode cX12_init 511 = .ok (.iconst 2, 1) := by decide +kernel
theorem dX12_init_512 : decode cX12_init 512 = .ok (.iastore, 1) := by decide +kernel
theorem dX12_init_513 : decode cX12_init 513 = .ok (.iconst 0, 1) := by decide +kernel
theorem dX12_init_514 : decode cX12_init 514 = .ok (.istore_n 2, 1) := by decide +kernel
theorem dX12_init_515 : decode cX12_init 515 = .ok (.iload_n 2, 1) := by decide +kernel
theorem dX12_init_516 : decode cX12_init 516 = .ok (.bipush 60, 2) := by decide +kernel
theorem dX12_init_518 : decode cX12_init 518 = .ok (.if_icmp .ge 23, 3) := by decide +kernel
theorem dX12_init_521 : decode cX12_init 521 = .ok (.aload_n 0, 1) := by decide +kernel
theorem dX12_init_522 : decode cX12_init 522 = .ok (.getfield 44, 3) := by decide +kernel
theorem dX12_init_525 : decode cX12_init 525 = .ok (.iload_n 2, 1) := by decide +kernel
theorem dX12_init_526 : decode cX12_init 526 = .ok (.iconst (-1), 1) := by decide +kernel
theorem dX12_init_527 : decode cX12_init 527 = .ok (.iastore, 1) := by decide +kernel
theorem dX12_init_528 : decode cX12_init 528 = .ok (.aload_n 0, 1) := by decide +kernel
theorem dX12_init_529 : decode cX12_init 529 = .ok (.getfield 47, 3) := by decide +kernel
theorem dX12_init_532 : decode cX12_init 532 = .ok (.iload_n 2, 1) := by decide +kernel
theorem dX12_init_533 : decode cX12_init 533 = .ok (.iconst (-1), 1) := by decide +kernel
theorem dX12_init_534 : decode cX12_init 534 = .ok (.iastore, 1) := by decide +kernel
theorem dX12_init_535 : decode cX12_init 535 = .ok (.iinc 2 1, 3) := by decide +kernel
theorem dX12_init_538 : decode cX12_init 538 = .ok (.goto (-23), 3) := by decide +kernel
theorem dX12_init_541 : decode cX12_init 541 = .ok (.return_, 1) := by decide +kernel
theorem dL_make_0 : decode cL_make 0 = .ok (.aload_n 3, 1) := by decide +kernel
theorem dL_make_1 : decode cL_make 1 = .ok (.iconst 0, 1) := by decide +kernel
theorem dL_make_2 : decode cL_make 2 = .ok (.aload_n 0, 1) := by decide +kernel
theorem dL_make_3 : decode cL_make 3 = .ok (.iload_n 1, 1) := by decide +kernel
theorem dL_make_4 : decode cL_make 4 = .ok (.iload_n 2, 1) := by decide +kernel
theorem dL_make_5 : decode cL_make 5 = .ok (.invokevirtual 7, 3) := by decide +kernel
theorem dL_make_8 : decode cL_make 8 = .ok (.i2l, 1) := by decide +kernel
theorem dL_make_9 : decode cL_make 9 = .ok (.lastore, 1) := by decide +kernel
theorem dL_make_10 : decode cL_make 10 = .ok (.goto 11, 3) := by decide +kernel
theorem dL_make_13 : decode cL_make 13 = .ok (.astore 4, 2) := by decide +kernel
theorem dL_make_15 : decode cL_make 15 = .ok (.iconst 1, 1) := by decide +kernel
theorem dL_make_16 : decode cL_make 16 = .ok (.ireturn, 1) := by decide +kernel
theorem dL_make_17 : decode cL_make 17 = .ok (.astore 4, 2) := by decide +kernel
theorem dL_make_19 : decode cL_make 19 = .ok (.iconst 2, 1) := by decide +kernel
theorem dL_make_20 : decode cL_make 20 = .ok (.ireturn, 1) := by decide +kernel
theorem dL_make_21 : decode cL_make 21 = .ok (.iconst 0, 1) := by decide +kernel
theorem dL_make_22 : decode cL_make 22 = .ok (.ireturn, 1) := by decide +kernel
theorem dL_apply_0 : decode cL_apply 0 = .ok (.aload 7, 2) := by decide +kernel
theorem dL_apply_2 : decode cL_apply 2 = .ok (.iconst 0, 1) := by decide +kernel
theorem dL_apply_3 : decode cL_apply 3 = .ok (.aload_n 0, 1) := by decide +kernel
theorem dL_apply_4 : decode cL_apply 4 = .ok (.iload_n 1, 1) := by decide +kernel
theorem dL_apply_5 : decode cL_apply 5 = .ok (.iload_n 2, 1) := by decide +kernel
theorem dL_apply_6 : decode cL_apply 6 = .ok (.iload_n 3, 1) := by decide +kernel
theorem dL_apply_7 : decode cL_apply 7 = .ok (.iload 4, 2) := by decide +kernel
theorem dL_apply_9 : decode cL_apply 9 = .ok (.iload 5, 2) := by decide +kernel
theorem dL_apply_11 : decode cL_apply 11 = .ok (.iload 6, 2) := by decide +kernel
theorem dL_apply_13 : decode cL_apply 13 = .ok (.invokevirtual 17, 3) := by decide +kernel
theorem dL_apply_16 : decode cL_apply 16 = .ok (.i2l, 1) := by decide +kernel
theorem dL_apply_17 : decode cL_apply 17 = .ok (.lastore, 1) := by decide +kernel
theorem dL_apply_18 : decode cL_apply 18 = .ok (.goto 15, 3) := by decide +kernel
theorem dL_apply_21 : decode cL_apply 21 = .ok (.astore 8, 2) := by decide +kernel
theorem dL_apply_23 : decode cL_apply 23 = .ok (.iconst 1, 1) := by decide +kernel
theorem dL_apply_24 : decode cL_apply 24 = .ok (.ireturn, 1) := by decide +kernel
theorem dL_apply_25 : decode cL_apply 25 = .ok (.astore 8, 2) := by decide +kernel
theorem dL_apply_27 : decode cL_apply 27 = .ok (.iconst 2, 1) := by decide +kernel
theorem dL_apply_28 : decode cL_apply 28 = .ok (.ireturn, 1) := by decide +kernel
theorem dL_apply_29 : decode cL_apply 29 = .ok (.astore 8, 2) := by decide +kernel
theorem dL_apply_31 : decode cL_apply 31 = .ok (.iconst 3, 1) := by decide +kernel
theorem dL_apply_32 : decode cL_apply 32 = .ok (.ireturn, 1) := by decide +kernel
theorem dL_apply_33 : decode cL_apply 33 = .ok (.iconst 0, 1) := by decide +kernel
theorem dL_apply_34 : decode cL_apply 34 = .ok (.ireturn, 1) := by decide +kernel
theorem dL_applyBudget_0 : decode cL_applyBudget 0 = .ok (.aload 5, 2) := by decide +kernel
theorem dL_applyBudget_2 : decode cL_applyBudget 2 = .ok (.iconst 0, 1) := by decide +kernel
theorem dL_applyBudget_3 : decode cL_applyBudget 3 = .ok (.aload_n 0, 1) := by decide +kernel
theorem dL_applyBudget_4 : decode cL_applyBudget 4 = .ok (.iload_n 1, 1) := by decide +kernel
theorem dL_applyBudget_5 : decode cL_applyBudget 5 = .ok (.iload_n 2, 1) := by decide +kernel
theorem dL_applyBudget_6 : decode cL_applyBudget 6 = .ok (.iload_n 3, 1) := by decide +kernel
theorem dL_applyBudget_7 : decode cL_applyBudget 7 = .ok (.iload 4, 2) := by decide +kernel
theorem dL_applyBudget_9 : decode cL_applyBudget 9 = .ok (.invokevirtual 23, 3) := by decide +kernel
theorem dL_applyBudget_12 : decode cL_applyBudget 12 = .ok (.i2l, 1) := by decide +kernel
theorem dL_applyBudget_13 : decode cL_applyBudget 13 = .ok (.lastore, 1) := by decide +kernel
theorem dL_applyBudget_14 : decode cL_applyBudget 14 = .ok (.goto 15, 3) := by decide +kernel
theorem dL_applyBudget_17 : decode cL_applyBudget 17 = .ok (.astore 6, 2) := by decide +kernel
theorem dL_applyBudget_19 : decode cL_applyBudget 19 = .ok (.iconst 1, 1) := by decide +kernel
theorem dL_applyBudget_20 : decode cL_applyBudget 20 = .ok (.ireturn, 1) := by decide +kernel
theorem dL_applyBudget_21 : decode cL_applyBudget 21 = .ok (.astore 6, 2) := by decide +kernel
theorem dL_applyBudget_23 : decode cL_applyBudget 23 = .ok (.iconst 2, 1) := by decide +kernel
theorem dL_applyBudget_24 : decode cL_applyBudget 24 = .ok (.ireturn, 1) := by decide +kernel
theorem dL_applyBudget_25 : decode cL_applyBudget 25 = .ok (.astore 6, 2) := by decide +kernel
theorem dL_applyBudget_27 : decode cL_applyBudget 27 = .ok (.iconst 3, 1) := by decide +kernel
theorem dL_applyBudget_28 : decode cL_applyBudget 28 = .ok (.ireturn, 1) := by decide +kernel
theorem dL_applyBudget_29 : decode cL_applyBudget 29 = .ok (.iconst 0, 1) := by decide +kernel
theorem dL_applyBudget_30 : decode cL_applyBudget 30 = .ok (.ireturn, 1) := by decide +kernel
theorem dL_delete_0 : decode cL_delete 0 = .ok (.aload_n 3, 1) := by decide +kernel
theorem dL_delete_1 : decode cL_delete 1 = .ok (.iconst 0, 1) := by decide +kernel
theorem dL_delete_2 : decode cL_delete 2 = .ok (.aload_n 0, 1) := by decide +kernel
theorem dL_delete_3 : decode cL_delete 3 = .ok (.iload_n 1, 1) := by decide +kernel
theorem dL_delete_4 : decode cL_delete 4 = .ok (.iload_n 2, 1) := by decide +kernel
theorem dL_delete_5 : decode cL_delete 5 = .ok (.invokevirtual 27, 3) := by decide +kernel
theorem dL_delete_8 : decode cL_delete 8 = .ok (.i2l, 1) := by decide +kernel
theorem dL_delete_9 : decode cL_delete 9 = .ok (.lastore, 1) := by decide +kernel
theorem dL_delete_10 : decode cL_delete 10 = .ok (.goto 15, 3) := by decide +kernel
theorem dL_delete_13 : decode cL_delete 13 = .ok (.astore 4, 2) := by decide +kernel
theorem dL_delete_15 : decode cL_delete 15 = .ok (.iconst 1, 1) := by decide +kernel
theorem dL_delete_16 : decode cL_delete 16 = .ok (.ireturn, 1) := by decide +kernel
theorem dL_delete_17 : decode cL_delete 17 = .ok (.astore 4, 2) := by decide +kernel
theorem dL_delete_19 : decode cL_delete 19 = .ok (.iconst 2, 1) := by decide +kernel
theorem dL_delete_20 : decode cL_delete 20 = .ok (.ireturn, 1) := by decide +kernel
theorem dL_delete_21 : decode cL_delete 21 = .ok (.astore 4, 2) := by decide +kernel
theorem dL_delete_23 : decode cL_delete 23 = .ok (.iconst 3, 1) := by decide +kernel
theorem dL_delete_24 : decode cL_delete 24 = .ok (.ireturn, 1) := by decide +kernel
theorem dL_delete_25 : decode cL_delete 25 = .ok (.iconst 0, 1) := by decide +kernel
theorem dL_delete_26 : decode cL_delete 26 = .ok (.ireturn, 1) := by decide +kernel
theorem dL_hold_0 : decode cL_hold 0 = .ok (.aload_n 3, 1) := by decide +kernel
theorem dL_hold_1 : decode cL_hold 1 = .ok (.iconst 0, 1) := by decide +kernel
theorem dL_hold_2 : decode cL_hold 2 = .ok (.aload_n 0, 1) := by decide +kernel
theorem dL_hold_3 : decode cL_hold 3 = .ok (.iload_n 1, 1) := by decide +kernel
theorem dL_hold_4 : decode cL_hold 4 = .ok (.iload_n 2, 1) := by decide +kernel
theorem dL_hold_5 : decode cL_hold 5 = .ok (.invokevirtual 30, 3) := by decide +kernel
theorem dL_hold_8 : decode cL_hold 8 = .ok (.ifCond .eq 7, 3) := by decide +kernel
theorem dL_hold_11 : decode cL_hold 11 = .ok (.lconst 1, 1) := by decide +kernel
theorem dL_hold_12 : decode cL_hold 12 = .ok (.goto 4, 3) := by decide +kernel
theorem dL_hold_15 : decode cL_hold 15 = .ok (.lconst 0, 1) := by decide +kernel
theorem dL_hold_16 : decode cL_hold 16 = .ok (.lastore, 1) := by decide +kernel
theorem dL_hold_17 : decode cL_hold 17 = .ok (.goto 11, 3) := by decide +kernel
theorem dL_hold_20 : decode cL_hold 20 = .ok (.astore 4, 2) := by decide +kernel
theorem dL_hold_22 : decode cL_hold 22 = .ok (.iconst 1, 1) := by decide +kernel
theorem dL_hold_23 : decode cL_hold 23 = .ok (.ireturn, 1) := by decide +kernel
theorem dL_hold_24 : decode cL_hold 24 = .ok (.astore 4, 2) := by decide +kernel
theorem dL_hold_26 : decode cL_hold 26 = .ok (.iconst 2, 1) := by decide +kernel
theorem dL_hold_27 : decode cL_hold 27 = .ok (.ireturn, 1) := by decide +kernel
theorem dL_hold_28 : decode cL_hold 28 = .ok (.iconst 0, 1) := by decide +kernel
theorem dL_hold_29 : decode cL_hold 29 = .ok (.ireturn, 1) := by decide +kernel
theorem dL_finish_0 : decode cL_finish 0 = .ok (.aload_n 3, 1) := by decide +kernel
theorem dL_finish_1 : decode cL_finish 1 = .ok (.iconst 0, 1) := by decide +kernel
theorem dL_finish_2 : decode cL_finish 2 = .ok (.aload_n 0, 1) := by decide +kernel
theorem dL_finish_3 : decode cL_finish 3 = .ok (.iload_n 1, 1) := by decide +kernel
theorem dL_finish_4 : decode cL_finish 4 = .ok (.iload_n 2, 1) := by decide +kernel
theorem dL_finish_5 : decode cL_finish 5 = .ok (.invokevirtual 34, 3) := by decide +kernel
theorem dL_finish_8 : decode cL_finish 8 = .ok (.i2l, 1) := by decide +kernel
theorem dL_finish_9 : decode cL_finish 9 = .ok (.lastore, 1) := by decide +kernel
theorem dL_finish_10 : decode cL_finish 10 = .ok (.goto 15, 3) := by decide +kernel
theorem dL_finish_13 : decode cL_finish 13 = .ok (.astore 4, 2) := by decide +kernel
theorem dL_finish_15 : decode cL_finish 15 = .ok (.iconst 1, 1) := by decide +kernel
theorem dL_finish_16 : decode cL_finish 16 = .ok (.ireturn, 1) := by decide +kernel
theorem dL_finish_17 : decode cL_finish 17 = .ok (.astore 4, 2) := by decide +kernel
theorem dL_finish_19 : decode cL_finish 19 = .ok (.iconst 2, 1) := by decide +kernel
theorem dL_finish_20 : decode cL_finish 20 = .ok (.ireturn, 1) := by decide +kernel
theorem dL_finish_21 : decode cL_finish 21 = .ok (.astore 4, 2) := by decide +kernel
theorem dL_finish_23 : decode cL_finish 23 = .ok (.iconst 3, 1) := by decide +kernel
theorem dL_finish_24 : decode cL_finish 24 = .ok (.ireturn, 1) := by decide +kernel
theorem dL_finish_25 : decode cL_finish 25 = .ok (.iconst 0, 1) := by decide +kernel
theorem dL_finish_26 : decode cL_finish 26 = .ok (.ireturn, 1) := by decide +kernel
theorem dL_rule_0 : decode cL_rule 0 = .ok (.aload 7, 2) := by decide +kernel
theorem dL_rule_2 : decode cL_rule 2 = .ok (.iconst 0, 1) := by decide +kernel
theorem dL_rule_3 : decode cL_rule 3 = .ok (.aload_n 0, 1) := by decide +kernel
theorem dL_rule_4 : decode cL_rule 4 = .ok (.iload_n 1, 1) := by decide +kernel
theorem dL_rule_5 : decode cL_rule 5 = .ok (.iload_n 2, 1) := by decide +kernel
theorem dL_rule_6 : decode cL_rule 6 = .ok (.iload_n 3, 1) := by decide +kernel
theorem dL_rule_7 : decode cL_rule 7 = .ok (.iload 4, 2) := by decide +kernel
theorem dL_rule_9 : decode cL_rule 9 = .ok (.iload 5, 2) := by decide +kernel
theorem dL_rule_11 : decode cL_rule 11 = .ok (.iload 6, 2) := by decide +kernel
theorem dL_rule_13 : decode cL_rule 13 = .ok (.invokevirtual 38, 3) := by decide +kernel
theorem dL_rule_16 : decode cL_rule 16 = .ok (.i2l, 1) := by decide +kernel
theorem dL_rule_17 : decode cL_rule 17 = .ok (.lastore, 1) := by decide +kernel
theorem dL_rule_18 : decode cL_rule 18 = .ok (.goto 11, 3) := by decide +kernel
theorem dL_rule_21 : decode cL_rule 21 = .ok (.astore 8, 2) := by decide +kernel
theorem dL_rule_23 : decode cL_rule 23 = .ok (.iconst 1, 1) := by decide +kernel
theorem dL_rule_24 : decode cL_rule 24 = .ok (.ireturn, 1) := by decide +kernel
theorem dL_rule_25 : decode cL_rule 25 = .ok (.astore 8, 2) := by decide +kernel
theorem dL_rule_27 : decode cL_rule 27 = .ok (.iconst 2, 1) := by decide +kernel
theorem dL_rule_28 : decode cL_rule 28 = .ok (.ireturn, 1) := by decide +kernel
theorem dL_rule_29 : decode cL_rule 29 = .ok (.iconst 0, 1) := by decide +kernel
theorem dL_rule_30 : decode cL_rule 30 = .ok (.ireturn, 1) := by decide +kernel
theorem dL_check_0 : decode cL_check 0 = .ok (.aload 4, 2) := by decide +kernel
theorem dL_check_2 : decode cL_check 2 = .ok (.iconst 0, 1) := by decide +kernel
theorem dL_check_3 : decode cL_check 3 = .ok (.aload_n 0, 1) := by decide +kernel
theorem dL_check_4 : decode cL_check 4 = .ok (.iload_n 1, 1) := by decide +kernel
theorem dL_check_5 : decode cL_check 5 = .ok (.iload_n 2, 1) := by decide +kernel
theorem dL_check_6 : decode cL_check 6 = .ok (.iload_n 3, 1) := by decide +kernel
theorem dL_check_7 : decode cL_check 7 = .ok (.invokevirtual 42, 3) := by decide +kernel
theorem dL_check_10 : decode cL_check 10 = .ok (.i2l, 1) := by decide +kernel
theorem dL_check_11 : decode cL_check 11 = .ok (.lastore, 1) := by decide +kernel
theorem dL_check_12 : decode cL_check 12 = .ok (.goto 11, 3) := by decide +kernel
theorem dL_check_15 : decode cL_check 15 = .ok (.astore 5, 2) := by decide +kernel
theorem dL_check_17 : decode cL_check 17 = .ok (.iconst 1, 1) := by decide +kernel
theorem dL_check_18 : decode cL_check 18 = .ok (.ireturn, 1) := by decide +kernel
theorem dL_check_19 : decode cL_check 19 = .ok (.astore 5, 2) := by decide +kernel
theorem dL_check_21 : decode cL_check 21 = .ok (.iconst 2, 1) := by decide +kernel
theorem dL_check_22 : decode cL_check 22 = .ok (.ireturn, 1) := by decide +kernel
theorem dL_check_23 : decode cL_check 23 = .ok (.iconst 0, 1) := by decide +kernel
theorem dL_check_24 : decode cL_check 24 = .ok (.ireturn, 1) := by decide +kernel
theorem dL_quota_0 : decode cL_quota 0 = .ok (.aload_n 2, 1) := by decide +kernel
theorem dL_quota_1 : decode cL_quota 1 = .ok (.iconst 0, 1) := by decide +kernel
theorem dL_quota_2 : decode cL_quota 2 = .ok (.aload_n 0, 1) := by decide +kernel
theorem dL_quota_3 : decode cL_quota 3 = .ok (.iload_n 1, 1) := by decide +kernel
theorem dL_quota_4 : decode cL_quota 4 = .ok (.invokevirtual 46, 3) := by decide +kernel
theorem dL_quota_7 : decode cL_quota 7 = .ok (.i2l, 1) := by decide +kernel
theorem dL_quota_8 : decode cL_quota 8 = .ok (.lastore, 1) := by decide +kernel
theorem dL_quota_9 : decode cL_quota 9 = .ok (.goto 6, 3) := by decide +kernel
theorem dL_quota_12 : decode cL_quota 12 = .ok (.astore_n 3, 1) := by decide +kernel
theorem dL_quota_13 : decode cL_quota 13 = .ok (.iconst 1, 1) := by decide +kernel
theorem dL_quota_14 : decode cL_quota 14 = .ok (.ireturn, 1) := by decide +kernel
theorem dL_quota_15 : decode cL_quota 15 = .ok (.iconst 0, 1) := by decide +kernel
theorem dL_quota_16 : decode cL_quota 16 = .ok (.ireturn, 1) := by decide +kernel
theorem dL_see_0 : decode cL_see 0 = .ok (.aload_n 3, 1) := by decide +kernel
theorem dL_see_1 : decode cL_see 1 = .ok (.iconst 0, 1) := by decide +kernel
theorem dL_see_2 : decode cL_see 2 = .ok (.aload_n 0, 1) := by decide +kernel
theorem dL_see_3 : decode cL_see 3 = .ok (.iload_n 1, 1) := by decide +kernel
theorem dL_see_4 : decode cL_see 4 = .ok (.iload_n 2, 1) := by decide +kernel
theorem dL_see_5 : decode cL_see 5 = .ok (.invokevirtual 50, 3) := by decide +kernel
theorem dL_see_8 : decode cL_see 8 = .ok (.i2l, 1) := by decide +kernel
theorem dL_see_9 : decode cL_see 9 = .ok (.lastore, 1) := by decide +kernel
theorem dL_see_10 : decode cL_see 10 = .ok (.goto 7, 3) := by decide +kernel
theorem dL_see_13 : decode cL_see 13 = .ok (.astore 4, 2) := by decide +kernel
theorem dL_see_15 : decode cL_see 15 = .ok (.iconst 1, 1) := by decide +kernel
theorem dL_see_16 : decode cL_see 16 = .ok (.ireturn, 1) := by decide +kernel
theorem dL_see_17 : decode cL_see 17 = .ok (.iconst 0, 1) := by decide +kernel
theorem dL_see_18 : decode cL_see 18 = .ok (.ireturn, 1) := by decide +kernel
theorem dL_work_0 : decode cL_work 0 = .ok (.aload_n 2, 1) := by decide +kernel
theorem dL_work_1 : decode cL_work 1 = .ok (.iconst 0, 1) := by decide +kernel
theorem dL_work_2 : decode cL_work 2 = .ok (.aload_n 0, 1) := by decide +kernel
theorem dL_work_3 : decode cL_work 3 = .ok (.iload_n 1, 1) := by decide +kernel
theorem dL_work_4 : decode cL_work 4 = .ok (.invokevirtual 53, 3) := by decide +kernel
theorem dL_work_7 : decode cL_work 7 = .ok (.i2l, 1) := by decide +kernel
theorem dL_work_8 : decode cL_work 8 = .ok (.lastore, 1) := by decide +kernel
theorem dL_work_9 : decode cL_work 9 = .ok (.goto 6, 3) := by decide +kernel
theorem dL_work_12 : decode cL_work 12 = .ok (.astore_n 3, 1) := by decide +kernel
theorem dL_work_13 : decode cL_work 13 = .ok (.iconst 1, 1) := by decide +kernel
theorem dL_work_14 : decode cL_work 14 = .ok (.ireturn, 1) := by decide +kernel
theorem dL_work_15 : decode cL_work 15 = .ok (.iconst 0, 1) := by decide +kernel
theorem dL_work_16 : decode cL_work 16 = .ok (.ireturn, 1) := by decide +kernel
theorem dL_turn_0 : decode cL_turn 0 = .ok (.aload_n 2, 1) := by decide +kernel
theorem dL_turn_1 : decode cL_turn 1 = .ok (.iconst 0, 1) := by decide +kernel
theorem dL_turn_2 : decode cL_turn 2 = .ok (.aload_n 0, 1) := by decide +kernel
theorem dL_turn_3 : decode cL_turn 3 = .ok (.iload_n 1, 1) := by decide +kernel
theorem dL_turn_4 : decode cL_turn 4 = .ok (.invokevirtual 56, 3) := by decide +kernel
theorem dL_turn_7 : decode cL_turn 7 = .ok (.i2l, 1) := by decide +kernel
theorem dL_turn_8 : decode cL_turn 8 = .ok (.lastore, 1) := by decide +kernel
theorem dL_turn_9 : decode cL_turn 9 = .ok (.goto 6, 3) := by decide +kernel
theorem dL_turn_12 : decode cL_turn 12 = .ok (.astore_n 3, 1) := by decide +kernel
theorem dL_turn_13 : decode cL_turn 13 = .ok (.iconst 1, 1) := by decide +kernel
theorem dL_turn_14 : decode cL_turn 14 = .ok (.ireturn, 1) := by decide +kernel
theorem dL_turn_15 : decode cL_turn 15 = .ok (.iconst 0, 1) := by decide +kernel
theorem dL_turn_16 : decode cL_turn 16 = .ok (.ireturn, 1) := by decide +kernel
theorem dL_seen_0 : decode cL_seen 0 = .ok (.aload_n 2, 1) := by decide +kernel
theorem dL_seen_1 : decode cL_seen 1 = .ok (.iconst 0, 1) := by decide +kernel
theorem dL_seen_2 : decode cL_seen 2 = .ok (.aload_n 0, 1) := by decide +kernel
theorem dL_seen_3 : decode cL_seen 3 = .ok (.iload_n 1, 1) := by decide +kernel
theorem dL_seen_4 : decode cL_seen 4 = .ok (.invokevirtual 59, 3) := by decide +kernel
theorem dL_seen_7 : decode cL_seen 7 = .ok (.i2l, 1) := by decide +kernel
theorem dL_seen_8 : decode cL_seen 8 = .ok (.lastore, 1) := by decide +kernel
theorem dL_seen_9 : decode cL_seen 9 = .ok (.goto 6, 3) := by decide +kernel
theorem dL_seen_12 : decode cL_seen 12 = .ok (.astore_n 3, 1) := by decide +kernel
theorem dL_seen_13 : decode cL_seen 13 = .ok (.iconst 1, 1) := by decide +kernel
theorem dL_seen_14 : decode cL_seen 14 = .ok (.ireturn, 1) := by decide +kernel
theorem dL_seen_15 : decode cL_seen 15 = .ok (.iconst 0, 1) := by decide +kernel
theorem dL_seen_16 : decode cL_seen 16 = .ok (.ireturn, 1) := by decide +kernel
theorem dL_queued_0 : decode cL_queued 0 = .ok (.aload_n 3, 1) := by decide +kernel
theorem dL_queued_1 : decode cL_queued 1 = .ok (.iconst 0, 1) := by decide +kernel
theorem dL_queued_2 : decode cL_queued 2 = .ok (.aload_n 0, 1) := by decide +kernel
theorem dL_queued_3 : decode cL_queued 3 = .ok (.iload_n 1, 1) := by decide +kernel
theorem dL_queued_4 : decode cL_queued 4 = .ok (.iload_n 2, 1) := by decide +kernel
theorem dL_queued_5 : decode cL_queued 5 = .ok (.invokevirtual 62, 3) := by decide +kernel
theorem dL_queued_8 : decode cL_queued 8 = .ok (.i2l, 1) := by decide +kernel
theorem dL_queued_9 : decode cL_queued 9 = .ok (.lastore, 1) := by decide +kernel
theorem dL_queued_10 : decode cL_queued 10 = .ok (.goto 11, 3) := by decide +kernel
theorem dL_queued_13 : decode cL_queued 13 = .ok (.astore 4, 2) := by decide +kernel
theorem dL_queued_15 : decode cL_queued 15 = .ok (.iconst 1, 1) := by decide +kernel
theorem dL_queued_16 : decode cL_queued 16 = .ok (.ireturn, 1) := by decide +kernel
theorem dL_queued_17 : decode cL_queued 17 = .ok (.astore 4, 2) := by decide +kernel
theorem dL_queued_19 : decode cL_queued 19 = .ok (.iconst 2, 1) := by decide +kernel
theorem dL_queued_20 : decode cL_queued 20 = .ok (.ireturn, 1) := by decide +kernel
theorem dL_queued_21 : decode cL_queued 21 = .ok (.iconst 0, 1) := by decide +kernel
theorem dL_queued_22 : decode cL_queued 22 = .ok (.ireturn, 1) := by decide +kernel
theorem dL_failures_0 : decode cL_failures 0 = .ok (.aload_n 3, 1) := by decide +kernel
theorem dL_failures_1 : decode cL_failures 1 = .ok (.iconst 0, 1) := by decide +kernel
theorem dL_failures_2 : decode cL_failures 2 = .ok (.aload_n 0, 1) := by decide +kernel
theorem dL_failures_3 : decode cL_failures 3 = .ok (.iload_n 1, 1) := by decide +kernel
theorem dL_failures_4 : decode cL_failures 4 = .ok (.iload_n 2, 1) := by decide +kernel
theorem dL_failures_5 : decode cL_failures 5 = .ok (.invokevirtual 65, 3) := by decide +kernel
theorem dL_failures_8 : decode cL_failures 8 = .ok (.i2l, 1) := by decide +kernel
theorem dL_failures_9 : decode cL_failures 9 = .ok (.lastore, 1) := by decide +kernel
theorem dL_failures_10 : decode cL_failures 10 = .ok (.goto 11, 3) := by decide +kernel
theorem dL_failures_13 : decode cL_failures 13 = .ok (.astore 4, 2) := by decide +kernel
theorem dL_failures_15 : decode cL_failures 15 = .ok (.iconst 1, 1) := by decide +kernel
theorem dL_failures_16 : decode cL_failures 16 = .ok (.ireturn, 1) := by decide +kernel
theorem dL_failures_17 : decode cL_failures 17 = .ok (.astore 4, 2) := by decide +kernel
theorem dL_failures_19 : decode cL_failures 19 = .ok (.iconst 2, 1) := by decide +kernel
theorem dL_failures_20 : decode cL_failures 20 = .ok (.ireturn, 1) := by decide +kernel
theorem dL_failures_21 : decode cL_failures 21 = .ok (.iconst 0, 1) := by decide +kernel
theorem dL_failures_22 : decode cL_failures 22 = .ok (.ireturn, 1) := by decide +kernel
theorem dL_believed_0 : decode cL_believed 0 = .ok (.aload 4, 2) := by decide +kernel
theorem dL_believed_2 : decode cL_believed 2 = .ok (.iconst 0, 1) := by decide +kernel
theorem dL_believed_3 : decode cL_believed 3 = .ok (.aload_n 0, 1) := by decide +kernel
theorem dL_believed_4 : decode cL_believed 4 = .ok (.iload_n 1, 1) := by decide +kernel
theorem dL_believed_5 : decode cL_believed 5 = .ok (.iload_n 2, 1) := by decide +kernel
theorem dL_believed_6 : decode cL_believed 6 = .ok (.iload_n 3, 1) := by decide +kernel
theorem dL_believed_7 : decode cL_believed 7 = .ok (.invokevirtual 68, 3) := by decide +kernel
theorem dL_believed_10 : decode cL_believed 10 = .ok (.i2l, 1) := by decide +kernel
theorem dL_believed_11 : decode cL_believed 11 = .ok (.lastore, 1) := by decide +kernel
theorem dL_believed_12 : decode cL_believed 12 = .ok (.goto 11, 3) := by decide +kernel
theorem dL_believed_15 : decode cL_believed 15 = .ok (.astore 5, 2) := by decide +kernel
theorem dL_believed_17 : decode cL_believed 17 = .ok (.iconst 1, 1) := by decide +kernel
theorem dL_believed_18 : decode cL_believed 18 = .ok (.ireturn, 1) := by decide +kernel
theorem dL_believed_19 : decode cL_believed 19 = .ok (.astore 5, 2) := by decide +kernel
theorem dL_believed_21 : decode cL_believed 21 = .ok (.iconst 2, 1) := by decide +kernel
theorem dL_believed_22 : decode cL_believed 22 = .ok (.ireturn, 1) := by decide +kernel
theorem dL_believed_23 : decode cL_believed 23 = .ok (.iconst 0, 1) := by decide +kernel
theorem dL_believed_24 : decode cL_believed 24 = .ok (.ireturn, 1) := by decide +kernel
theorem dL_watch_0 : decode cL_watch 0 = .ok (.aload_n 3, 1) := by decide +kernel
theorem dL_watch_1 : decode cL_watch 1 = .ok (.iconst 0, 1) := by decide +kernel
theorem dL_watch_2 : decode cL_watch 2 = .ok (.aload_n 0, 1) := by decide +kernel
theorem dL_watch_3 : decode cL_watch 3 = .ok (.iload_n 1, 1) := by decide +kernel
theorem dL_watch_4 : decode cL_watch 4 = .ok (.iload_n 2, 1) := by decide +kernel
theorem dL_watch_5 : decode cL_watch 5 = .ok (.invokevirtual 71, 3) := by decide +kernel
theorem dL_watch_8 : decode cL_watch 8 = .ok (.i2l, 1) := by decide +kernel
theorem dL_watch_9 : decode cL_watch 9 = .ok (.lastore, 1) := by decide +kernel
theorem dL_watch_10 : decode cL_watch 10 = .ok (.goto 11, 3) := by decide +kernel
theorem dL_watch_13 : decode cL_watch 13 = .ok (.astore 4, 2) := by decide +kernel
theorem dL_watch_15 : decode cL_watch 15 = .ok (.iconst 1, 1) := by decide +kernel
theorem dL_watch_16 : decode cL_watch 16 = .ok (.ireturn, 1) := by decide +kernel
theorem dL_watch_17 : decode cL_watch 17 = .ok (.astore 4, 2) := by decide +kernel
theorem dL_watch_19 : decode cL_watch 19 = .ok (.iconst 2, 1) := by decide +kernel
theorem dL_watch_20 : decode cL_watch 20 = .ok (.ireturn, 1) := by decide +kernel
theorem dL_watch_21 : decode cL_watch 21 = .ok (.iconst 0, 1) := by decide +kernel
theorem dL_watch_22 : decode cL_watch 22 = .ok (.ireturn, 1) := by decide +kernel
theorem dL_next_0 : decode cL_next 0 = .ok (.aload_n 2, 1) := by decide +kernel
theorem dL_next_1 : decode cL_next 1 = .ok (.iconst 0, 1) := by decide +kernel
theorem dL_next_2 : decode cL_next 2 = .ok (.aload_n 0, 1) := by decide +kernel
theorem dL_next_3 : decode cL_next 3 = .ok (.iload_n 1, 1) := by decide +kernel
theorem dL_next_4 : decode cL_next 4 = .ok (.invokevirtual 74, 3) := by decide +kernel
theorem dL_next_7 : decode cL_next 7 = .ok (.i2l, 1) := by decide +kernel
theorem dL_next_8 : decode cL_next 8 = .ok (.lastore, 1) := by decide +kernel
theorem dL_next_9 : decode cL_next 9 = .ok (.goto 9, 3) := by decide +kernel
theorem dL_next_12 : decode cL_next 12 = .ok (.astore_n 3, 1) := by decide +kernel
theorem dL_next_13 : decode cL_next 13 = .ok (.iconst 1, 1) := by decide +kernel
theorem dL_next_14 : decode cL_next 14 = .ok (.ireturn, 1) := by decide +kernel
theorem dL_next_15 : decode cL_next 15 = .ok (.astore_n 3, 1) := by decide +kernel
theorem dL_next_16 : decode cL_next 16 = .ok (.iconst 2, 1) := by decide +kernel
theorem dL_next_17 : decode cL_next 17 = .ok (.ireturn, 1) := by decide +kernel
theorem dL_next_18 : decode cL_next 18 = .ok (.iconst 0, 1) := by decide +kernel
theorem dL_next_19 : decode cL_next 19 = .ok (.ireturn, 1) := by decide +kernel
theorem dL_list_0 : decode cL_list 0 = .ok (.aload_n 2, 1) := by decide +kernel
theorem dL_list_1 : decode cL_list 1 = .ok (.iconst 0, 1) := by decide +kernel
theorem dL_list_2 : decode cL_list 2 = .ok (.aload_n 0, 1) := by decide +kernel
theorem dL_list_3 : decode cL_list 3 = .ok (.iload_n 1, 1) := by decide +kernel
theorem dL_list_4 : decode cL_list 4 = .ok (.invokevirtual 77, 3) := by decide +kernel
theorem dL_list_7 : decode cL_list 7 = .ok (.i2l, 1) := by decide +kernel
theorem dL_list_8 : decode cL_list 8 = .ok (.lastore, 1) := by decide +kernel
theorem dL_list_9 : decode cL_list 9 = .ok (.goto 6, 3) := by decide +kernel
theorem dL_list_12 : decode cL_list 12 = .ok (.astore_n 3, 1) := by decide +kernel
theorem dL_list_13 : decode cL_list 13 = .ok (.iconst 1, 1) := by decide +kernel
theorem dL_list_14 : decode cL_list 14 = .ok (.ireturn, 1) := by decide +kernel
theorem dL_list_15 : decode cL_list 15 = .ok (.iconst 0, 1) := by decide +kernel
theorem dL_list_16 : decode cL_list 16 = .ok (.ireturn, 1) := by decide +kernel
theorem dL_compact_0 : decode cL_compact 0 = .ok (.aload_n 2, 1) := by decide +kernel
theorem dL_compact_1 : decode cL_compact 1 = .ok (.iconst 0, 1) := by decide +kernel
theorem dL_compact_2 : decode cL_compact 2 = .ok (.aload_n 0, 1) := by decide +kernel
theorem dL_compact_3 : decode cL_compact 3 = .ok (.iload_n 1, 1) := by decide +kernel
theorem dL_compact_4 : decode cL_compact 4 = .ok (.invokevirtual 80, 3) := by decide +kernel
theorem dL_compact_7 : decode cL_compact 7 = .ok (.i2l, 1) := by decide +kernel
theorem dL_compact_8 : decode cL_compact 8 = .ok (.lastore, 1) := by decide +kernel
theorem dL_compact_9 : decode cL_compact 9 = .ok (.goto 6, 3) := by decide +kernel
theorem dL_compact_12 : decode cL_compact 12 = .ok (.astore_n 3, 1) := by decide +kernel
theorem dL_compact_13 : decode cL_compact 13 = .ok (.iconst 1, 1) := by decide +kernel
theorem dL_compact_14 : decode cL_compact 14 = .ok (.ireturn, 1) := by decide +kernel
theorem dL_compact_15 : decode cL_compact 15 = .ok (.iconst 0, 1) := by decide +kernel
theorem dL_compact_16 : decode cL_compact 16 = .ok (.ireturn, 1) := by decide +kernel
theorem dL_tick_0 : decode cL_tick 0 = .ok (.aload_n 2, 1) := by decide +kernel
theorem dL_tick_1 : decode cL_tick 1 = .ok (.iconst 0, 1) := by decide +kernel
theorem dL_tick_2 : decode cL_tick 2 = .ok (.aload_n 0, 1) := by decide +kernel
theorem dL_tick_3 : decode cL_tick 3 = .ok (.iload_n 1, 1) := by decide +kernel
theorem dL_tick_4 : decode cL_tick 4 = .ok (.invokevirtual 83, 3) := by decide +kernel
theorem dL_tick_7 : decode cL_tick 7 = .ok (.i2l, 1) := by decide +kernel
theorem dL_tick_8 : decode cL_tick 8 = .ok (.lastore, 1) := by decide +kernel
theorem dL_tick_9 : decode cL_tick 9 = .ok (.goto 9, 3) := by decide +kernel
theorem dL_tick_12 : decode cL_tick 12 = .ok (.astore_n 3, 1) := by decide +kernel
theorem dL_tick_13 : decode cL_tick 13 = .ok (.iconst 1, 1) := by decide +kernel
theorem dL_tick_14 : decode cL_tick 14 = .ok (.ireturn, 1) := by decide +kernel
theorem dL_tick_15 : decode cL_tick 15 = .ok (.astore_n 3, 1) := by decide +kernel
theorem dL_tick_16 : decode cL_tick 16 = .ok (.iconst 2, 1) := by decide +kernel
theorem dL_tick_17 : decode cL_tick 17 = .ok (.ireturn, 1) := by decide +kernel
theorem dL_tick_18 : decode cL_tick 18 = .ok (.iconst 0, 1) := by decide +kernel
theorem dL_tick_19 : decode cL_tick 19 = .ok (.ireturn, 1) := by decide +kernel
theorem dL_beat_0 : decode cL_beat 0 = .ok (.aload_n 2, 1) := by decide +kernel
theorem dL_beat_1 : decode cL_beat 1 = .ok (.iconst 0, 1) := by decide +kernel
theorem dL_beat_2 : decode cL_beat 2 = .ok (.aload_n 0, 1) := by decide +kernel
theorem dL_beat_3 : decode cL_beat 3 = .ok (.iload_n 1, 1) := by decide +kernel
theorem dL_beat_4 : decode cL_beat 4 = .ok (.invokevirtual 86, 3) := by decide +kernel
theorem dL_beat_7 : decode cL_beat 7 = .ok (.ifCond .eq 7, 3) := by decide +kernel
theorem dL_beat_10 : decode cL_beat 10 = .ok (.lconst 1, 1) := by decide +kernel
theorem dL_beat_11 : decode cL_beat 11 = .ok (.goto 4, 3) := by decide +kernel
theorem dL_beat_14 : decode cL_beat 14 = .ok (.lconst 0, 1) := by decide +kernel
theorem dL_beat_15 : decode cL_beat 15 = .ok (.lastore, 1) := by decide +kernel
theorem dL_beat_16 : decode cL_beat 16 = .ok (.goto 12, 3) := by decide +kernel
theorem dL_beat_19 : decode cL_beat 19 = .ok (.astore_n 3, 1) := by decide +kernel
theorem dL_beat_20 : decode cL_beat 20 = .ok (.iconst 1, 1) := by decide +kernel
theorem dL_beat_21 : decode cL_beat 21 = .ok (.ireturn, 1) := by decide +kernel
theorem dL_beat_22 : decode cL_beat 22 = .ok (.astore_n 3, 1) := by decide +kernel
theorem dL_beat_23 : decode cL_beat 23 = .ok (.iconst 2, 1) := by decide +kernel
theorem dL_beat_24 : decode cL_beat 24 = .ok (.ireturn, 1) := by decide +kernel
theorem dL_beat_25 : decode cL_beat 25 = .ok (.astore_n 3, 1) := by decide +kernel
theorem dL_beat_26 : decode cL_beat 26 = .ok (.iconst 3, 1) := by decide +kernel
theorem dL_beat_27 : decode cL_beat 27 = .ok (.ireturn, 1) := by decide +kernel
theorem dL_beat_28 : decode cL_beat 28 = .ok (.iconst 0, 1) := by decide +kernel
theorem dL_beat_29 : decode cL_beat 29 = .ok (.ireturn, 1) := by decide +kernel
theorem dL_wish_0 : decode cL_wish 0 = .ok (.aload_n 3, 1) := by decide +kernel
theorem dL_wish_1 : decode cL_wish 1 = .ok (.iconst 0, 1) := by decide +kernel
theorem dL_wish_2 : decode cL_wish 2 = .ok (.aload_n 0, 1) := by decide +kernel
theorem dL_wish_3 : decode cL_wish 3 = .ok (.iload_n 1, 1) := by decide +kernel
theorem dL_wish_4 : decode cL_wish 4 = .ok (.iload_n 2, 1) := by decide +kernel
theorem dL_wish_5 : decode cL_wish 5 = .ok (.invokevirtual 90, 3) := by decide +kernel
theorem dL_wish_8 : decode cL_wish 8 = .ok (.i2l, 1) := by decide +kernel
theorem dL_wish_9 : decode cL_wish 9 = .ok (.lastore, 1) := by decide +kernel
theorem dL_wish_10 : decode cL_wish 10 = .ok (.goto 11, 3) := by decide +kernel
theorem dL_wish_13 : decode cL_wish 13 = .ok (.astore 4, 2) := by decide +kernel
theorem dL_wish_15 : decode cL_wish 15 = .ok (.iconst 1, 1) := by decide +kernel
theorem dL_wish_16 : decode cL_wish 16 = .ok (.ireturn, 1) := by decide +kernel
theorem dL_wish_17 : decode cL_wish 17 = .ok (.astore 4, 2) := by decide +kernel
theorem dL_wish_19 : decode cL_wish 19 = .ok (.iconst 2, 1) := by decide +kernel
theorem dL_wish_20 : decode cL_wish 20 = .ok (.ireturn, 1) := by decide +kernel
theorem dL_wish_21 : decode cL_wish 21 = .ok (.iconst 0, 1) := by decide +kernel
theorem dL_wish_22 : decode cL_wish 22 = .ok (.ireturn, 1) := by decide +kernel
theorem dL_kindOf_0 : decode cL_kindOf 0 = .ok (.aload_n 2, 1) := by decide +kernel
theorem dL_kindOf_1 : decode cL_kindOf 1 = .ok (.iconst 0, 1) := by decide +kernel
theorem dL_kindOf_2 : decode cL_kindOf 2 = .ok (.aload_n 0, 1) := by decide +kernel
theorem dL_kindOf_3 : decode cL_kindOf 3 = .ok (.iload_n 1, 1) := by decide +kernel
theorem dL_kindOf_4 : decode cL_kindOf 4 = .ok (.invokevirtual 93, 3) := by decide +kernel
theorem dL_kindOf_7 : decode cL_kindOf 7 = .ok (.i2l, 1) := by decide +kernel
theorem dL_kindOf_8 : decode cL_kindOf 8 = .ok (.lastore, 1) := by decide +kernel
theorem dL_kindOf_9 : decode cL_kindOf 9 = .ok (.goto 6, 3) := by decide +kernel
theorem dL_kindOf_12 : decode cL_kindOf 12 = .ok (.astore_n 3, 1) := by decide +kernel
theorem dL_kindOf_13 : decode cL_kindOf 13 = .ok (.iconst 1, 1) := by decide +kernel
theorem dL_kindOf_14 : decode cL_kindOf 14 = .ok (.ireturn, 1) := by decide +kernel
theorem dL_kindOf_15 : decode cL_kindOf 15 = .ok (.iconst 0, 1) := by decide +kernel
theorem dL_kindOf_16 : decode cL_kindOf 16 = .ok (.ireturn, 1) := by decide +kernel
theorem dL_field_0 : decode cL_field 0 = .ok (.aload_n 3, 1) := by decide +kernel
theorem dL_field_1 : decode cL_field 1 = .ok (.iconst 0, 1) := by decide +kernel
theorem dL_field_2 : decode cL_field 2 = .ok (.aload_n 0, 1) := by decide +kernel
theorem dL_field_3 : decode cL_field 3 = .ok (.iload_n 1, 1) := by decide +kernel
theorem dL_field_4 : decode cL_field 4 = .ok (.iload_n 2, 1) := by decide +kernel
theorem dL_field_5 : decode cL_field 5 = .ok (.invokevirtual 96, 3) := by decide +kernel
theorem dL_field_8 : decode cL_field 8 = .ok (.i2l, 1) := by decide +kernel
theorem dL_field_9 : decode cL_field 9 = .ok (.lastore, 1) := by decide +kernel
theorem dL_field_10 : decode cL_field 10 = .ok (.goto 11, 3) := by decide +kernel
theorem dL_field_13 : decode cL_field 13 = .ok (.astore 4, 2) := by decide +kernel
theorem dL_field_15 : decode cL_field 15 = .ok (.iconst 1, 1) := by decide +kernel
theorem dL_field_16 : decode cL_field 16 = .ok (.ireturn, 1) := by decide +kernel
theorem dL_field_17 : decode cL_field 17 = .ok (.astore 4, 2) := by decide +kernel
theorem dL_field_19 : decode cL_field 19 = .ok (.iconst 2, 1) := by decide +kernel
theorem dL_field_20 : decode cL_field 20 = .ok (.ireturn, 1) := by decide +kernel
theorem dL_field_21 : decode cL_field 21 = .ok (.iconst 0, 1) := by decide +kernel
theorem dL_field_22 : decode cL_field 22 = .ok (.ireturn, 1) := by decide +kernel
theorem dL_managerOf_0 : decode cL_managerOf 0 = .ok (.aload_n 3, 1) := by decide +kernel
theorem dL_managerOf_1 : decode cL_managerOf 1 = .ok (.iconst 0, 1) := by decide +kernel
theorem dL_managerOf_2 : decode cL_managerOf 2 = .ok (.aload_n 0, 1) := by decide +kernel
theorem dL_managerOf_3 : decode cL_managerOf 3 = .ok (.iload_n 1, 1) := by decide +kernel
theorem dL_managerOf_4 : decode cL_managerOf 4 = .ok (.iload_n 2, 1) := by decide +kernel
theorem dL_managerOf_5 : decode cL_managerOf 5 = .ok (.invokevirtual 99, 3) := by decide +kernel
theorem dL_managerOf_8 : decode cL_managerOf 8 = .ok (.i2l, 1) := by decide +kernel
theorem dL_managerOf_9 : decode cL_managerOf 9 = .ok (.lastore, 1) := by decide +kernel
theorem dL_managerOf_10 : decode cL_managerOf 10 = .ok (.goto 11, 3) := by decide +kernel
theorem dL_managerOf_13 : decode cL_managerOf 13 = .ok (.astore 4, 2) := by decide +kernel
theorem dL_managerOf_15 : decode cL_managerOf 15 = .ok (.iconst 1, 1) := by decide +kernel
theorem dL_managerOf_16 : decode cL_managerOf 16 = .ok (.ireturn, 1) := by decide +kernel
theorem dL_managerOf_17 : decode cL_managerOf 17 = .ok (.astore 4, 2) := by decide +kernel
theorem dL_managerOf_19 : decode cL_managerOf 19 = .ok (.iconst 2, 1) := by decide +kernel
theorem dL_managerOf_20 : decode cL_managerOf 20 = .ok (.ireturn, 1) := by decide +kernel
theorem dL_managerOf_21 : decode cL_managerOf 21 = .ok (.iconst 0, 1) := by decide +kernel
theorem dL_managerOf_22 : decode cL_managerOf 22 = .ok (.ireturn, 1) := by decide +kernel
theorem dL_budget_0 : decode cL_budget 0 = .ok (.aload_n 2, 1) := by decide +kernel
theorem dL_budget_1 : decode cL_budget 1 = .ok (.iconst 0, 1) := by decide +kernel
theorem dL_budget_2 : decode cL_budget 2 = .ok (.aload_n 0, 1) := by decide +kernel
theorem dL_budget_3 : decode cL_budget 3 = .ok (.iload_n 1, 1) := by decide +kernel
theorem dL_budget_4 : decode cL_budget 4 = .ok (.invokevirtual 102, 3) := by decide +kernel
theorem dL_budget_7 : decode cL_budget 7 = .ok (.i2l, 1) := by decide +kernel
theorem dL_budget_8 : decode cL_budget 8 = .ok (.lastore, 1) := by decide +kernel
theorem dL_budget_9 : decode cL_budget 9 = .ok (.goto 9, 3) := by decide +kernel
theorem dL_budget_12 : decode cL_budget 12 = .ok (.astore_n 3, 1) := by decide +kernel
theorem dL_budget_13 : decode cL_budget 13 = .ok (.iconst 1, 1) := by decide +kernel
theorem dL_budget_14 : decode cL_budget 14 = .ok (.ireturn, 1) := by decide +kernel
theorem dL_budget_15 : decode cL_budget 15 = .ok (.astore_n 3, 1) := by decide +kernel
theorem dL_budget_16 : decode cL_budget 16 = .ok (.iconst 2, 1) := by decide +kernel
theorem dL_budget_17 : decode cL_budget 17 = .ok (.ireturn, 1) := by decide +kernel
theorem dL_budget_18 : decode cL_budget 18 = .ok (.iconst 0, 1) := by decide +kernel
theorem dL_budget_19 : decode cL_budget 19 = .ok (.ireturn, 1) := by decide +kernel
theorem dL_versionOf_0 : decode cL_versionOf 0 = .ok (.aload_n 2, 1) := by decide +kernel
theorem dL_versionOf_1 : decode cL_versionOf 1 = .ok (.iconst 0, 1) := by decide +kernel
theorem dL_versionOf_2 : decode cL_versionOf 2 = .ok (.aload_n 0, 1) := by decide +kernel
theorem dL_versionOf_3 : decode cL_versionOf 3 = .ok (.iload_n 1, 1) := by decide +kernel
theorem dL_versionOf_4 : decode cL_versionOf 4 = .ok (.invokevirtual 105, 3) := by decide +kernel
theorem dL_versionOf_7 : decode cL_versionOf 7 = .ok (.i2l, 1) := by decide +kernel
theorem dL_versionOf_8 : decode cL_versionOf 8 = .ok (.lastore, 1) := by decide +kernel
theorem dL_versionOf_9 : decode cL_versionOf 9 = .ok (.goto 6, 3) := by decide +kernel
theorem dL_versionOf_12 : decode cL_versionOf 12 = .ok (.astore_n 3, 1) := by decide +kernel
theorem dL_versionOf_13 : decode cL_versionOf 13 = .ok (.iconst 1, 1) := by decide +kernel
theorem dL_versionOf_14 : decode cL_versionOf 14 = .ok (.ireturn, 1) := by decide +kernel
theorem dL_versionOf_15 : decode cL_versionOf 15 = .ok (.iconst 0, 1) := by decide +kernel
theorem dL_versionOf_16 : decode cL_versionOf 16 = .ok (.ireturn, 1) := by decide +kernel
theorem dL_goingOf_0 : decode cL_goingOf 0 = .ok (.aload_n 2, 1) := by decide +kernel
theorem dL_goingOf_1 : decode cL_goingOf 1 = .ok (.iconst 0, 1) := by decide +kernel
theorem dL_goingOf_2 : decode cL_goingOf 2 = .ok (.aload_n 0, 1) := by decide +kernel
theorem dL_goingOf_3 : decode cL_goingOf 3 = .ok (.iload_n 1, 1) := by decide +kernel
theorem dL_goingOf_4 : decode cL_goingOf 4 = .ok (.invokevirtual 108, 3) := by decide +kernel
theorem dL_goingOf_7 : decode cL_goingOf 7 = .ok (.i2l, 1) := by decide +kernel
theorem dL_goingOf_8 : decode cL_goingOf 8 = .ok (.lastore, 1) := by decide +kernel
theorem dL_goingOf_9 : decode cL_goingOf 9 = .ok (.goto 6, 3) := by decide +kernel
theorem dL_goingOf_12 : decode cL_goingOf 12 = .ok (.astore_n 3, 1) := by decide +kernel
theorem dL_goingOf_13 : decode cL_goingOf 13 = .ok (.iconst 1, 1) := by decide +kernel
theorem dL_goingOf_14 : decode cL_goingOf 14 = .ok (.ireturn, 1) := by decide +kernel
theorem dL_goingOf_15 : decode cL_goingOf 15 = .ok (.iconst 0, 1) := by decide +kernel
theorem dL_goingOf_16 : decode cL_goingOf 16 = .ok (.ireturn, 1) := by decide +kernel
theorem dL_ownerOf_0 : decode cL_ownerOf 0 = .ok (.aload_n 2, 1) := by decide +kernel
theorem dL_ownerOf_1 : decode cL_ownerOf 1 = .ok (.iconst 0, 1) := by decide +kernel
theorem dL_ownerOf_2 : decode cL_ownerOf 2 = .ok (.aload_n 0, 1) := by decide +kernel
theorem dL_ownerOf_3 : decode cL_ownerOf 3 = .ok (.iload_n 1, 1) := by decide +kernel
theorem dL_ownerOf_4 : decode cL_ownerOf 4 = .ok (.invokevirtual 111, 3) := by decide +kernel
theorem dL_ownerOf_7 : decode cL_ownerOf 7 = .ok (.i2l, 1) := by decide +kernel
theorem dL_ownerOf_8 : decode cL_ownerOf 8 = .ok (.lastore, 1) := by decide +kernel
theorem dL_ownerOf_9 : decode cL_ownerOf 9 = .ok (.goto 6, 3) := by decide +kernel
theorem dL_ownerOf_12 : decode cL_ownerOf 12 = .ok (.astore_n 3, 1) := by decide +kernel
theorem dL_ownerOf_13 : decode cL_ownerOf 13 = .ok (.iconst 1, 1) := by decide +kernel
theorem dL_ownerOf_14 : decode cL_ownerOf 14 = .ok (.ireturn, 1) := by decide +kernel
theorem dL_ownerOf_15 : decode cL_ownerOf 15 = .ok (.iconst 0, 1) := by decide +kernel
theorem dL_ownerOf_16 : decode cL_ownerOf 16 = .ok (.ireturn, 1) := by decide +kernel
theorem dL_phaseOf_0 : decode cL_phaseOf 0 = .ok (.aload_n 2, 1) := by decide +kernel
theorem dL_phaseOf_1 : decode cL_phaseOf 1 = .ok (.iconst 0, 1) := by decide +kernel
theorem dL_phaseOf_2 : decode cL_phaseOf 2 = .ok (.aload_n 0, 1) := by decide +kernel
theorem dL_phaseOf_3 : decode cL_phaseOf 3 = .ok (.iload_n 1, 1) := by decide +kernel
theorem dL_phaseOf_4 : decode cL_phaseOf 4 = .ok (.invokevirtual 114, 3) := by decide +kernel
theorem dL_phaseOf_7 : decode cL_phaseOf 7 = .ok (.i2l, 1) := by decide +kernel
theorem dL_phaseOf_8 : decode cL_phaseOf 8 = .ok (.lastore, 1) := by decide +kernel
theorem dL_phaseOf_9 : decode cL_phaseOf 9 = .ok (.goto 9, 3) := by decide +kernel
theorem dL_phaseOf_12 : decode cL_phaseOf 12 = .ok (.astore_n 3, 1) := by decide +kernel
theorem dL_phaseOf_13 : decode cL_phaseOf 13 = .ok (.iconst 1, 1) := by decide +kernel
theorem dL_phaseOf_14 : decode cL_phaseOf 14 = .ok (.ireturn, 1) := by decide +kernel
theorem dL_phaseOf_15 : decode cL_phaseOf 15 = .ok (.astore_n 3, 1) := by decide +kernel
theorem dL_phaseOf_16 : decode cL_phaseOf 16 = .ok (.iconst 2, 1) := by decide +kernel
theorem dL_phaseOf_17 : decode cL_phaseOf 17 = .ok (.ireturn, 1) := by decide +kernel
theorem dL_phaseOf_18 : decode cL_phaseOf 18 = .ok (.iconst 0, 1) := by decide +kernel
theorem dL_phaseOf_19 : decode cL_phaseOf 19 = .ok (.ireturn, 1) := by decide +kernel
theorem dL_placeOf_0 : decode cL_placeOf 0 = .ok (.aload_n 2, 1) := by decide +kernel
theorem dL_placeOf_1 : decode cL_placeOf 1 = .ok (.iconst 0, 1) := by decide +kernel
theorem dL_placeOf_2 : decode cL_placeOf 2 = .ok (.aload_n 0, 1) := by decide +kernel
theorem dL_placeOf_3 : decode cL_placeOf 3 = .ok (.iload_n 1, 1) := by decide +kernel
theorem dL_placeOf_4 : decode cL_placeOf 4 = .ok (.invokevirtual 117, 3) := by decide +kernel
theorem dL_placeOf_7 : decode cL_placeOf 7 = .ok (.i2l, 1) := by decide +kernel
theorem dL_placeOf_8 : decode cL_placeOf 8 = .ok (.lastore, 1) := by decide +kernel
theorem dL_placeOf_9 : decode cL_placeOf 9 = .ok (.goto 9, 3) := by decide +kernel
theorem dL_placeOf_12 : decode cL_placeOf 12 = .ok (.astore_n 3, 1) := by decide +kernel
theorem dL_placeOf_13 : decode cL_placeOf 13 = .ok (.iconst 1, 1) := by decide +kernel
theorem dL_placeOf_14 : decode cL_placeOf 14 = .ok (.ireturn, 1) := by decide +kernel
theorem dL_placeOf_15 : decode cL_placeOf 15 = .ok (.astore_n 3, 1) := by decide +kernel
theorem dL_placeOf_16 : decode cL_placeOf 16 = .ok (.iconst 2, 1) := by decide +kernel
theorem dL_placeOf_17 : decode cL_placeOf 17 = .ok (.ireturn, 1) := by decide +kernel
theorem dL_placeOf_18 : decode cL_placeOf 18 = .ok (.iconst 0, 1) := by decide +kernel
theorem dL_placeOf_19 : decode cL_placeOf 19 = .ok (.ireturn, 1) := by decide +kernel
theorem dL_isReady_0 : decode cL_isReady 0 = .ok (.aload_n 2, 1) := by decide +kernel
theorem dL_isReady_1 : decode cL_isReady 1 = .ok (.iconst 0, 1) := by decide +kernel
theorem dL_isReady_2 : decode cL_isReady 2 = .ok (.aload_n 0, 1) := by decide +kernel
theorem dL_isReady_3 : decode cL_isReady 3 = .ok (.iload_n 1, 1) := by decide +kernel
theorem dL_isReady_4 : decode cL_isReady 4 = .ok (.invokevirtual 120, 3) := by decide +kernel
theorem dL_isReady_7 : decode cL_isReady 7 = .ok (.ifCond .eq 7, 3) := by decide +kernel
theorem dL_isReady_10 : decode cL_isReady 10 = .ok (.lconst 1, 1) := by decide +kernel
theorem dL_isReady_11 : decode cL_isReady 11 = .ok (.goto 4, 3) := by decide +kernel
theorem dL_isReady_14 : decode cL_isReady 14 = .ok (.lconst 0, 1) := by decide +kernel
theorem dL_isReady_15 : decode cL_isReady 15 = .ok (.lastore, 1) := by decide +kernel
theorem dL_isReady_16 : decode cL_isReady 16 = .ok (.goto 9, 3) := by decide +kernel
theorem dL_isReady_19 : decode cL_isReady 19 = .ok (.astore_n 3, 1) := by decide +kernel
theorem dL_isReady_20 : decode cL_isReady 20 = .ok (.iconst 1, 1) := by decide +kernel
theorem dL_isReady_21 : decode cL_isReady 21 = .ok (.ireturn, 1) := by decide +kernel
theorem dL_isReady_22 : decode cL_isReady 22 = .ok (.astore_n 3, 1) := by decide +kernel
theorem dL_isReady_23 : decode cL_isReady 23 = .ok (.iconst 2, 1) := by decide +kernel
theorem dL_isReady_24 : decode cL_isReady 24 = .ok (.ireturn, 1) := by decide +kernel
theorem dL_isReady_25 : decode cL_isReady 25 = .ok (.iconst 0, 1) := by decide +kernel
theorem dL_isReady_26 : decode cL_isReady 26 = .ok (.ireturn, 1) := by decide +kernel
theorem dL_isBehind_0 : decode cL_isBehind 0 = .ok (.aload_n 3, 1) := by decide +kernel
theorem dL_isBehind_1 : decode cL_isBehind 1 = .ok (.iconst 0, 1) := by decide +kernel
theorem dL_isBehind_2 : decode cL_isBehind 2 = .ok (.aload_n 0, 1) := by decide +kernel
theorem dL_isBehind_3 : decode cL_isBehind 3 = .ok (.iload_n 1, 1) := by decide +kernel
theorem dL_isBehind_4 : decode cL_isBehind 4 = .ok (.iload_n 2, 1) := by decide +kernel
theorem dL_isBehind_5 : decode cL_isBehind 5 = .ok (.invokevirtual 123, 3) := by decide +kernel
theorem dL_isBehind_8 : decode cL_isBehind 8 = .ok (.ifCond .eq 7, 3) := by decide +kernel
theorem dL_isBehind_11 : decode cL_isBehind 11 = .ok (.lconst 1, 1) := by decide +kernel
theorem dL_isBehind_12 : decode cL_isBehind 12 = .ok (.goto 4, 3) := by decide +kernel
theorem dL_isBehind_15 : decode cL_isBehind 15 = .ok (.lconst 0, 1) := by decide +kernel
theorem dL_isBehind_16 : decode cL_isBehind 16 = .ok (.lastore, 1) := by decide +kernel
theorem dL_isBehind_17 : decode cL_isBehind 17 = .ok (.goto 11, 3) := by decide +kernel
theorem dL_isBehind_20 : decode cL_isBehind 20 = .ok (.astore 4, 2) := by decide +kernel
theorem dL_isBehind_22 : decode cL_isBehind 22 = .ok (.iconst 1, 1) := by decide +kernel
theorem dL_isBehind_23 : decode cL_isBehind 23 = .ok (.ireturn, 1) := by decide +kernel
theorem dL_isBehind_24 : decode cL_isBehind 24 = .ok (.astore 4, 2) := by decide +kernel
theorem dL_isBehind_26 : decode cL_isBehind 26 = .ok (.iconst 2, 1) := by decide +kernel
theorem dL_isBehind_27 : decode cL_isBehind 27 = .ok (.ireturn, 1) := by decide +kernel
theorem dL_isBehind_28 : decode cL_isBehind 28 = .ok (.iconst 0, 1) := by decide +kernel
theorem dL_isBehind_29 : decode cL_isBehind 29 = .ok (.ireturn, 1) := by decide +kernel
theorem dL_running_0 : decode cL_running 0 = .ok (.aload_n 3, 1) := by decide +kernel
theorem dL_running_1 : decode cL_running 1 = .ok (.iconst 0, 1) := by decide +kernel
theorem dL_running_2 : decode cL_running 2 = .ok (.aload_n 0, 1) := by decide +kernel
theorem dL_running_3 : decode cL_running 3 = .ok (.iload_n 1, 1) := by decide +kernel
theorem dL_running_4 : decode cL_running 4 = .ok (.iload_n 2, 1) := by decide +kernel
theorem dL_running_5 : decode cL_running 5 = .ok (.invokevirtual 127, 3) := by decide +kernel
theorem dL_running_8 : decode cL_running 8 = .ok (.i2l, 1) := by decide +kernel
theorem dL_running_9 : decode cL_running 9 = .ok (.lastore, 1) := by decide +kernel
theorem dL_running_10 : decode cL_running 10 = .ok (.goto 11, 3) := by decide +kernel
theorem dL_running_13 : decode cL_running 13 = .ok (.astore 4, 2) := by decide +kernel
theorem dL_running_15 : decode cL_running 15 = .ok (.iconst 1, 1) := by decide +kernel
theorem dL_running_16 : decode cL_running 16 = .ok (.ireturn, 1) := by decide +kernel
theorem dL_running_17 : decode cL_running 17 = .ok (.astore 4, 2) := by decide +kernel
theorem dL_running_19 : decode cL_running 19 = .ok (.iconst 2, 1) := by decide +kernel
theorem dL_running_20 : decode cL_running 20 = .ok (.ireturn, 1) := by decide +kernel
theorem dL_running_21 : decode cL_running 21 = .ok (.iconst 0, 1) := by decide +kernel
theorem dL_running_22 : decode cL_running 22 = .ok (.ireturn, 1) := by decide +kernel
theorem dL_objectOf_0 : decode cL_objectOf 0 = .ok (.aload_n 2, 1) := by decide +kernel
theorem dL_objectOf_1 : decode cL_objectOf 1 = .ok (.iconst 0, 1) := by decide +kernel
theorem dL_objectOf_2 : decode cL_objectOf 2 = .ok (.aload_n 0, 1) := by decide +kernel
theorem dL_objectOf_3 : decode cL_objectOf 3 = .ok (.iload_n 1, 1) := by decide +kernel
theorem dL_objectOf_4 : decode cL_objectOf 4 = .ok (.invokevirtual 130, 3) := by decide +kernel
theorem dL_objectOf_7 : decode cL_objectOf 7 = .ok (.i2l, 1) := by decide +kernel
theorem dL_objectOf_8 : decode cL_objectOf 8 = .ok (.lastore, 1) := by decide +kernel
theorem dL_objectOf_9 : decode cL_objectOf 9 = .ok (.goto 6, 3) := by decide +kernel
theorem dL_objectOf_12 : decode cL_objectOf 12 = .ok (.astore_n 3, 1) := by decide +kernel
theorem dL_objectOf_13 : decode cL_objectOf 13 = .ok (.iconst 1, 1) := by decide +kernel
theorem dL_objectOf_14 : decode cL_objectOf 14 = .ok (.ireturn, 1) := by decide +kernel
theorem dL_objectOf_15 : decode cL_objectOf 15 = .ok (.iconst 0, 1) := by decide +kernel
theorem dL_objectOf_16 : decode cL_objectOf 16 = .ok (.ireturn, 1) := by decide +kernel
end
