section
theorem dX0_addRule_0 : decode cX0_addRule 0 = .ok (.aload_n 0, 1) := by decide +kernel
theorem dX0_addRule_1 : decode cX0_addRule 1 = .ok (.getfield 25, 3) := by decide +kernel
theorem dX0_addRule_4 : decode cX0_addRule 4 = .ok (.bipush 8, 2) := by decide +kernel
theorem dX0_addRule_6 : decode cX0_addRule 6 = .ok (.if_icmp .lt 5, 3) := by decide +kernel
theorem dX0_addRule_9 : decode cX0_addRule 9 = .ok (.iconst 0, 1) := by decide +kernel
theorem dX0_addRule_10 : decode cX0_addRule 10 = .ok (.ireturn, 1) := by decide +kernel
theorem dX0_addRule_11 : decode cX0_addRule 11 = .ok (.aload_n 0, 1) := by decide +kernel
theorem dX0_addRule_12 : decode cX0_addRule 12 = .ok (.getfield 25, 3) := by decide +kernel
theorem dX0_addRule_15 : decode cX0_addRule 15 = .ok (.bipush 6, 2) := by decide +kernel
theorem dX0_addRule_17 : decode cX0_addRule 17 = .ok (.imul, 1) := by decide +kernel
theorem dX0_addRule_18 : decode cX0_addRule 18 = .ok (.istore 7, 2) := by decide +kernel
theorem dX0_addRule_20 : decode cX0_addRule 20 = .ok (.aload_n 0, 1) := by decide +kernel
theorem dX0_addRule_21 : decode cX0_addRule 21 = .ok (.getfield 11, 3) := by decide +kernel
theorem dX0_addRule_24 : decode cX0_addRule 24 = .ok (.iload 7, 2) := by decide +kernel
theorem dX0_addRule_26 : decode cX0_addRule 26 = .ok (.iload_n 1, 1) := by decide +kernel
theorem dX0_addRule_27 : decode cX0_addRule 27 = .ok (.iastore, 1) := by decide +kernel
theorem dX0_addRule_28 : decode cX0_addRule 28 = .ok (.aload_n 0, 1) := by decide +kernel
theorem dX0_addRule_29 : decode cX0_addRule 29 = .ok (.getfield 11, 3) := by decide +kernel
theorem dX0_addRule_32 : decode cX0_addRule 32 = .ok (.iload 7, 2) := by decide +kernel
theorem dX0_addRule_34 : decode cX0_addRule 34 = .ok (.iconst 1, 1) := by decide +kernel
theorem dX0_addRule_35 : decode cX0_addRule 35 = .ok (.iadd, 1) := by decide +kernel
theorem dX0_addRule_36 : decode cX0_addRule 36 = .ok (.iload_n 2, 1) := by decide +kernel
theorem dX0_addRule_37 : decode cX0_addRule 37 = .ok (.iastore, 1) := by decide +kernel
theorem dX0_addRule_38 : decode cX0_addRule 38 = .ok (.aload_n 0, 1) := by decide +kernel
theorem dX0_addRule_39 : decode cX0_addRule 39 = .ok (.getfield 11, 3) := by decide +kernel
theorem dX0_addRule_42 : decode cX0_addRule 42 = .ok (.iload 7, 2) := by decide +kernel
theorem dX0_addRule_44 : decode cX0_addRule 44 = .ok (.iconst 2, 1) := by decide +kernel
theorem dX0_addRule_45 : decode cX0_addRule 45 = .ok (.iadd, 1) := by decide +kernel
theorem dX0_addRule_46 : decode cX0_addRule 46 = .ok (.iload_n 3, 1) := by decide +kernel
theorem dX0_addRule_47 : decode cX0_addRule 47 = .ok (.iastore, 1) := by decide +kernel
theorem dX0_addRule_48 : decode cX0_addRule 48 = .ok (.aload_n 0, 1) := by decide +kernel
theorem dX0_addRule_49 : decode cX0_addRule 49 = .ok (.getfield 11, 3) := by decide +kernel
theorem dX0_addRule_52 : decode cX0_addRule 52 = .ok (.iload 7, 2) := by decide +kernel
theorem dX0_addRule_54 : decode cX0_addRule 54 = .ok (.iconst 3, 1) := by decide +kernel
theorem dX0_addRule_55 : decode cX0_addRule 55 = .ok (.iadd, 1) := by decide +kernel
theorem dX0_addRule_56 : decode cX0_addRule 56 = .ok (.iload 4, 2) := by decide +kernel
theorem dX0_addRule_58 : decode cX0_addRule 58 = .ok (.iastore, 1) := by decide +kernel
theorem dX0_addRule_59 : decode cX0_addRule 59 = .ok (.aload_n 0, 1) := by decide +kernel
theorem dX0_addRule_60 : decode cX0_addRule 60 = .ok (.getfield 11, 3) := by decide +kernel
theorem dX0_addRule_63 : decode cX0_addRule 63 = .ok (.iload 7, 2) := by decide +kernel
theorem dX0_addRule_65 : decode cX0_addRule 65 = .ok (.iconst 4, 1) := by decide +kernel
theorem dX0_addRule_66 : decode cX0_addRule 66 = .ok (.iadd, 1) := by decide +kernel
theorem dX0_addRule_67 : decode cX0_addRule 67 = .ok (.iload 5, 2) := by decide +kernel
theorem dX0_addRule_69 : decode cX0_addRule 69 = .ok (.iastore, 1) := by decide +kernel
theorem dX0_addRule_70 : decode cX0_addRule 70 = .ok (.aload_n 0, 1) := by decide +kernel
theorem dX0_addRule_71 : decode cX0_addRule 71 = .ok (.getfield 11, 3) := by decide +kernel
theorem dX0_addRule_74 : decode cX0_addRule 74 = .ok (.iload 7, 2) := by decide +kernel
theorem dX0_addRule_76 : decode cX0_addRule 76 = .ok (.iconst 5, 1) := by decide +kernel
theorem dX0_addRule_77 : decode cX0_addRule 77 = .ok (.iadd, 1) := by decide +kernel
theorem dX0_addRule_78 : decode cX0_addRule 78 = .ok (.iload 6, 2) := by decide +kernel
theorem dX0_addRule_80 : decode cX0_addRule 80 = .ok (.iastore, 1) := by decide +kernel
theorem dX0_addRule_81 : decode cX0_addRule 81 = .ok (.aload_n 0, 1) := by decide +kernel
theorem dX0_addRule_82 : decode cX0_addRule 82 = .ok (.dup, 1) := by decide +kernel
theorem dX0_addRule_83 : decode cX0_addRule 83 = .ok (.getfield 25, 3) := by decide +kernel
theorem dX0_addRule_86 : decode cX0_addRule 86 = .ok (.iconst 1, 1) := by decide +kernel
theorem dX0_addRule_87 : decode cX0_addRule 87 = .ok (.iadd, 1) := by decide +kernel
theorem dX0_addRule_88 : decode cX0_addRule 88 = .ok (.putfield 25, 3) := by decide +kernel
theorem dX0_addRule_91 : decode cX0_addRule 91 = .ok (.iconst 1, 1) := by decide +kernel
theorem dX0_addRule_92 : decode cX0_addRule 92 = .ok (.ireturn, 1) := by decide +kernel
theorem dX0_addCheck_0 : decode cX0_addCheck 0 = .ok (.aload_n 0, 1) := by decide +kernel
theorem dX0_addCheck_1 : decode cX0_addCheck 1 = .ok (.getfield 28, 3) := by decide +kernel
theorem dX0_addCheck_4 : decode cX0_addCheck 4 = .ok (.bipush 8, 2) := by decide +kernel
theorem dX0_addCheck_6 : decode cX0_addCheck 6 = .ok (.if_icmp .lt 5, 3) := by decide +kernel
theorem dX0_addCheck_9 : decode cX0_addCheck 9 = .ok (.iconst 0, 1) := by decide +kernel
theorem dX0_addCheck_10 : decode cX0_addCheck 10 = .ok (.ireturn, 1) := by decide +kernel
theorem dX0_addCheck_11 : decode cX0_addCheck 11 = .ok (.aload_n 0, 1) := by decide +kernel
theorem dX0_addCheck_12 : decode cX0_addCheck 12 = .ok (.getfield 28, 3) := by decide +kernel
theorem dX0_addCheck_15 : decode cX0_addCheck 15 = .ok (.iconst 3, 1) := by decide +kernel
theorem dX0_addCheck_16 : decode cX0_addCheck 16 = .ok (.imul, 1) := by decide +kernel
theorem dX0_addCheck_17 : decode cX0_addCheck 17 = .ok (.istore 4, 2) := by decide +kernel
theorem dX0_addCheck_19 : decode cX0_addCheck 19 = .ok (.aload_n 0, 1) := by decide +kernel
theorem dX0_addCheck_20 : decode cX0_addCheck 20 = .ok (.getfield 15, 3) := by decide +kernel
theorem dX0_addCheck_23 : decode cX0_addCheck 23 = .ok (.iload 4, 2) := by decide +kernel
theorem dX0_addCheck_25 : decode cX0_addCheck 25 = .ok (.iload_n 1, 1) := by decide +kernel
theorem dX0_addCheck_26 : decode cX0_addCheck 26 = .ok (.iastore, 1) := by decide +kernel
theorem dX0_addCheck_27 : decode cX0_addCheck 27 = .ok (.aload_n 0, 1) := by decide +kernel
theorem dX0_addCheck_28 : decode cX0_addCheck 28 = .ok (.getfield 15, 3) := by decide +kernel
theorem dX0_addCheck_31 : decode cX0_addCheck 31 = .ok (.iload 4, 2) := by decide +kernel
theorem dX0_addCheck_33 : decode cX0_addCheck 33 = .ok (.iconst 1, 1) := by decide +kernel
theorem dX0_addCheck_34 : decode cX0_addCheck 34 = .ok (.iadd, 1) := by decide +kernel
theorem dX0_addCheck_35 : decode cX0_addCheck 35 = .ok (.iload_n 2, 1) := by decide +kernel
theorem dX0_addCheck_36 : decode cX0_addCheck 36 = .ok (.iastore, 1) := by decide +kernel
theorem dX0_addCheck_37 : decode cX0_addCheck 37 = .ok (.aload_n 0, 1) := by decide +kernel
theorem dX0_addCheck_38 : decode cX0_addCheck 38 = .ok (.getfield 15, 3) := by decide +kernel
theorem dX0_addCheck_41 : decode cX0_addCheck 41 = .ok (.iload 4, 2) := by decide +kernel
theorem dX0_addCheck_43 : decode cX0_addCheck 43 = .ok (.iconst 2, 1) := by decide +kernel
theorem dX0_addCheck_44 : decode cX0_addCheck 44 = .ok (.iadd, 1) := by decide +kernel
theorem dX0_addCheck_45 : decode cX0_addCheck 45 = .ok (.iload_n 3, 1) := by decide +kernel
theorem dX0_addCheck_46 : decode cX0_addCheck 46 = .ok (.iastore, 1) := by decide +kernel
theorem dX0_addCheck_47 : decode cX0_addCheck 47 = .ok (.aload_n 0, 1) := by decide +kernel
theorem dX0_addCheck_48 : decode cX0_addCheck 48 = .ok (.dup, 1) := by decide +kernel
theorem dX0_addCheck_49 : decode cX0_addCheck 49 = .ok (.getfield 28, 3) := by decide +kernel
theorem dX0_addCheck_52 : decode cX0_addCheck 52 = .ok (.iconst 1, 1) := by decide +kernel
theorem dX0_addCheck_53 : decode cX0_addCheck 53 = .ok (.iadd, 1) := by decide +kernel
theorem dX0_addCheck_54 : decode cX0_addCheck 54 = .ok (.putfield 28, 3) := by decide +kernel
theorem dX0_addCheck_57 : decode cX0_addCheck 57 = .ok (.iconst 1, 1) := by decide +kernel
theorem dX0_addCheck_58 : decode cX0_addCheck 58 = .ok (.ireturn, 1) := by decide +kernel
theorem dX0_settles_0 : decode cX0_settles 0 = .ok (.iconst 0, 1) := by decide +kernel
theorem dX0_settles_1 : decode cX0_settles 1 = .ok (.istore_n 2, 1) := by decide +kernel
theorem dX0_settles_2 : decode cX0_settles 2 = .ok (.iload_n 2, 1) := by decide +kernel
theorem dX0_settles_3 : decode cX0_settles 3 = .ok (.bipush 6, 2) := by decide +kernel
theorem dX0_settles_5 : decode cX0_settles 5 = .ok (.if_icmp .ge 74, 3) := by decide +kernel
theorem dX0_settles_8 : decode cX0_settles 8 = .ok (.aload_n 1, 1) := by decide +kernel
theorem dX0_settles_9 : decode cX0_settles 9 = .ok (.iconst 0, 1) := by decide +kernel
theorem dX0_settles_10 : decode cX0_settles 10 = .ok (.aload_n 0, 1) := by decide +kernel
theorem dX0_settles_11 : decode cX0_settles 11 = .ok (.getfield 18, 3) := by decide +kernel
theorem dX0_settles_14 : decode cX0_settles 14 = .ok (.iconst 0, 1) := by decide +kernel
theorem dX0_settles_15 : decode cX0_settles 15 = .ok (.bipush 11, 2) := by decide +kernel
theorem dX0_settles_17 : decode cX0_settles 17 = .ok (.invokestatic 31, 3) := by decide +kernel
theorem dX0_settles_20 : decode cX0_settles 20 = .ok (.aload_n 0, 1) := by decide +kernel
theorem dX0_settles_21 : decode cX0_settles 21 = .ok (.aload_n 1, 1) := by decide +kernel
theorem dX0_settles_22 : decode cX0_settles 22 = .ok (.invokevirtual 37, 3) := by decide +kernel
theorem dX0_settles_25 : decode cX0_settles 25 = .ok (.iconst 1, 1) := by decide +kernel
theorem dX0_settles_26 : decode cX0_settles 26 = .ok (.istore_n 3, 1) := by decide +kernel
theorem dX0_settles_27 : decode cX0_settles 27 = .ok (.iconst 0, 1) := by decide +kernel
theorem dX0_settles_28 : decode cX0_settles 28 = .ok (.istore 4, 2) := by decide +kernel
theorem dX0_settles_30 : decode cX0_settles 30 = .ok (.iload 4, 2) := by decide +kernel
theorem dX0_settles_32 : decode cX0_settles 32 = .ok (.bipush 11, 2) := by decide +kernel
theorem dX0_settles_34 : decode cX0_settles 34 = .ok (.if_icmp .ge 33, 3) := by decide +kernel
theorem dX0_settles_37 : decode cX0_settles 37 = .ok (.iload_n 3, 1) := by decide +kernel
theorem dX0_settles_38 : decode cX0_settles 38 = .ok (.ifCond .eq 21, 3) := by decide +kernel
theorem dX0_settles_41 : decode cX0_settles 41 = .ok (.aload_n 1, 1) := by decide +kernel
theorem dX0_settles_42 : decode cX0_settles 42 = .ok (.iload 4, 2) := by decide +kernel
theorem dX0_settles_44 : decode cX0_settles 44 = .ok (.iaload, 1) := by decide +kernel
theorem dX0_settles_45 : decode cX0_settles 45 = .ok (.aload_n 0, 1) := by decide +kernel
theorem dX0_settles_46 : decode cX0_settles 46 = .ok (.getfield 18, 3) := by decide +kernel
theorem dX0_settles_49 : decode cX0_settles 49 = .ok (.iload 4, 2) := by decide +kernel
theorem dX0_settles_51 : decode cX0_settles 51 = .ok (.iaload, 1) := by decide +kernel
theorem dX0_settles_52 : decode cX0_settles 52 = .ok (.if_icmp .ne 7, 3) := by decide +kernel
theorem dX0_settles_55 : decode cX0_settles 55 = .ok (.iconst 1, 1) := by decide +kernel
theorem dX0_settles_56 : decode cX0_settles 56 = .ok (.goto 4, 3) := by decide +kernel
theorem dX0_settles_59 : decode cX0_settles 59 = .ok (.iconst 0, 1) := by decide +kernel
theorem dX0_settles_60 : decode cX0_settles 60 = .ok (.istore_n 3, 1) := by decide +kernel
theorem dX0_settles_61 : decode cX0_settles 61 = .ok (.iinc 4 1, 3) := by decide +kernel
theorem dX0_settles_64 : decode cX0_settles 64 = .ok (.goto (-34), 3) := by decide +kernel
theorem dX0_settles_67 : decode cX0_settles 67 = .ok (.iload_n 3, 1) := by decide +kernel
theorem dX0_settles_68 : decode cX0_settles 68 = .ok (.ifCond .eq 5, 3) := by decide +kernel
theorem dX0_settles_71 : decode cX0_settles 71 = .ok (.iconst 1, 1) := by decide +kernel
theorem dX0_settles_72 : decode cX0_settles 72 = .ok (.ireturn, 1) := by decide +kernel
theorem dX0_settles_73 : decode cX0_settles 73 = .ok (.iinc 2 1, 3) := by decide +kernel
theorem dX0_settles_76 : decode cX0_settles 76 = .ok (.goto (-74), 3) := by decide +kernel
theorem dX0_settles_79 : decode cX0_settles 79 = .ok (.iconst 0, 1) := by decide +kernel
theorem dX0_settles_80 : decode cX0_settles 80 = .ok (.ireturn, 1) := by decide +kernel
theorem dX0_runRules_0 : decode cX0_runRules 0 = .ok (.iconst 0, 1) := by decide +kernel
theorem dX0_runRules_1 : decode cX0_runRules 1 = .ok (.istore_n 2, 1) := by decide +kernel
theorem dX0_runRules_2 : decode cX0_runRules 2 = .ok (.iload_n 2, 1) := by decide +kernel
theorem dX0_runRules_3 : decode cX0_runRules 3 = .ok (.aload_n 0, 1) := by decide +kernel
theorem dX0_runRules_4 : decode cX0_runRules 4 = .ok (.getfield 25, 3) := by decide +kernel
theorem dX0_runRules_7 : decode cX0_runRules 7 = .ok (.if_icmp .ge 83, 3) := by decide +kernel
theorem dX0_runRules_10 : decode cX0_runRules 10 = .ok (.iload_n 2, 1) := by decide +kernel
theorem dX0_runRules_11 : decode cX0_runRules 11 = .ok (.bipush 6, 2) := by decide +kernel
theorem dX0_runRules_13 : decode cX0_runRules 13 = .ok (.imul, 1) := by decide +kernel
theorem dX0_runRules_14 : decode cX0_runRules 14 = .ok (.istore_n 3, 1) := by decide +kernel
theorem dX0_runRules_15 : decode cX0_runRules 15 = .ok (.aload_n 1, 1) := by decide +kernel
theorem dX0_runRules_16 : decode cX0_runRules 16 = .ok (.aload_n 0, 1) := by decide +kernel
theorem dX0_runRules_17 : decode cX0_runRules 17 = .ok (.getfield 11, 3) := by decide +kernel
theorem dX0_runRules_20 : decode cX0_runRules 20 = .ok (.iload_n 3, 1) := by decide +kernel
theorem dX0_runRules_21 : decode cX0_runRules 21 = .ok (.iconst 1, 1) := by decide +kernel
theorem dX0_runRules_22 : decode cX0_runRules 22 = .ok (.iadd, 1) := by decide +kernel
theorem dX0_runRules_23 : decode cX0_runRules 23 = .ok (.iaload, 1) := by decide +kernel
theorem dX0_runRules_24 : decode cX0_runRules 24 = .ok (.iaload, 1) := by decide +kernel
theorem dX0_runRules_25 : decode cX0_runRules 25 = .ok (.istore 4, 2) := by decide +kernel
theorem dX0_runRules_27 : decode cX0_runRules 27 = .ok (.aload_n 0, 1) := by decide +kernel
theorem dX0_runRules_28 : decode cX0_runRules 28 = .ok (.getfield 11, 3) := by decide +kernel
theorem dX0_runRules_31 : decode cX0_runRules 31 = .ok (.iload_n 3, 1) := by decide +kernel
theorem dX0_runRules_32 : decode cX0_runRules 32 = .ok (.iaload, 1) := by decide +kernel
theorem dX0_runRules_33 : decode cX0_runRules 33 = .ok (.aload_n 1, 1) := by decide +kernel
theorem dX0_runRules_34 : decode cX0_runRules 34 = .ok (.bipush 23, 2) := by decide +kernel
theorem dX0_runRules_36 : decode cX0_runRules 36 = .ok (.iaload, 1) := by decide +kernel
theorem dX0_runRules_37 : decode cX0_runRules 37 = .ok (.if_icmp .ne 47, 3) := by decide +kernel
theorem dX0_runRules_40 : decode cX0_runRules 40 = .ok (.iload 4, 2) := by decide +kernel
theorem dX0_runRules_42 : decode cX0_runRules 42 = .ok (.aload_n 0, 1) := by decide +kernel
theorem dX0_runRules_43 : decode cX0_runRules 43 = .ok (.getfield 11, 3) := by decide +kernel
theorem dX0_runRules_46 : decode cX0_runRules 46 = .ok (.iload_n 3, 1) := by decide +kernel
theorem dX0_runRules_47 : decode cX0_runRules 47 = .ok (.iconst 2, 1) := by decide +kernel
theorem dX0_runRules_48 : decode cX0_runRules 48 = .ok (.iadd, 1) := by decide +kernel
theorem dX0_runRules_49 : decode cX0_runRules 49 = .ok (.iaload, 1) := by decide +kernel
theorem dX0_runRules_50 : decode cX0_runRules 50 = .ok (.if_icmp .lt 34, 3) := by decide +kernel
theorem dX0_runRules_53 : decode cX0_runRules 53 = .ok (.iload 4, 2) := by decide +kernel
theorem dX0_runRules_55 : decode cX0_runRules 55 = .ok (.aload_n 0, 1) := by decide +kernel
theorem dX0_runRules_56 : decode cX0_runRules 56 = .ok (.getfield 11, 3) := by decide +kernel
theorem dX0_runRules_59 : decode cX0_runRules 59 = .ok (.iload_n 3, 1) := by decide +kernel
theorem dX0_runRules_60 : decode cX0_runRules 60 = .ok (.iconst 3, 1) := by decide +kernel
theorem dX0_runRules_61 : decode cX0_runRules 61 = .ok (.iadd, 1) := by decide +kernel
theorem dX0_runRules_62 : decode cX0_runRules 62 = .ok (.iaload, 1) := by decide +kernel
theorem dX0_runRules_63 : decode cX0_runRules 63 = .ok (.if_icmp .gt 21, 3) := by decide +kernel
theorem dX0_runRules_66 : decode cX0_runRules 66 = .ok (.aload_n 1, 1) := by decide +kernel
theorem dX0_runRules_67 : decode cX0_runRules 67 = .ok (.aload_n 0, 1) := by decide +kernel
theorem dX0_runRules_68 : decode cX0_runRules 68 = .ok (.getfield 11, 3) := by decide +kernel
theorem dX0_runRules_71 : decode cX0_runRules 71 = .ok (.iload_n 3, 1) := by decide +kernel
theorem dX0_runRules_72 : decode cX0_runRules 72 = .ok (.iconst 4, 1) := by decide +kernel
theorem dX0_runRules_73 : decode cX0_runRules 73 = .ok (.iadd, 1) := by decide +kernel
theorem dX0_runRules_74 : decode cX0_runRules 74 = .ok (.iaload, 1) := by decide +kernel
theorem dX0_runRules_75 : decode cX0_runRules 75 = .ok (.aload_n 0, 1) := by decide +kernel
theorem dX0_runRules_76 : decode cX0_runRules 76 = .ok (.getfield 11, 3) := by decide +kernel
theorem dX0_runRules_79 : decode cX0_runRules 79 = .ok (.iload_n 3, 1) := by decide +kernel
theorem dX0_runRules_80 : decode cX0_runRules 80 = .ok (.iconst 5, 1) := by decide +kernel
theorem dX0_runRules_81 : decode cX0_runRules 81 = .ok (.iadd, 1) := by decide +kernel
theorem dX0_runRules_82 : decode cX0_runRules 82 = .ok (.iaload, 1) := by decide +kernel
theorem dX0_runRules_83 : decode cX0_runRules 83 = .ok (.iastore, 1) := by decide +kernel
theorem dX0_runRules_84 : decode cX0_runRules 84 = .ok (.iinc 2 1, 3) := by decide +kernel
theorem dX0_runRules_87 : decode cX0_runRules 87 = .ok (.goto (-85), 3) := by decide +kernel
theorem dX0_runRules_90 : decode cX0_runRules 90 = .ok (.return_, 1) := by decide +kernel
theorem dX0_allows_0 : decode cX0_allows 0 = .ok (.aload_n 1, 1) := by decide +kernel
theorem dX0_allows_1 : decode cX0_allows 1 = .ok (.bipush 23, 2) := by decide +kernel
theorem dX0_allows_3 : decode cX0_allows 3 = .ok (.iaload, 1) := by decide +kernel
theorem dX0_allows_4 : decode cX0_allows 4 = .ok (.ifCond .ne 17, 3) := by decide +kernel
theorem dX0_allows_7 : decode cX0_allows 7 = .ok (.aload_n 1, 1) := by decide +kernel
theorem dX0_allows_8 : decode cX0_allows 8 = .ok (.iconst 2, 1) := by decide +kernel
theorem dX0_allows_9 : decode cX0_allows 9 = .ok (.iaload, 1) := by decide +kernel
theorem dX0_allows_10 : decode cX0_allows 10 = .ok (.ifCond .ne 11, 3) := by decide +kernel
theorem dX0_allows_13 : decode cX0_allows 13 = .ok (.aload_n 1, 1) := by decide +kernel
theorem dX0_allows_14 : decode cX0_allows 14 = .ok (.iconst 3, 1) := by decide +kernel
theorem dX0_allows_15 : decode cX0_allows 15 = .ok (.iaload, 1) := by decide +kernel
theorem dX0_allows_16 : decode cX0_allows 16 = .ok (.ifCond .ne 5, 3) := by decide +kernel
theorem dX0_allows_19 : decode cX0_allows 19 = .ok (.iconst 0, 1) := by decide +kernel
theorem dX0_allows_20 : decode cX0_allows 20 = .ok (.ireturn, 1) := by decide +kernel
theorem dX0_allows_21 : decode cX0_allows 21 = .ok (.iconst 0, 1) := by decide +kernel
theorem dX0_allows_22 : decode cX0_allows 22 = .ok (.istore_n 2, 1) := by decide +kernel
theorem dX0_allows_23 : decode cX0_allows 23 = .ok (.iload_n 2, 1) := by decide +kernel
theorem dX0_allows_24 : decode cX0_allows 24 = .ok (.aload_n 0, 1) := by decide +kernel
theorem dX0_allows_25 : decode cX0_allows 25 = .ok (.getfield 28, 3) := by decide +kernel
theorem dX0_allows_28 : decode cX0_allows 28 = .ok (.if_icmp .ge 49, 3) := by decide +kernel
theorem dX0_allows_31 : decode cX0_allows 31 = .ok (.iload_n 2, 1) := by decide +kernel
theorem dX0_allows_32 : decode cX0_allows 32 = .ok (.iconst 3, 1) := by decide +kernel
theorem dX0_allows_33 : decode cX0_allows 33 = .ok (.imul, 1) := by decide +kernel
theorem dX0_allows_34 : decode cX0_allows 34 = .ok (.istore_n 3, 1) := by decide +kernel
theorem dX0_allows_35 : decode cX0_allows 35 = .ok (.aload_n 0, 1) := by decide +kernel
theorem dX0_allows_36 : decode cX0_allows 36 = .ok (.getfield 15, 3) := by decide +kernel
theorem dX0_allows_39 : decode cX0_allows 39 = .ok (.iload_n 3, 1) := by decide +kernel
theorem dX0_allows_40 : decode cX0_allows 40 = .ok (.iaload, 1) := by decide +kernel
theorem dX0_allows_41 : decode cX0_allows 41 = .ok (.aload_n 1, 1) := by decide +kernel
theorem dX0_allows_42 : decode cX0_allows 42 = .ok (.bipush 23, 2) := by decide +kernel
theorem dX0_allows_44 : decode cX0_allows 44 = .ok (.iaload, 1) := by decide +kernel
theorem dX0_allows_45 : decode cX0_allows 45 = .ok (.if_icmp .ne 26, 3) := by decide +kernel
theorem dX0_allows_48 : decode cX0_allows 48 = .ok (.aload_n 1, 1) := by decide +kernel
theorem dX0_allows_49 : decode cX0_allows 49 = .ok (.aload_n 0, 1) := by decide +kernel
theorem dX0_allows_50 : decode cX0_allows 50 = .ok (.getfield 15, 3) := by decide +kernel
theorem dX0_allows_53 : decode cX0_allows 53 = .ok (.iload_n 3, 1) := by decide +kernel
theorem dX0_allows_54 : decode cX0_allows 54 = .ok (.iconst 1, 1) := by decide +kernel
theorem dX0_allows_55 : decode cX0_allows 55 = .ok (.iadd, 1) := by decide +kernel
theorem dX0_allows_56 : decode cX0_allows 56 = .ok (.iaload, 1) := by decide +kernel
theorem dX0_allows_57 : decode cX0_allows 57 = .ok (.iaload, 1) := by decide +kernel
theorem dX0_allows_58 : decode cX0_allows 58 = .ok (.aload_n 0, 1) := by decide +kernel
theorem dX0_allows_59 : decode cX0_allows 59 = .ok (.getfield 15, 3) := by decide +kernel
theorem dX0_allows_62 : decode cX0_allows 62 = .ok (.iload_n 3, 1) := by decide +kernel
theorem dX0_allows_63 : decode cX0_allows 63 = .ok (.iconst 2, 1) := by decide +kernel
theorem dX0_allows_64 : decode cX0_allows 64 = .ok (.iadd, 1) := by decide +kernel
theorem dX0_allows_65 : decode cX0_allows 65 = .ok (.iaload, 1) := by decide +kernel
theorem dX0_allows_66 : decode cX0_allows 66 = .ok (.if_icmp .le 5, 3) := by decide +kernel
theorem dX0_allows_69 : decode cX0_allows 69 = .ok (.iconst 0, 1) := by decide +kernel
theorem dX0_allows_70 : decode cX0_allows 70 = .ok (.ireturn, 1) := by decide +kernel
theorem dX0_allows_71 : decode cX0_allows 71 = .ok (.iinc 2 1, 3) := by decide +kernel
theorem dX0_allows_74 : decode cX0_allows 74 = .ok (.goto (-51), 3) := by decide +kernel
theorem dX0_allows_77 : decode cX0_allows 77 = .ok (.iconst 1, 1) := by decide +kernel
theorem dX0_allows_78 : decode cX0_allows 78 = .ok (.ireturn, 1) := by decide +kernel
theorem dX1_queueOthers_0 : decode cX1_queueOthers 0 = .ok (.aload_n 0, 1) := by decide +kernel
theorem dX1_queueOthers_1 : decode cX1_queueOthers 1 = .ok (.iload_n 2, 1) := by decide +kernel
theorem dX1_queueOthers_2 : decode cX1_queueOthers 2 = .ok (.invokevirtual 9, 3) := by decide +kernel
theorem dX1_queueOthers_5 : decode cX1_queueOthers 5 = .ok (.iconst 0, 1) := by decide +kernel
theorem dX1_queueOthers_6 : decode cX1_queueOthers 6 = .ok (.istore_n 3, 1) := by decide +kernel
theorem dX1_queueOthers_7 : decode cX1_queueOthers 7 = .ok (.iload_n 3, 1) := by decide +kernel
theorem dX1_queueOthers_8 : decode cX1_queueOthers 8 = .ok (.aload_n 0, 1) := by decide +kernel
theorem dX1_queueOthers_9 : decode cX1_queueOthers 9 = .ok (.getfield 15, 3) := by decide +kernel
theorem dX1_queueOthers_12 : decode cX1_queueOthers 12 = .ok (.if_icmp .ge 25, 3) := by decide +kernel
theorem dX1_queueOthers_15 : decode cX1_queueOthers 15 = .ok (.aload_n 0, 1) := by decide +kernel
theorem dX1_queueOthers_16 : decode cX1_queueOthers 16 = .ok (.iload_n 3, 1) := by decide +kernel
theorem dX1_queueOthers_17 : decode cX1_queueOthers 17 = .ok (.bipush 24, 2) := by decide +kernel
theorem dX1_queueOthers_19 : decode cX1_queueOthers 19 = .ok (.invokevirtual 19, 3) := by decide +kernel
theorem dX1_queueOthers_22 : decode cX1_queueOthers 22 = .ok (.iload_n 1, 1) := by decide +kernel
theorem dX1_queueOthers_23 : decode cX1_queueOthers 23 = .ok (.if_icmp .ne 8, 3) := by decide +kernel
theorem dX1_queueOthers_26 : decode cX1_queueOthers 26 = .ok (.aload_n 0, 1) := by decide +kernel
theorem dX1_queueOthers_27 : decode cX1_queueOthers 27 = .ok (.iload_n 3, 1) := by decide +kernel
theorem dX1_queueOthers_28 : decode cX1_queueOthers 28 = .ok (.invokevirtual 9, 3) := by decide +kernel
theorem dX1_queueOthers_31 : decode cX1_queueOthers 31 = .ok (.iinc 3 1, 3) := by decide +kernel
theorem dX1_queueOthers_34 : decode cX1_queueOthers 34 = .ok (.goto (-27), 3) := by decide +kernel
theorem dX1_queueOthers_37 : decode cX1_queueOthers 37 = .ok (.return_, 1) := by decide +kernel
theorem dX1_serve_0 : decode cX1_serve 0 = .ok (.aload_n 0, 1) := by decide +kernel
theorem dX1_serve_1 : decode cX1_serve 1 = .ok (.iload_n 1, 1) := by decide +kernel
theorem dX1_serve_2 : decode cX1_serve 2 = .ok (.bipush 25, 2) := by decide +kernel
theorem dX1_serve_4 : decode cX1_serve 4 = .ok (.invokevirtual 19, 3) := by decide +kernel
theorem dX1_serve_7 : decode cX1_serve 7 = .ok (.istore_n 2, 1) := by decide +kernel
theorem dX1_serve_8 : decode cX1_serve 8 = .ok (.iload_n 2, 1) := by decide +kernel
theorem dX1_serve_9 : decode cX1_serve 9 = .ok (.iconst 4, 1) := by decide +kernel
theorem dX1_serve_10 : decode cX1_serve 10 = .ok (.if_icmp .ne 5, 3) := by decide +kernel
theorem dX1_serve_13 : decode cX1_serve 13 = .ok (.iconst 1, 1) := by decide +kernel
theorem dX1_serve_14 : decode cX1_serve 14 = .ok (.ireturn, 1) := by decide +kernel
theorem dX1_serve_15 : decode cX1_serve 15 = .ok (.iload_n 2, 1) := by decide +kernel
theorem dX1_serve_16 : decode cX1_serve 16 = .ok (.ifCond .ne 37, 3) := by decide +kernel
theorem dX1_serve_19 : decode cX1_serve 19 = .ok (.aload_n 0, 1) := by decide +kernel
theorem dX1_serve_20 : decode cX1_serve 20 = .ok (.iload_n 1, 1) := by decide +kernel
theorem dX1_serve_21 : decode cX1_serve 21 = .ok (.bipush 24, 2) := by decide +kernel
theorem dX1_serve_23 : decode cX1_serve 23 = .ok (.invokevirtual 19, 3) := by decide +kernel
theorem dX1_serve_26 : decode cX1_serve 26 = .ok (.istore_n 3, 1) := by decide +kernel
theorem dX1_serve_27 : decode cX1_serve 27 = .ok (.iload_n 3, 1) := by decide +kernel
theorem dX1_serve_28 : decode cX1_serve 28 = .ok (.iconst (-1), 1) := by decide +kernel
theorem dX1_serve_29 : decode cX1_serve 29 = .ok (.if_icmp .eq 22, 3) := by decide +kernel
theorem dX1_serve_32 : decode cX1_serve 32 = .ok (.aload_n 0, 1) := by decide +kernel
theorem dX1_serve_33 : decode cX1_serve 33 = .ok (.iload_n 3, 1) := by decide +kernel
theorem dX1_serve_34 : decode cX1_serve 34 = .ok (.invokevirtual 23, 3) := by decide +kernel
theorem dX1_serve_37 : decode cX1_serve 37 = .ok (.ifCond .eq 14, 3) := by decide +kernel
theorem dX1_serve_40 : decode cX1_serve 40 = .ok (.aload_n 0, 1) := by decide +kernel
theorem dX1_serve_41 : decode cX1_serve 41 = .ok (.iload_n 1, 1) := by decide +kernel
theorem dX1_serve_42 : decode cX1_serve 42 = .ok (.invokevirtual 27, 3) := by decide +kernel
theorem dX1_serve_45 : decode cX1_serve 45 = .ok (.invokestatic 30, 3) := by decide +kernel
theorem dX1_serve_48 : decode cX1_serve 48 = .ok (.goto 4, 3) := by decide +kernel
theorem dX1_serve_51 : decode cX1_serve 51 = .ok (.iconst 1, 1) := by decide +kernel
theorem dX1_serve_52 : decode cX1_serve 52 = .ok (.ireturn, 1) := by decide +kernel
theorem dX1_serve_53 : decode cX1_serve 53 = .ok (.iload_n 2, 1) := by decide +kernel
theorem dX1_serve_54 : decode cX1_serve 54 = .ok (.iconst 2, 1) := by decide +kernel
theorem dX1_serve_55 : decode cX1_serve 55 = .ok (.if_icmp .eq 33, 3) := by decide +kernel
theorem dX1_serve_58 : decode cX1_serve 58 = .ok (.aload_n 0, 1) := by decide +kernel
theorem dX1_serve_59 : decode cX1_serve 59 = .ok (.iload_n 1, 1) := by decide +kernel
theorem dX1_serve_60 : decode cX1_serve 60 = .ok (.invokevirtual 34, 3) := by decide +kernel
theorem dX1_serve_63 : decode cX1_serve 63 = .ok (.ifCond .eq 25, 3) := by decide +kernel
theorem dX1_serve_66 : decode cX1_serve 66 = .ok (.iload_n 2, 1) := by decide +kernel
theorem dX1_serve_67 : decode cX1_serve 67 = .ok (.iconst 1, 1) := by decide +kernel
theorem dX1_serve_68 : decode cX1_serve 68 = .ok (.if_icmp .ne 11, 3) := by decide +kernel
theorem dX1_serve_71 : decode cX1_serve 71 = .ok (.aload_n 0, 1) := by decide +kernel
theorem dX1_serve_72 : decode cX1_serve 72 = .ok (.iload_n 1, 1) := by decide +kernel
theorem dX1_serve_73 : decode cX1_serve 73 = .ok (.invokevirtual 37, 3) := by decide +kernel
theorem dX1_serve_76 : decode cX1_serve 76 = .ok (.goto 8, 3) := by decide +kernel
theorem dX1_serve_79 : decode cX1_serve 79 = .ok (.aload_n 0, 1) := by decide +kernel
theorem dX1_serve_80 : decode cX1_serve 80 = .ok (.iload_n 1, 1) := by decide +kernel
theorem dX1_serve_81 : decode cX1_serve 81 = .ok (.invokevirtual 40, 3) := by decide +kernel
theorem dX1_serve_84 : decode cX1_serve 84 = .ok (.invokestatic 30, 3) := by decide +kernel
theorem dX1_serve_87 : decode cX1_serve 87 = .ok (.ireturn, 1) := by decide +kernel
theorem dX1_serve_88 : decode cX1_serve 88 = .ok (.aload_n 0, 1) := by decide +kernel
theorem dX1_serve_89 : decode cX1_serve 89 = .ok (.iload_n 1, 1) := by decide +kernel
theorem dX1_serve_90 : decode cX1_serve 90 = .ok (.invokevirtual 43, 3) := by decide +kernel
theorem dX1_serve_93 : decode cX1_serve 93 = .ok (.ifCond .eq 7, 3) := by decide +kernel
theorem dX1_serve_96 : decode cX1_serve 96 = .ok (.iconst 1, 1) := by decide +kernel
theorem dX1_serve_97 : decode cX1_serve 97 = .ok (.goto 14, 3) := by decide +kernel
theorem dX1_serve_100 : decode cX1_serve 100 = .ok (.aload_n 0, 1) := by decide +kernel
theorem dX1_serve_101 : decode cX1_serve 101 = .ok (.iload_n 1, 1) := by decide +kernel
theorem dX1_serve_102 : decode cX1_serve 102 = .ok (.bipush 25, 2) := by decide +kernel
theorem dX1_serve_104 : decode cX1_serve 104 = .ok (.iconst 4, 1) := by decide +kernel
theorem dX1_serve_105 : decode cX1_serve 105 = .ok (.invokevirtual 46, 3) := by decide +kernel
theorem dX1_serve_108 : decode cX1_serve 108 = .ok (.invokestatic 30, 3) := by decide +kernel
theorem dX1_serve_111 : decode cX1_serve 111 = .ok (.ireturn, 1) := by decide +kernel
theorem dX1_ownsSome_0 : decode cX1_ownsSome 0 = .ok (.iconst 0, 1) := by decide +kernel
theorem dX1_ownsSome_1 : decode cX1_ownsSome 1 = .ok (.istore_n 2, 1) := by decide +kernel
theorem dX1_ownsSome_2 : decode cX1_ownsSome 2 = .ok (.iload_n 2, 1) := by decide +kernel
theorem dX1_ownsSome_3 : decode cX1_ownsSome 3 = .ok (.aload_n 0, 1) := by decide +kernel
theorem dX1_ownsSome_4 : decode cX1_ownsSome 4 = .ok (.getfield 15, 3) := by decide +kernel
theorem dX1_ownsSome_7 : decode cX1_ownsSome 7 = .ok (.if_icmp .ge 22, 3) := by decide +kernel
theorem dX1_ownsSome_10 : decode cX1_ownsSome 10 = .ok (.aload_n 0, 1) := by decide +kernel
theorem dX1_ownsSome_11 : decode cX1_ownsSome 11 = .ok (.iload_n 2, 1) := by decide +kernel
theorem dX1_ownsSome_12 : decode cX1_ownsSome 12 = .ok (.bipush 24, 2) := by decide +kernel
theorem dX1_ownsSome_14 : decode cX1_ownsSome 14 = .ok (.invokevirtual 19, 3) := by decide +kernel
theorem dX1_ownsSome_17 : decode cX1_ownsSome 17 = .ok (.iload_n 1, 1) := by decide +kernel
theorem dX1_ownsSome_18 : decode cX1_ownsSome 18 = .ok (.if_icmp .ne 5, 3) := by decide +kernel
theorem dX1_ownsSome_21 : decode cX1_ownsSome 21 = .ok (.iconst 1, 1) := by decide +kernel
theorem dX1_ownsSome_22 : decode cX1_ownsSome 22 = .ok (.ireturn, 1) := by decide +kernel
theorem dX1_ownsSome_23 : decode cX1_ownsSome 23 = .ok (.iinc 2 1, 3) := by decide +kernel
theorem dX1_ownsSome_26 : decode cX1_ownsSome 26 = .ok (.goto (-24), 3) := by decide +kernel
theorem dX1_ownsSome_29 : decode cX1_ownsSome 29 = .ok (.iconst 0, 1) := by decide +kernel
theorem dX1_ownsSome_30 : decode cX1_ownsSome 30 = .ok (.ireturn, 1) := by decide +kernel
theorem dX1_deleteOwned_0 : decode cX1_deleteOwned 0 = .ok (.iconst 0, 1) := by decide +kernel
theorem dX1_deleteOwned_1 : decode cX1_deleteOwned 1 = .ok (.istore_n 2, 1) := by decide +kernel
theorem dX1_deleteOwned_2 : decode cX1_deleteOwned 2 = .ok (.iload_n 2, 1) := by decide +kernel
theorem dX1_deleteOwned_3 : decode cX1_deleteOwned 3 = .ok (.aload_n 0, 1) := by decide +kernel
theorem dX1_deleteOwned_4 : decode cX1_deleteOwned 4 = .ok (.getfield 15, 3) := by decide +kernel
theorem dX1_deleteOwned_7 : decode cX1_deleteOwned 7 = .ok (.if_icmp .ge 53, 3) := by decide +kernel
theorem dX1_deleteOwned_10 : decode cX1_deleteOwned 10 = .ok (.aload_n 0, 1) := by decide +kernel
theorem dX1_deleteOwned_11 : decode cX1_deleteOwned 11 = .ok (.iload_n 2, 1) := by decide +kernel
theorem dX1_deleteOwned_12 : decode cX1_deleteOwned 12 = .ok (.bipush 24, 2) := by decide +kernel
theorem dX1_deleteOwned_14 : decode cX1_deleteOwned 14 = .ok (.invokevirtual 19, 3) := by decide +kernel
theorem dX1_deleteOwned_17 : decode cX1_deleteOwned 17 = .ok (.iload_n 1, 1) := by decide +kernel
theorem dX1_deleteOwned_18 : decode cX1_deleteOwned 18 = .ok (.if_icmp .ne 17, 3) := by decide +kernel
theorem dX1_deleteOwned_21 : decode cX1_deleteOwned 21 = .ok (.aload_n 0, 1) := by decide +kernel
theorem dX1_deleteOwned_22 : decode cX1_deleteOwned 22 = .ok (.iload_n 2, 1) := by decide +kernel
theorem dX1_deleteOwned_23 : decode cX1_deleteOwned 23 = .ok (.bipush 25, 2) := by decide +kernel
theorem dX1_deleteOwned_25 : decode cX1_deleteOwned 25 = .ok (.invokevirtual 19, 3) := by decide +kernel
theorem dX1_deleteOwned_28 : decode cX1_deleteOwned 28 = .ok (.ifCond .ne 7, 3) := by decide +kernel
theorem dX1_deleteOwned_31 : decode cX1_deleteOwned 31 = .ok (.iconst 1, 1) := by decide +kernel
theorem dX1_deleteOwned_32 : decode cX1_deleteOwned 32 = .ok (.goto 4, 3) := by decide +kernel
theorem dX1_deleteOwned_35 : decode cX1_deleteOwned 35 = .ok (.iconst 0, 1) := by decide +kernel
theorem dX1_deleteOwned_36 : decode cX1_deleteOwned 36 = .ok (.istore_n 3, 1) := by decide +kernel
theorem dX1_deleteOwned_37 : decode cX1_deleteOwned 37 = .ok (.iload_n 3, 1) := by decide +kernel
theorem dX1_deleteOwned_38 : decode cX1_deleteOwned 38 = .ok (.ifCond .eq 16, 3) := by decide +kernel
theorem dX1_deleteOwned_41 : decode cX1_deleteOwned 41 = .ok (.aload_n 0, 1) := by decide +kernel
theorem dX1_deleteOwned_42 : decode cX1_deleteOwned 42 = .ok (.iload_n 2, 1) := by decide +kernel
theorem dX1_deleteOwned_43 : decode cX1_deleteOwned 43 = .ok (.bipush 25, 2) := by decide +kernel
theorem dX1_deleteOwned_45 : decode cX1_deleteOwned 45 = .ok (.iconst 1, 1) := by decide +kernel
theorem dX1_deleteOwned_46 : decode cX1_deleteOwned 46 = .ok (.invokevirtual 46, 3) := by decide +kernel
theorem dX1_deleteOwned_49 : decode cX1_deleteOwned 49 = .ok (.ifCond .ne 5, 3) := by decide +kernel
theorem dX1_deleteOwned_52 : decode cX1_deleteOwned 52 = .ok (.iconst 0, 1) := by decide +kernel
theorem dX1_deleteOwned_53 : decode cX1_deleteOwned 53 = .ok (.ireturn, 1) := by decide +kernel
theorem dX1_deleteOwned_54 : decode cX1_deleteOwned 54 = .ok (.iinc 2 1, 3) := by decide +kernel
theorem dX1_deleteOwned_57 : decode cX1_deleteOwned 57 = .ok (.goto (-55), 3) := by decide +kernel
theorem dX1_deleteOwned_60 : decode cX1_deleteOwned 60 = .ok (.iconst 1, 1) := by decide +kernel
theorem dX1_deleteOwned_61 : decode cX1_deleteOwned 61 = .ok (.ireturn, 1) := by decide +kernel
theorem dX1_disownAll_0 : decode cX1_disownAll 0 = .ok (.iconst 0, 1) := by decide +kernel
theorem dX1_disownAll_1 : decode cX1_disownAll 1 = .ok (.istore_n 2, 1) := by decide +kernel
theorem dX1_disownAll_2 : decode cX1_disownAll 2 = .ok (.iload_n 2, 1) := by decide +kernel
theorem dX1_disownAll_3 : decode cX1_disownAll 3 = .ok (.aload_n 0, 1) := by decide +kernel
theorem dX1_disownAll_4 : decode cX1_disownAll 4 = .ok (.getfield 15, 3) := by decide +kernel
theorem dX1_disownAll_7 : decode cX1_disownAll 7 = .ok (.if_icmp .ge 33, 3) := by decide +kernel
theorem dX1_disownAll_10 : decode cX1_disownAll 10 = .ok (.aload_n 0, 1) := by decide +kernel
theorem dX1_disownAll_11 : decode cX1_disownAll 11 = .ok (.iload_n 2, 1) := by decide +kernel
theorem dX1_disownAll_12 : decode cX1_disownAll 12 = .ok (.bipush 24, 2) := by decide +kernel
theorem dX1_disownAll_14 : decode cX1_disownAll 14 = .ok (.invokevirtual 19, 3) := by decide +kernel
theorem dX1_disownAll_17 : decode cX1_disownAll 17 = .ok (.iload_n 1, 1) := by decide +kernel
theorem dX1_disownAll_18 : decode cX1_disownAll 18 = .ok (.if_icmp .ne 16, 3) := by decide +kernel
theorem dX1_disownAll_21 : decode cX1_disownAll 21 = .ok (.aload_n 0, 1) := by decide +kernel
theorem dX1_disownAll_22 : decode cX1_disownAll 22 = .ok (.iload_n 2, 1) := by decide +kernel
theorem dX1_disownAll_23 : decode cX1_disownAll 23 = .ok (.bipush 24, 2) := by decide +kernel
theorem dX1_disownAll_25 : decode cX1_disownAll 25 = .ok (.iconst (-1), 1) := by decide +kernel
theorem dX1_disownAll_26 : decode cX1_disownAll 26 = .ok (.invokevirtual 46, 3) := by decide +kernel
theorem dX1_disownAll_29 : decode cX1_disownAll 29 = .ok (.ifCond .ne 5, 3) := by decide +kernel
theorem dX1_disownAll_32 : decode cX1_disownAll 32 = .ok (.iconst 0, 1) := by decide +kernel
theorem dX1_disownAll_33 : decode cX1_disownAll 33 = .ok (.ireturn, 1) := by decide +kernel
theorem dX1_disownAll_34 : decode cX1_disownAll 34 = .ok (.iinc 2 1, 3) := by decide +kernel
theorem dX1_disownAll_37 : decode cX1_disownAll 37 = .ok (.goto (-35), 3) := by decide +kernel
theorem dX1_disownAll_40 : decode cX1_disownAll 40 = .ok (.iconst 1, 1) := by decide +kernel
theorem dX1_disownAll_41 : decode cX1_disownAll 41 = .ok (.ireturn, 1) := by decide +kernel
theorem dX2_look_0 : decode cX2_look 0 = .ok (.aload_n 0, 1) := by decide +kernel
theorem dX2_look_1 : decode cX2_look 1 = .ok (.getfield 41, 3) := by decide +kernel
theorem dX2_look_4 : decode cX2_look 4 = .ok (.istore_n 2, 1) := by decide +kernel
theorem dX2_look_5 : decode cX2_look 5 = .ok (.aload_n 0, 1) := by decide +kernel
theorem dX2_look_6 : decode cX2_look 6 = .ok (.getfield 44, 3) := by decide +kernel
theorem dX2_look_9 : decode cX2_look 9 = .ok (.aload_n 0, 1) := by decide +kernel
theorem dX2_look_10 : decode cX2_look 10 = .ok (.getfield 15, 3) := by decide +kernel
theorem dX2_look_13 : decode cX2_look 13 = .ok (.getfield 47, 3) := by decide +kernel
theorem dX2_look_16 : decode cX2_look 16 = .ok (.if_icmp .ge 14, 3) := by decide +kernel
theorem dX2_look_19 : decode cX2_look 19 = .ok (.aload_n 0, 1) := by decide +kernel
theorem dX2_look_20 : decode cX2_look 20 = .ok (.invokevirtual 50, 3) := by decide +kernel
theorem dX2_look_23 : decode cX2_look 23 = .ok (.aload_n 0, 1) := by decide +kernel
theorem dX2_look_24 : decode cX2_look 24 = .ok (.getfield 41, 3) := by decide +kernel
theorem dX2_look_27 : decode cX2_look 27 = .ok (.iload_n 2, 1) := by decide +kernel
theorem dX2_look_28 : decode cX2_look 28 = .ok (.isub, 1) := by decide +kernel
theorem dX2_look_29 : decode cX2_look 29 = .ok (.ireturn, 1) := by decide +kernel
theorem dX2_look_30 : decode cX2_look 30 = .ok (.iconst 0, 1) := by decide +kernel
theorem dX2_look_31 : decode cX2_look 31 = .ok (.istore_n 3, 1) := by decide +kernel
theorem dX2_look_32 : decode cX2_look 32 = .ok (.iload_n 3, 1) := by decide +kernel
theorem dX2_look_33 : decode cX2_look 33 = .ok (.iload_n 1, 1) := by decide +kernel
theorem dX2_look_34 : decode cX2_look 34 = .ok (.if_icmp .ge 27, 3) := by decide +kernel
theorem dX2_look_37 : decode cX2_look 37 = .ok (.aload_n 0, 1) := by decide +kernel
theorem dX2_look_38 : decode cX2_look 38 = .ok (.getfield 44, 3) := by decide +kernel
theorem dX2_look_41 : decode cX2_look 41 = .ok (.aload_n 0, 1) := by decide +kernel
theorem dX2_look_42 : decode cX2_look 42 = .ok (.getfield 15, 3) := by decide +kernel
theorem dX2_look_45 : decode cX2_look 45 = .ok (.getfield 54, 3) := by decide +kernel
theorem dX2_look_48 : decode cX2_look 48 = .ok (.if_icmp .ge 13, 3) := by decide +kernel
theorem dX2_look_51 : decode cX2_look 51 = .ok (.aload_n 0, 1) := by decide +kernel
theorem dX2_look_52 : decode cX2_look 52 = .ok (.invokevirtual 55, 3) := by decide +kernel
theorem dX2_look_55 : decode cX2_look 55 = .ok (.iinc 3 1, 3) := by decide +kernel
theorem dX2_look_58 : decode cX2_look 58 = .ok (.goto (-26), 3) := by decide +kernel
theorem dX2_look_61 : decode cX2_look 61 = .ok (.aload_n 0, 1) := by decide +kernel
theorem dX2_look_62 : decode cX2_look 62 = .ok (.getfield 41, 3) := by decide +kernel
theorem dX2_look_65 : decode cX2_look 65 = .ok (.iload_n 2, 1) := by decide +kernel
theorem dX2_look_66 : decode cX2_look 66 = .ok (.isub, 1) := by decide +kernel
theorem dX2_look_67 : decode cX2_look 67 = .ok (.ireturn, 1) := by decide +kernel
theorem dX2_lookAtAll_0 : decode cX2_lookAtAll 0 = .ok (.aload_n 0, 1) := by decide +kernel
theorem dX2_lookAtAll_1 : decode cX2_lookAtAll 1 = .ok (.sipush 400, 3) := by decide +kernel
theorem dX2_lookAtAll_4 : decode cX2_lookAtAll 4 = .ok (.invokevirtual 58, 3) := by decide +kernel
theorem dX2_lookAtAll_7 : decode cX2_lookAtAll 7 = .ok (.pop, 1) := by decide +kernel
theorem dX2_lookAtAll_8 : decode cX2_lookAtAll 8 = .ok (.aload_n 0, 1) := by decide +kernel
theorem dX2_lookAtAll_9 : decode cX2_lookAtAll 9 = .ok (.getfield 41, 3) := by decide +kernel
theorem dX2_lookAtAll_12 : decode cX2_lookAtAll 12 = .ok (.ireturn, 1) := by decide +kernel
theorem dX2_relist_0 : decode cX2_relist 0 = .ok (.aload_n 0, 1) := by decide +kernel
theorem dX2_relist_1 : decode cX2_relist 1 = .ok (.aload_n 0, 1) := by decide +kernel
theorem dX2_relist_2 : decode cX2_relist 2 = .ok (.getfield 15, 3) := by decide +kernel
theorem dX2_relist_5 : decode cX2_relist 5 = .ok (.invokevirtual 62, 3) := by decide +kernel
theorem dX2_relist_8 : decode cX2_relist 8 = .ok (.iconst 0, 1) := by decide +kernel
theorem dX2_relist_9 : decode cX2_relist 9 = .ok (.istore_n 1, 1) := by decide +kernel
theorem dX2_relist_10 : decode cX2_relist 10 = .ok (.iload_n 1, 1) := by decide +kernel
theorem dX2_relist_11 : decode cX2_relist 11 = .ok (.aload_n 0, 1) := by decide +kernel
theorem dX2_relist_12 : decode cX2_relist 12 = .ok (.getfield 66, 3) := by decide +kernel
theorem dX2_relist_15 : decode cX2_relist 15 = .ok (.if_icmp .ge 30, 3) := by decide +kernel
theorem dX2_relist_18 : decode cX2_relist 18 = .ok (.aload_n 0, 1) := by decide +kernel
theorem dX2_relist_19 : decode cX2_relist 19 = .ok (.iload_n 1, 1) := by decide +kernel
theorem dX2_relist_20 : decode cX2_relist 20 = .ok (.invokevirtual 69, 3) := by decide +kernel
theorem dX2_relist_23 : decode cX2_relist 23 = .ok (.ifCond .ne 16, 3) := by decide +kernel
theorem dX2_relist_26 : decode cX2_relist 26 = .ok (.aload_n 0, 1) := by decide +kernel
theorem dX2_relist_27 : decode cX2_relist 27 = .ok (.iload_n 1, 1) := by decide +kernel
theorem dX2_relist_28 : decode cX2_relist 28 = .ok (.invokevirtual 73, 3) := by decide +kernel
theorem dX2_relist_31 : decode cX2_relist 31 = .ok (.ifCond .eq 8, 3) := by decide +kernel
theorem dX2_relist_34 : decode cX2_relist 34 = .ok (.aload_n 0, 1) := by decide +kernel
theorem dX2_relist_35 : decode cX2_relist 35 = .ok (.iload_n 1, 1) := by decide +kernel
theorem dX2_relist_36 : decode cX2_relist 36 = .ok (.invokevirtual 76, 3) := by decide +kernel
theorem dX2_relist_39 : decode cX2_relist 39 = .ok (.iinc 1 1, 3) := by decide +kernel
theorem dX2_relist_42 : decode cX2_relist 42 = .ok (.goto (-32), 3) := by decide +kernel
theorem dX2_relist_45 : decode cX2_relist 45 = .ok (.return_, 1) := by decide +kernel
theorem dX2_lookAtNext_0 : decode cX2_lookAtNext 0 = .ok (.aload_n 0, 1) := by decide +kernel
theorem dX2_lookAtNext_1 : decode cX2_lookAtNext 1 = .ok (.getfield 44, 3) := by decide +kernel
theorem dX2_lookAtNext_4 : decode cX2_lookAtNext 4 = .ok (.iconst 1, 1) := by decide +kernel
theorem dX2_lookAtNext_5 : decode cX2_lookAtNext 5 = .ok (.iadd, 1) := by decide +kernel
theorem dX2_lookAtNext_6 : decode cX2_lookAtNext 6 = .ok (.istore_n 1, 1) := by decide +kernel
theorem dX2_lookAtNext_7 : decode cX2_lookAtNext 7 = .ok (.aload_n 0, 1) := by decide +kernel
theorem dX2_lookAtNext_8 : decode cX2_lookAtNext 8 = .ok (.iload_n 1, 1) := by decide +kernel
theorem dX2_lookAtNext_9 : decode cX2_lookAtNext 9 = .ok (.invokevirtual 80, 3) := by decide +kernel
theorem dX2_lookAtNext_12 : decode cX2_lookAtNext 12 = .ok (.istore_n 2, 1) := by decide +kernel
theorem dX2_lookAtNext_13 : decode cX2_lookAtNext 13 = .ok (.aload_n 0, 1) := by decide +kernel
theorem dX2_lookAtNext_14 : decode cX2_lookAtNext 14 = .ok (.iload_n 2, 1) := by decide +kernel
theorem dX2_lookAtNext_15 : decode cX2_lookAtNext 15 = .ok (.bipush 24, 2) := by decide +kernel
theorem dX2_lookAtNext_17 : decode cX2_lookAtNext 17 = .ok (.invokevirtual 83, 3) := by decide +kernel
theorem dX2_lookAtNext_20 : decode cX2_lookAtNext 20 = .ok (.istore_n 3, 1) := by decide +kernel
theorem dX2_lookAtNext_21 : decode cX2_lookAtNext 21 = .ok (.aload_n 0, 1) := by decide +kernel
theorem dX2_lookAtNext_22 : decode cX2_lookAtNext 22 = .ok (.iload_n 2, 1) := by decide +kernel
theorem dX2_lookAtNext_23 : decode cX2_lookAtNext 23 = .ok (.iload_n 1, 1) := by decide +kernel
theorem dX2_lookAtNext_24 : decode cX2_lookAtNext 24 = .ok (.invokevirtual 87, 3) := by decide +kernel
theorem dX2_lookAtNext_27 : decode cX2_lookAtNext 27 = .ok (.aload_n 0, 1) := by decide +kernel
theorem dX2_lookAtNext_28 : decode cX2_lookAtNext 28 = .ok (.iload_n 2, 1) := by decide +kernel
theorem dX2_lookAtNext_29 : decode cX2_lookAtNext 29 = .ok (.bipush 24, 2) := by decide +kernel
theorem dX2_lookAtNext_31 : decode cX2_lookAtNext 31 = .ok (.invokevirtual 83, 3) := by decide +kernel
theorem dX2_lookAtNext_34 : decode cX2_lookAtNext 34 = .ok (.istore 4, 2) := by decide +kernel
theorem dX2_lookAtNext_36 : decode cX2_lookAtNext 36 = .ok (.aload_n 0, 1) := by decide +kernel
theorem dX2_lookAtNext_37 : decode cX2_lookAtNext 37 = .ok (.iload_n 2, 1) := by decide +kernel
theorem dX2_lookAtNext_38 : decode cX2_lookAtNext 38 = .ok (.invokevirtual 73, 3) := by decide +kernel
theorem dX2_lookAtNext_41 : decode cX2_lookAtNext 41 = .ok (.ifCond .eq 8, 3) := by decide +kernel
theorem dX2_lookAtNext_44 : decode cX2_lookAtNext 44 = .ok (.aload_n 0, 1) := by decide +kernel
theorem dX2_lookAtNext_45 : decode cX2_lookAtNext 45 = .ok (.iload_n 2, 1) := by decide +kernel
theorem dX2_lookAtNext_46 : decode cX2_lookAtNext 46 = .ok (.invokevirtual 76, 3) := by decide +kernel
theorem dX2_lookAtNext_49 : decode cX2_lookAtNext 49 = .ok (.aload_n 0, 1) := by decide +kernel
theorem dX2_lookAtNext_50 : decode cX2_lookAtNext 50 = .ok (.iload_n 2, 1) := by decide +kernel
theorem dX2_lookAtNext_51 : decode cX2_lookAtNext 51 = .ok (.iload 4, 2) := by decide +kernel
theorem dX2_lookAtNext_53 : decode cX2_lookAtNext 53 = .ok (.iconst (-1), 1) := by decide +kernel
theorem dX2_lookAtNext_54 : decode cX2_lookAtNext 54 = .ok (.if_icmp .ne 7, 3) := by decide +kernel
theorem dX2_lookAtNext_57 : decode cX2_lookAtNext 57 = .ok (.iload_n 3, 1) := by decide +kernel
theorem dX2_lookAtNext_58 : decode cX2_lookAtNext 58 = .ok (.goto 5, 3) := by decide +kernel
theorem dX2_lookAtNext_61 : decode cX2_lookAtNext 61 = .ok (.iload 4, 2) := by decide +kernel
theorem dX2_lookAtNext_63 : decode cX2_lookAtNext 63 = .ok (.invokevirtual 91, 3) := by decide +kernel
theorem dX2_lookAtNext_66 : decode cX2_lookAtNext 66 = .ok (.return_, 1) := by decide +kernel
theorem dX2_isOwnKey_0 : decode cX2_isOwnKey 0 = .ok (.aload_n 0, 1) := by decide +kernel
theorem dX2_isOwnKey_1 : decode cX2_isOwnKey 1 = .ok (.getfield 21, 3) := by decide +kernel
theorem dX2_isOwnKey_4 : decode cX2_isOwnKey 4 = .ok (.iconst (-1), 1) := by decide +kernel
theorem dX2_isOwnKey_5 : decode cX2_isOwnKey 5 = .ok (.if_icmp .eq 17, 3) := by decide +kernel
theorem dX2_isOwnKey_8 : decode cX2_isOwnKey 8 = .ok (.aload_n 0, 1) := by decide +kernel
theorem dX2_isOwnKey_9 : decode cX2_isOwnKey 9 = .ok (.iload_n 1, 1) := by decide +kernel
theorem dX2_isOwnKey_10 : decode cX2_isOwnKey 10 = .ok (.bipush 23, 2) := by decide +kernel
theorem dX2_isOwnKey_12 : decode cX2_isOwnKey 12 = .ok (.invokevirtual 83, 3) := by decide +kernel
theorem dX2_isOwnKey_15 : decode cX2_isOwnKey 15 = .ok (.aload_n 0, 1) := by decide +kernel
theorem dX2_isOwnKey_16 : decode cX2_isOwnKey 16 = .ok (.getfield 21, 3) := by decide +kernel
theorem dX2_isOwnKey_19 : decode cX2_isOwnKey 19 = .ok (.if_icmp .ne 7, 3) := by decide +kernel
theorem dX2_isOwnKey_22 : decode cX2_isOwnKey 22 = .ok (.iconst 1, 1) := by decide +kernel
theorem dX2_isOwnKey_23 : decode cX2_isOwnKey 23 = .ok (.goto 4, 3) := by decide +kernel
theorem dX2_isOwnKey_26 : decode cX2_isOwnKey 26 = .ok (.iconst 0, 1) := by decide +kernel
theorem dX2_isOwnKey_27 : decode cX2_isOwnKey 27 = .ok (.ireturn, 1) := by decide +kernel
theorem dX2_enqueue_0 : decode cX2_enqueue 0 = .ok (.iload_n 1, 1) := by decide +kernel
theorem dX2_enqueue_1 : decode cX2_enqueue 1 = .ok (.ifCond .lt 27, 3) := by decide +kernel
theorem dX2_enqueue_4 : decode cX2_enqueue 4 = .ok (.iload_n 1, 1) := by decide +kernel
theorem dX2_enqueue_5 : decode cX2_enqueue 5 = .ok (.bipush 60, 2) := by decide +kernel
theorem dX2_enqueue_7 : decode cX2_enqueue 7 = .ok (.if_icmp .ge 21, 3) := by decide +kernel
theorem dX2_enqueue_10 : decode cX2_enqueue 10 = .ok (.aload_n 0, 1) := by decide +kernel
theorem dX2_enqueue_11 : decode cX2_enqueue 11 = .ok (.getfield 41, 3) := by decide +kernel
theorem dX2_enqueue_14 : decode cX2_enqueue 14 = .ok (.bipush 60, 2) := by decide +kernel
theorem dX2_enqueue_16 : decode cX2_enqueue 16 = .ok (.if_icmp .ge 12, 3) := by decide +kernel
theorem dX2_enqueue_19 : decode cX2_enqueue 19 = .ok (.aload_n 0, 1) := by decide +kernel
theorem dX2_enqueue_20 : decode cX2_enqueue 20 = .ok (.getfield 28, 3) := by decide +kernel
theorem dX2_enqueue_23 : decode cX2_enqueue 23 = .ok (.iload_n 1, 1) := by decide +kernel
theorem dX2_enqueue_24 : decode cX2_enqueue 24 = .ok (.baload, 1) := by decide +kernel
theorem dX2_enqueue_25 : decode cX2_enqueue 25 = .ok (.ifCond .eq 4, 3) := by decide +kernel
theorem dX2_enqueue_28 : decode cX2_enqueue 28 = .ok (.return_, 1) := by decide +kernel
theorem dX2_enqueue_29 : decode cX2_enqueue 29 = .ok (.aload_n 0, 1) := by decide +kernel
theorem dX2_enqueue_30 : decode cX2_enqueue 30 = .ok (.getfield 28, 3) := by decide +kernel
theorem dX2_enqueue_33 : decode cX2_enqueue 33 = .ok (.iload_n 1, 1) := by decide +kernel
theorem dX2_enqueue_34 : decode cX2_enqueue 34 = .ok (.iconst 1, 1) := by decide +kernel
theorem dX2_enqueue_35 : decode cX2_enqueue 35 = .ok (.bastore, 1) := by decide +kernel
theorem dX2_enqueue_36 : decode cX2_enqueue 36 = .ok (.aload_n 0, 1) := by decide +kernel
theorem dX2_enqueue_37 : decode cX2_enqueue 37 = .ok (.getfield 25, 3) := by decide +kernel
theorem dX2_enqueue_40 : decode cX2_enqueue 40 = .ok (.aload_n 0, 1) := by decide +kernel
theorem dX2_enqueue_41 : decode cX2_enqueue 41 = .ok (.getfield 41, 3) := by decide +kernel
theorem dX2_enqueue_44 : decode cX2_enqueue 44 = .ok (.iload_n 1, 1) := by decide +kernel
theorem dX2_enqueue_45 : decode cX2_enqueue 45 = .ok (.iastore, 1) := by decide +kernel
theorem dX2_enqueue_46 : decode cX2_enqueue 46 = .ok (.aload_n 0, 1) := by decide +kernel
theorem dX2_enqueue_47 : decode cX2_enqueue 47 = .ok (.dup, 1) := by decide +kernel
theorem dX2_enqueue_48 : decode cX2_enqueue 48 = .ok (.getfield 41, 3) := by decide +kernel
theorem dX2_enqueue_51 : decode cX2_enqueue 51 = .ok (.iconst 1, 1) := by decide +kernel
theorem dX2_enqueue_52 : decode cX2_enqueue 52 = .ok (.iadd, 1) := by decide +kernel
theorem dX2_enqueue_53 : decode cX2_enqueue 53 = .ok (.putfield 41, 3) := by decide +kernel
theorem dX2_enqueue_56 : decode cX2_enqueue 56 = .ok (.return_, 1) := by decide +kernel
theorem dX2_keyAt_0 : decode cX2_keyAt 0 = .ok (.iload_n 1, 1) := by decide +kernel
theorem dX2_keyAt_1 : decode cX2_keyAt 1 = .ok (.ifCond .lt 20, 3) := by decide +kernel
theorem dX2_keyAt_4 : decode cX2_keyAt 4 = .ok (.iload_n 1, 1) := by decide +kernel
theorem dX2_keyAt_5 : decode cX2_keyAt 5 = .ok (.aload_n 0, 1) := by decide +kernel
theorem dX2_keyAt_6 : decode cX2_keyAt 6 = .ok (.getfield 41, 3) := by decide +kernel
theorem dX2_keyAt_9 : decode cX2_keyAt 9 = .ok (.if_icmp .ge 12, 3) := by decide +kernel
theorem dX2_keyAt_12 : decode cX2_keyAt 12 = .ok (.aload_n 0, 1) := by decide +kernel
theorem dX2_keyAt_13 : decode cX2_keyAt 13 = .ok (.getfield 25, 3) := by decide +kernel
theorem dX2_keyAt_16 : decode cX2_keyAt 16 = .ok (.iload_n 1, 1) := by decide +kernel
theorem dX2_keyAt_17 : decode cX2_keyAt 17 = .ok (.iaload, 1) := by decide +kernel
theorem dX2_keyAt_18 : decode cX2_keyAt 18 = .ok (.goto 4, 3) := by decide +kernel
theorem dX2_keyAt_21 : decode cX2_keyAt 21 = .ok (.iconst (-1), 1) := by decide +kernel
theorem dX2_keyAt_22 : decode cX2_keyAt 22 = .ok (.ireturn, 1) := by decide +kernel
theorem dX2_takeKey_0 : decode cX2_takeKey 0 = .ok (.iconst 0, 1) := by decide +kernel
theorem dX2_takeKey_1 : decode cX2_takeKey 1 = .ok (.istore_n 1, 1) := by decide +kernel
theorem dX2_takeKey_2 : decode cX2_takeKey 2 = .ok (.iload_n 1, 1) := by decide +kernel
theorem dX2_takeKey_3 : decode cX2_takeKey 3 = .ok (.aload_n 0, 1) := by decide +kernel
theorem dX2_takeKey_4 : decode cX2_takeKey 4 = .ok (.getfield 41, 3) := by decide +kernel
theorem dX2_takeKey_7 : decode cX2_takeKey 7 = .ok (.if_icmp .ge 74, 3) := by decide +kernel
theorem dX2_takeKey_10 : decode cX2_takeKey 10 = .ok (.aload_n 0, 1) := by decide +kernel
theorem dX2_takeKey_11 : decode cX2_takeKey 11 = .ok (.getfield 25, 3) := by decide +kernel
theorem dX2_takeKey_14 : decode cX2_takeKey 14 = .ok (.iload_n 1, 1) := by decide +kernel
theorem dX2_takeKey_15 : decode cX2_takeKey 15 = .ok (.iaload, 1) := by decide +kernel
theorem dX2_takeKey_16 : decode cX2_takeKey 16 = .ok (.istore_n 2, 1) := by decide +kernel
theorem dX2_takeKey_17 : decode cX2_takeKey 17 = .ok (.aload_n 0, 1) := by decide +kernel
theorem dX2_takeKey_18 : decode cX2_takeKey 18 = .ok (.getfield 35, 3) := by decide +kernel
theorem dX2_takeKey_21 : decode cX2_takeKey 21 = .ok (.iload_n 2, 1) := by decide +kernel
theorem dX2_takeKey_22 : decode cX2_takeKey 22 = .ok (.iaload, 1) := by decide +kernel
theorem dX2_takeKey_23 : decode cX2_takeKey 23 = .ok (.aload_n 0, 1) := by decide +kernel
theorem dX2_takeKey_24 : decode cX2_takeKey 24 = .ok (.getfield 15, 3) := by decide +kernel
theorem dX2_takeKey_27 : decode cX2_takeKey 27 = .ok (.getfield 94, 3) := by decide +kernel
theorem dX2_takeKey_30 : decode cX2_takeKey 30 = .ok (.if_icmp .gt 45, 3) := by decide +kernel
theorem dX2_takeKey_33 : decode cX2_takeKey 33 = .ok (.aload_n 0, 1) := by decide +kernel
theorem dX2_takeKey_34 : decode cX2_takeKey 34 = .ok (.getfield 25, 3) := by decide +kernel
theorem dX2_takeKey_37 : decode cX2_takeKey 37 = .ok (.iload_n 1, 1) := by decide +kernel
theorem dX2_takeKey_38 : decode cX2_takeKey 38 = .ok (.iconst 1, 1) := by decide +kernel
theorem dX2_takeKey_39 : decode cX2_takeKey 39 = .ok (.iadd, 1) := by decide +kernel
theorem dX2_takeKey_40 : decode cX2_takeKey 40 = .ok (.aload_n 0, 1) := by decide +kernel
theorem dX2_takeKey_41 : decode cX2_takeKey 41 = .ok (.getfield 25, 3) := by decide +kernel
theorem dX2_takeKey_44 : decode cX2_takeKey 44 = .ok (.iload_n 1, 1) := by decide +kernel
theorem dX2_takeKey_45 : decode cX2_takeKey 45 = .ok (.aload_n 0, 1) := by decide +kernel
theorem dX2_takeKey_46 : decode cX2_takeKey 46 = .ok (.getfield 41, 3) := by decide +kernel
theorem dX2_takeKey_49 : decode cX2_takeKey 49 = .ok (.iload_n 1, 1) := by decide +kernel
theorem dX2_takeKey_50 : decode cX2_takeKey 50 = .ok (.isub, 1) := by decide +kernel
theorem dX2_takeKey_51 : decode cX2_takeKey 51 = .ok (.iconst 1, 1) := by decide +kernel
theorem dX2_takeKey_52 : decode cX2_takeKey 52 = .ok (.isub, 1) := by decide +kernel
theorem dX2_takeKey_53 : decode cX2_takeKey 53 = .ok (.invokestatic 97, 3) := by decide +kernel
theorem dX2_takeKey_56 : decode cX2_takeKey 56 = .ok (.aload_n 0, 1) := by decide +kernel
theorem dX2_takeKey_57 : decode cX2_takeKey 57 = .ok (.dup, 1) := by decide +kernel
theorem dX2_takeKey_58 : decode cX2_takeKey 58 = .ok (.getfield 41, 3) := by decide +kernel
theorem dX2_takeKey_61 : decode cX2_takeKey 61 = .ok (.iconst 1, 1) := by decide +kernel
theorem dX2_takeKey_62 : decode cX2_takeKey 62 = .ok (.isub, 1) := by decide +kernel
theorem dX2_takeKey_63 : decode cX2_takeKey 63 = .ok (.putfield 41, 3) := by decide +kernel
theorem dX2_takeKey_66 : decode cX2_takeKey 66 = .ok (.aload_n 0, 1) := by decide +kernel
theorem dX2_takeKey_67 : decode cX2_takeKey 67 = .ok (.getfield 28, 3) := by decide +kernel
theorem dX2_takeKey_70 : decode cX2_takeKey 70 = .ok (.iload_n 2, 1) := by decide +kernel
theorem dX2_takeKey_71 : decode cX2_takeKey 71 = .ok (.iconst 0, 1) := by decide +kernel
theorem dX2_takeKey_72 : decode cX2_takeKey 72 = .ok (.bastore, 1) := by decide +kernel
theorem dX2_takeKey_73 : decode cX2_takeKey 73 = .ok (.iload_n 2, 1) := by decide +kernel
theorem dX2_takeKey_74 : decode cX2_takeKey 74 = .ok (.ireturn, 1) := by decide +kernel
theorem dX2_takeKey_75 : decode cX2_takeKey 75 = .ok (.iinc 1 1, 3) := by decide +kernel
theorem dX2_takeKey_78 : decode cX2_takeKey 78 = .ok (.goto (-76), 3) := by decide +kernel
theorem dX2_takeKey_81 : decode cX2_takeKey 81 = .ok (.iconst (-1), 1) := by decide +kernel
theorem dX2_takeKey_82 : decode cX2_takeKey 82 = .ok (.ireturn, 1) := by decide +kernel
theorem dX2_workOnce_0 : decode cX2_workOnce 0 = .ok (.aload_n 0, 1) := by decide +kernel
theorem dX2_workOnce_1 : decode cX2_workOnce 1 = .ok (.invokevirtual 103, 3) := by decide +kernel
theorem dX2_workOnce_4 : decode cX2_workOnce 4 = .ok (.istore_n 1, 1) := by decide +kernel
theorem dX2_workOnce_5 : decode cX2_workOnce 5 = .ok (.iload_n 1, 1) := by decide +kernel
theorem dX2_workOnce_6 : decode cX2_workOnce 6 = .ok (.iconst (-1), 1) := by decide +kernel
theorem dX2_workOnce_7 : decode cX2_workOnce 7 = .ok (.if_icmp .ne 5, 3) := by decide +kernel
theorem dX2_workOnce_10 : decode cX2_workOnce 10 = .ok (.iconst 0, 1) := by decide +kernel
theorem dX2_workOnce_11 : decode cX2_workOnce 11 = .ok (.ireturn, 1) := by decide +kernel
theorem dX2_workOnce_12 : decode cX2_workOnce 12 = .ok (.aload_n 0, 1) := by decide +kernel
theorem dX2_workOnce_13 : decode cX2_workOnce 13 = .ok (.getfield 15, 3) := by decide +kernel
theorem dX2_workOnce_16 : decode cX2_workOnce 16 = .ok (.getfield 54, 3) := by decide +kernel
theorem dX2_workOnce_19 : decode cX2_workOnce 19 = .ok (.istore_n 2, 1) := by decide +kernel
theorem dX2_workOnce_20 : decode cX2_workOnce 20 = .ok (.aload_n 0, 1) := by decide +kernel
theorem dX2_workOnce_21 : decode cX2_workOnce 21 = .ok (.getfield 38, 3) := by decide +kernel
theorem dX2_workOnce_24 : decode cX2_workOnce 24 = .ok (.iload_n 1, 1) := by decide +kernel
theorem dX2_workOnce_25 : decode cX2_workOnce 25 = .ok (.iaload, 1) := by decide +kernel
theorem dX2_workOnce_26 : decode cX2_workOnce 26 = .ok (.aload_n 0, 1) := by decide +kernel
theorem dX2_workOnce_27 : decode cX2_workOnce 27 = .ok (.getfield 44, 3) := by decide +kernel
theorem dX2_workOnce_30 : decode cX2_workOnce 30 = .ok (.if_icmp .le 7, 3) := by decide +kernel
theorem dX2_workOnce_33 : decode cX2_workOnce 33 = .ok (.iconst 2, 1) := by decide +kernel
theorem dX2_workOnce_34 : decode cX2_workOnce 34 = .ok (.goto 8, 3) := by decide +kernel
theorem dX2_workOnce_37 : decode cX2_workOnce 37 = .ok (.aload_n 0, 1) := by decide +kernel
theorem dX2_workOnce_38 : decode cX2_workOnce 38 = .ok (.iload_n 1, 1) := by decide +kernel
theorem dX2_workOnce_39 : decode cX2_workOnce 39 = .ok (.invokevirtual 107, 3) := by decide +kernel
theorem dX2_workOnce_42 : decode cX2_workOnce 42 = .ok (.istore_n 3, 1) := by decide +kernel
theorem dX2_workOnce_43 : decode cX2_workOnce 43 = .ok (.aload_n 0, 1) := by decide +kernel
theorem dX2_workOnce_44 : decode cX2_workOnce 44 = .ok (.getfield 15, 3) := by decide +kernel
theorem dX2_workOnce_47 : decode cX2_workOnce 47 = .ok (.getfield 54, 3) := by decide +kernel
theorem dX2_workOnce_50 : decode cX2_workOnce 50 = .ok (.iload_n 2, 1) := by decide +kernel
theorem dX2_workOnce_51 : decode cX2_workOnce 51 = .ok (.if_icmp .le 16, 3) := by decide +kernel
theorem dX2_workOnce_54 : decode cX2_workOnce 54 = .ok (.aload_n 0, 1) := by decide +kernel
theorem dX2_workOnce_55 : decode cX2_workOnce 55 = .ok (.getfield 38, 3) := by decide +kernel
theorem dX2_workOnce_58 : decode cX2_workOnce 58 = .ok (.iload_n 1, 1) := by decide +kernel
theorem dX2_workOnce_59 : decode cX2_workOnce 59 = .ok (.aload_n 0, 1) := by decide +kernel
theorem dX2_workOnce_60 : decode cX2_workOnce 60 = .ok (.getfield 15, 3) := by decide +kernel
theorem dX2_workOnce_63 : decode cX2_workOnce 63 = .ok (.getfield 54, 3) := by decide +kernel
theorem dX2_workOnce_66 : decode cX2_workOnce 66 = .ok (.iastore, 1) := by decide +kernel
theorem dX2_workOnce_67 : decode cX2_workOnce 67 = .ok (.iload_n 3, 1) := by decide +kernel
theorem dX2_workOnce_68 : decode cX2_workOnce 68 = .ok (.iconst 1, 1) := by decide +kernel
theorem dX2_workOnce_69 : decode cX2_workOnce 69 = .ok (.if_icmp .ne 12, 3) := by decide +kernel
theorem dX2_workOnce_72 : decode cX2_workOnce 72 = .ok (.aload_n 0, 1) := by decide +kernel
theorem dX2_workOnce_73 : decode cX2_workOnce 73 = .ok (.getfield 32, 3) := by decide +kernel
theorem dX2_workOnce_76 : decode cX2_workOnce 76 = .ok (.iload_n 1, 1) := by decide +kernel
theorem dX2_workOnce_77 : decode cX2_workOnce 77 = .ok (.iconst 0, 1) := by decide +kernel
theorem dX2_workOnce_78 : decode cX2_workOnce 78 = .ok (.iastore, 1) := by decide +kernel
theorem dX2_workOnce_79 : decode cX2_workOnce 79 = .ok (.iconst 1, 1) := by decide +kernel
theorem dX2_workOnce_80 : decode cX2_workOnce 80 = .ok (.ireturn, 1) := by decide +kernel
theorem dX2_workOnce_81 : decode cX2_workOnce 81 = .ok (.iload_n 3, 1) := by decide +kernel
theorem dX2_workOnce_82 : decode cX2_workOnce 82 = .ok (.iconst 3, 1) := by decide +kernel
theorem dX2_workOnce_83 : decode cX2_workOnce 83 = .ok (.if_icmp .ne 8, 3) := by decide +kernel
theorem dX2_workOnce_86 : decode cX2_workOnce 86 = .ok (.aload_n 0, 1) := by decide +kernel
theorem dX2_workOnce_87 : decode cX2_workOnce 87 = .ok (.iload_n 1, 1) := by decide +kernel
theorem dX2_workOnce_88 : decode cX2_workOnce 88 = .ok (.invokevirtual 110, 3) := by decide +kernel
theorem dX2_workOnce_91 : decode cX2_workOnce 91 = .ok (.aload_n 0, 1) := by decide +kernel
theorem dX2_workOnce_92 : decode cX2_workOnce 92 = .ok (.iload_n 1, 1) := by decide +kernel
theorem dX2_workOnce_93 : decode cX2_workOnce 93 = .ok (.invokevirtual 76, 3) := by decide +kernel
theorem dX2_workOnce_96 : decode cX2_workOnce 96 = .ok (.iload_n 3, 1) := by decide +kernel
theorem dX2_workOnce_97 : decode cX2_workOnce 97 = .ok (.ireturn, 1) := by decide +kernel
theorem dX2_noteFailure_0 : decode cX2_noteFailure 0 = .ok (.iconst 1, 1) := by decide +kernel
theorem dX2_noteFailure_1 : decode cX2_noteFailure 1 = .ok (.istore_n 2, 1) := by decide +kernel
theorem dX2_noteFailure_2 : decode cX2_noteFailure 2 = .ok (.iconst 0, 1) := by decide +kernel
theorem dX2_noteFailure_3 : decode cX2_noteFailure 3 = .ok (.istore_n 3, 1) := by decide +kernel
theorem dX2_noteFailure_4 : decode cX2_noteFailure 4 = .ok (.iload_n 3, 1) := by decide +kernel
theorem dX2_noteFailure_5 : decode cX2_noteFailure 5 = .ok (.aload_n 0, 1) := by decide +kernel
theorem dX2_noteFailure_6 : decode cX2_noteFailure 6 = .ok (.getfield 32, 3) := by decide +kernel
theorem dX2_noteFailure_9 : decode cX2_noteFailure 9 = .ok (.iload_n 1, 1) := by decide +kernel
theorem dX2_noteFailure_10 : decode cX2_noteFailure 10 = .ok (.iaload, 1) := by decide +kernel
theorem dX2_noteFailure_11 : decode cX2_noteFailure 11 = .ok (.if_icmp .ge 19, 3) := by decide +kernel
theorem dX2_noteFailure_14 : decode cX2_noteFailure 14 = .ok (.iload_n 2, 1) := by decide +kernel
theorem dX2_noteFailure_15 : decode cX2_noteFailure 15 = .ok (.bipush 16, 2) := by decide +kernel
theorem dX2_noteFailure_17 : decode cX2_noteFailure 17 = .ok (.if_icmp .ge 13, 3) := by decide +kernel
theorem dX2_noteFailure_20 : decode cX2_noteFailure 20 = .ok (.iload_n 2, 1) := by decide +kernel
theorem dX2_noteFailure_21 : decode cX2_noteFailure 21 = .ok (.iconst 2, 1) := by decide +kernel
theorem dX2_noteFailure_22 : decode cX2_noteFailure 22 = .ok (.imul, 1) := by decide +kernel
theorem dX2_noteFailure_23 : decode cX2_noteFailure 23 = .ok (.istore_n 2, 1) := by decide +kernel
theorem dX2_noteFailure_24 : decode cX2_noteFailure 24 = .ok (.iinc 3 1, 3) := by decide +kernel
theorem dX2_noteFailure_27 : decode cX2_noteFailure 27 = .ok (.goto (-23), 3) := by decide +kernel
theorem dX2_noteFailure_30 : decode cX2_noteFailure 30 = .ok (.aload_n 0, 1) := by decide +kernel
theorem dX2_noteFailure_31 : decode cX2_noteFailure 31 = .ok (.getfield 32, 3) := by decide +kernel
theorem dX2_noteFailure_34 : decode cX2_noteFailure 34 = .ok (.iload_n 1, 1) := by decide +kernel
theorem dX2_noteFailure_35 : decode cX2_noteFailure 35 = .ok (.dup2, 1) := by decide +kernel
theorem dX2_noteFailure_36 : decode cX2_noteFailure 36 = .ok (.iaload, 1) := by decide +kernel
theorem dX2_noteFailure_37 : decode cX2_noteFailure 37 = .ok (.iconst 1, 1) := by decide +kernel
theorem dX2_noteFailure_38 : decode cX2_noteFailure 38 = .ok (.iadd, 1) := by decide +kernel
theorem dX2_noteFailure_39 : decode cX2_noteFailure 39 = .ok (.iastore, 1) := by decide +kernel
theorem dX2_noteFailure_40 : decode cX2_noteFailure 40 = .ok (.aload_n 0, 1) := by decide +kernel
theorem dX2_noteFailure_41 : decode cX2_noteFailure 41 = .ok (.getfield 35, 3) := by decide +kernel
theorem dX2_noteFailure_44 : decode cX2_noteFailure 44 = .ok (.iload_n 1, 1) := by decide +kernel
theorem dX2_noteFailure_45 : decode cX2_noteFailure 45 = .ok (.aload_n 0, 1) := by decide +kernel
theorem dX2_noteFailure_46 : decode cX2_noteFailure 46 = .ok (.getfield 15, 3) := by decide +kernel
theorem dX2_noteFailure_49 : decode cX2_noteFailure 49 = .ok (.getfield 94, 3) := by decide +kernel
theorem dX2_noteFailure_52 : decode cX2_noteFailure 52 = .ok (.iload_n 2, 1) := by decide +kernel
theorem dX2_noteFailure_53 : decode cX2_noteFailure 53 = .ok (.iadd, 1) := by decide +kernel
theorem dX2_noteFailure_54 : decode cX2_noteFailure 54 = .ok (.iastore, 1) := by decide +kernel
theorem dX2_noteFailure_55 : decode cX2_noteFailure 55 = .ok (.return_, 1) := by decide +kernel
theorem dX2_isUpToDate_0 : decode cX2_isUpToDate 0 = .ok (.aload_n 0, 1) := by decide +kernel
theorem dX2_isUpToDate_1 : decode cX2_isUpToDate 1 = .ok (.iload_n 1, 1) := by decide +kernel
theorem dX2_isUpToDate_2 : decode cX2_isUpToDate 2 = .ok (.invokevirtual 113, 3) := by decide +kernel
theorem dX2_isUpToDate_5 : decode cX2_isUpToDate 5 = .ok (.aload_n 0, 1) := by decide +kernel
theorem dX2_isUpToDate_6 : decode cX2_isUpToDate 6 = .ok (.getfield 15, 3) := by decide +kernel
theorem dX2_isUpToDate_9 : decode cX2_isUpToDate 9 = .ok (.iload_n 1, 1) := by decide +kernel
theorem dX2_isUpToDate_10 : decode cX2_isUpToDate 10 = .ok (.invokevirtual 116, 3) := by decide +kernel
theorem dX2_isUpToDate_13 : decode cX2_isUpToDate 13 = .ok (.if_icmp .ne 7, 3) := by decide +kernel
theorem dX2_isUpToDate_16 : decode cX2_isUpToDate 16 = .ok (.iconst 1, 1) := by decide +kernel
theorem dX2_isUpToDate_17 : decode cX2_isUpToDate 17 = .ok (.goto 4, 3) := by decide +kernel
theorem dX2_isUpToDate_20 : decode cX2_isUpToDate 20 = .ok (.iconst 0, 1) := by decide +kernel
theorem dX2_isUpToDate_21 : decode cX2_isUpToDate 21 = .ok (.ireturn, 1) := by decide +kernel
theorem dX2_outcomeOf_0 : decode cX2_outcomeOf 0 = .ok (.iload_n 0, 1) := by decide +kernel
theorem dX2_outcomeOf_1 : decode cX2_outcomeOf 1 = .ok (.ifCond .eq 7, 3) := by decide +kernel
theorem dX2_outcomeOf_4 : decode cX2_outcomeOf 4 = .ok (.iconst 1, 1) := by decide +kernel
theorem dX2_outcomeOf_5 : decode cX2_outcomeOf 5 = .ok (.goto 4, 3) := by decide +kernel
theorem dX2_outcomeOf_8 : decode cX2_outcomeOf 8 = .ok (.iconst 3, 1) := by decide +kernel
theorem dX2_outcomeOf_9 : decode cX2_outcomeOf 9 = .ok (.ireturn, 1) := by decide +kernel
theorem dX2_want_0 : decode cX2_want 0 = .ok (.aload_n 0, 1) := by decide +kernel
theorem dX2_want_1 : decode cX2_want 1 = .ok (.iload_n 1, 1) := by decide +kernel
theorem dX2_want_2 : decode cX2_want 2 = .ok (.iconst 0, 1) := by decide +kernel
theorem dX2_want_3 : decode cX2_want 3 = .ok (.invokevirtual 83, 3) := by decide +kernel
theorem dX2_want_6 : decode cX2_want 6 = .ok (.iload_n 2, 1) := by decide +kernel
theorem dX2_want_7 : decode cX2_want 7 = .ok (.if_icmp .ne 5, 3) := by decide +kernel
theorem dX2_want_10 : decode cX2_want 10 = .ok (.iconst 1, 1) := by decide +kernel
theorem dX2_want_11 : decode cX2_want 11 = .ok (.ireturn, 1) := by decide +kernel
theorem dX2_want_12 : decode cX2_want 12 = .ok (.aload_n 0, 1) := by decide +kernel
theorem dX2_want_13 : decode cX2_want 13 = .ok (.iload_n 1, 1) := by decide +kernel
theorem dX2_want_14 : decode cX2_want 14 = .ok (.invokevirtual 117, 3) := by decide +kernel
theorem dX2_want_17 : decode cX2_want 17 = .ok (.ifCond .eq 21, 3) := by decide +kernel
theorem dX2_want_20 : decode cX2_want 20 = .ok (.aload_n 0, 1) := by decide +kernel
theorem dX2_want_21 : decode cX2_want 21 = .ok (.getfield 15, 3) := by decide +kernel
theorem dX2_want_24 : decode cX2_want 24 = .ok (.iconst 4, 1) := by decide +kernel
theorem dX2_want_25 : decode cX2_want 25 = .ok (.iload_n 1, 1) := by decide +kernel
theorem dX2_want_26 : decode cX2_want 26 = .ok (.iconst 0, 1) := by decide +kernel
theorem dX2_want_27 : decode cX2_want 27 = .ok (.iload_n 2, 1) := by decide +kernel
theorem dX2_want_28 : decode cX2_want 28 = .ok (.invokevirtual 120, 3) := by decide +kernel
theorem dX2_want_31 : decode cX2_want 31 = .ok (.ifCond .eq 7, 3) := by decide +kernel
theorem dX2_want_34 : decode cX2_want 34 = .ok (.iconst 1, 1) := by decide +kernel
theorem dX2_want_35 : decode cX2_want 35 = .ok (.goto 4, 3) := by decide +kernel
theorem dX2_want_38 : decode cX2_want 38 = .ok (.iconst 0, 1) := by decide +kernel
theorem dX2_want_39 : decode cX2_want 39 = .ok (.ireturn, 1) := by decide +kernel
theorem dX2_set_0 : decode cX2_set 0 = .ok (.aload_n 0, 1) := by decide +kernel
theorem dX2_set_1 : decode cX2_set 1 = .ok (.iload_n 1, 1) := by decide +kernel
theorem dX2_set_2 : decode cX2_set 2 = .ok (.invokevirtual 117, 3) := by decide +kernel
theorem dX2_set_5 : decode cX2_set 5 = .ok (.ifCond .eq 20, 3) := by decide +kernel
theorem dX2_set_8 : decode cX2_set 8 = .ok (.aload_n 0, 1) := by decide +kernel
theorem dX2_set_9 : decode cX2_set 9 = .ok (.getfield 15, 3) := by decide +kernel
theorem dX2_set_12 : decode cX2_set 12 = .ok (.iload_n 1, 1) := by decide +kernel
theorem dX2_set_13 : decode cX2_set 13 = .ok (.iload_n 2, 1) := by decide +kernel
theorem dX2_set_14 : decode cX2_set 14 = .ok (.iload_n 3, 1) := by decide +kernel
theorem dX2_set_15 : decode cX2_set 15 = .ok (.invokevirtual 124, 3) := by decide +kernel
theorem dX2_set_18 : decode cX2_set 18 = .ok (.ifCond .eq 7, 3) := by decide +kernel
theorem dX2_set_21 : decode cX2_set 21 = .ok (.iconst 1, 1) := by decide +kernel
theorem dX2_set_22 : decode cX2_set 22 = .ok (.goto 4, 3) := by decide +kernel
theorem dX2_set_25 : decode cX2_set 25 = .ok (.iconst 0, 1) := by decide +kernel
theorem dX2_set_26 : decode cX2_set 26 = .ok (.ireturn, 1) := by decide +kernel
theorem dX2_remove_0 : decode cX2_remove 0 = .ok (.aload_n 0, 1) := by decide +kernel
theorem dX2_remove_1 : decode cX2_remove 1 = .ok (.iload_n 1, 1) := by decide +kernel
theorem dX2_remove_2 : decode cX2_remove 2 = .ok (.invokevirtual 117, 3) := by decide +kernel
theorem dX2_remove_5 : decode cX2_remove 5 = .ok (.ifCond .eq 19, 3) := by decide +kernel
theorem dX2_remove_8 : decode cX2_remove 8 = .ok (.aload_n 0, 1) := by decide +kernel
theorem dX2_remove_9 : decode cX2_remove 9 = .ok (.getfield 15, 3) := by decide +kernel
theorem dX2_remove_12 : decode cX2_remove 12 = .ok (.iload_n 1, 1) := by decide +kernel
theorem dX2_remove_13 : decode cX2_remove 13 = .ok (.iconst 2, 1) := by decide +kernel
theorem dX2_remove_14 : decode cX2_remove 14 = .ok (.invokevirtual 128, 3) := by decide +kernel
theorem dX2_remove_17 : decode cX2_remove 17 = .ok (.ifCond .eq 7, 3) := by decide +kernel
theorem dX2_remove_20 : decode cX2_remove 20 = .ok (.iconst 1, 1) := by decide +kernel
theorem dX2_remove_21 : decode cX2_remove 21 = .ok (.goto 4, 3) := by decide +kernel
theorem dX2_remove_24 : decode cX2_remove 24 = .ok (.iconst 0, 1) := by decide +kernel
theorem dX2_remove_25 : decode cX2_remove 25 = .ok (.ireturn, 1) := by decide +kernel
theorem dX2_makeFor_0 : decode cX2_makeFor 0 = .ok (.aload_n 0, 1) := by decide +kernel
theorem dX2_makeFor_1 : decode cX2_makeFor 1 = .ok (.getfield 15, 3) := by decide +kernel
theorem dX2_makeFor_4 : decode cX2_makeFor 4 = .ok (.iconst 4, 1) := by decide +kernel
theorem dX2_makeFor_5 : decode cX2_makeFor 5 = .ok (.iload_n 2, 1) := by decide +kernel
theorem dX2_makeFor_6 : decode cX2_makeFor 6 = .ok (.iload_n 1, 1) := by decide +kernel
theorem dX2_makeFor_7 : decode cX2_makeFor 7 = .ok (.aload_n 0, 1) := by decide +kernel
theorem dX2_makeFor_8 : decode cX2_makeFor 8 = .ok (.iload_n 1, 1) := by decide +kernel
theorem dX2_makeFor_9 : decode cX2_makeFor 9 = .ok (.iconst 1, 1) := by decide +kernel
theorem dX2_makeFor_10 : decode cX2_makeFor 10 = .ok (.invokevirtual 83, 3) := by decide +kernel
theorem dX2_makeFor_13 : decode cX2_makeFor 13 = .ok (.invokevirtual 132, 3) := by decide +kernel
theorem dX2_makeFor_16 : decode cX2_makeFor 16 = .ok (.iconst (-1), 1) := by decide +kernel
theorem dX2_makeFor_17 : decode cX2_makeFor 17 = .ok (.if_icmp .eq 7, 3) := by decide +kernel
theorem dX2_makeFor_20 : decode cX2_makeFor 20 = .ok (.iconst 1, 1) := by decide +kernel
theorem dX2_makeFor_21 : decode cX2_makeFor 21 = .ok (.goto 4, 3) := by decide +kernel
theorem dX2_makeFor_24 : decode cX2_makeFor 24 = .ok (.iconst 0, 1) := by decide +kernel
theorem dX2_makeFor_25 : decode cX2_makeFor 25 = .ok (.ireturn, 1) := by decide +kernel
theorem dX3_queueOthers_0 : decode cX3_queueOthers 0 = .ok (.aload_n 0, 1) := by decide +kernel
theorem dX3_queueOthers_1 : decode cX3_queueOthers 1 = .ok (.iload_n 1, 1) := by decide +kernel
theorem dX3_queueOthers_2 : decode cX3_queueOthers 2 = .ok (.bipush 23, 2) := by decide +kernel
theorem dX3_queueOthers_4 : decode cX3_queueOthers 4 = .ok (.invokevirtual 9, 3) := by decide +kernel
theorem dX3_queueOthers_7 : decode cX3_queueOthers 7 = .ok (.iconst 1, 1) := by decide +kernel
theorem dX3_queueOthers_8 : decode cX3_queueOthers 8 = .ok (.if_icmp .ne 8, 3) := by decide +kernel
theorem dX3_queueOthers_11 : decode cX3_queueOthers 11 = .ok (.aload_n 0, 1) := by decide +kernel
theorem dX3_queueOthers_12 : decode cX3_queueOthers 12 = .ok (.iload_n 2, 1) := by decide +kernel
theorem dX3_queueOthers_13 : decode cX3_queueOthers 13 = .ok (.invokevirtual 15, 3) := by decide +kernel
theorem dX3_queueOthers_16 : decode cX3_queueOthers 16 = .ok (.aload_n 0, 1) := by decide +kernel
theorem dX3_queueOthers_17 : decode cX3_queueOthers 17 = .ok (.iload_n 1, 1) := by decide +kernel
theorem dX3_queueOthers_18 : decode cX3_queueOthers 18 = .ok (.bipush 23, 2) := by decide +kernel
theorem dX3_queueOthers_20 : decode cX3_queueOthers 20 = .ok (.invokevirtual 9, 3) := by decide +kernel
theorem dX3_queueOthers_23 : decode cX3_queueOthers 23 = .ok (.iconst 2, 1) := by decide +kernel
theorem dX3_queueOthers_24 : decode cX3_queueOthers 24 = .ok (.if_icmp .ne 25, 3) := by decide +kernel
theorem dX3_queueOthers_27 : decode cX3_queueOthers 27 = .ok (.aload_n 0, 1) := by decide +kernel
theorem dX3_queueOthers_28 : decode cX3_queueOthers 28 = .ok (.iload_n 2, 1) := by decide +kernel
theorem dX3_queueOthers_29 : decode cX3_queueOthers 29 = .ok (.bipush 23, 2) := by decide +kernel
theorem dX3_queueOthers_31 : decode cX3_queueOthers 31 = .ok (.invokevirtual 9, 3) := by decide +kernel
theorem dX3_queueOthers_34 : decode cX3_queueOthers 34 = .ok (.iconst 1, 1) := by decide +kernel
theorem dX3_queueOthers_35 : decode cX3_queueOthers 35 = .ok (.if_icmp .ne 14, 3) := by decide +kernel
theorem dX3_queueOthers_38 : decode cX3_queueOthers 38 = .ok (.aload_n 0, 1) := by decide +kernel
theorem dX3_queueOthers_39 : decode cX3_queueOthers 39 = .ok (.aload_n 0, 1) := by decide +kernel
theorem dX3_queueOthers_40 : decode cX3_queueOthers 40 = .ok (.iload_n 2, 1) := by decide +kernel
theorem dX3_queueOthers_41 : decode cX3_queueOthers 41 = .ok (.bipush 24, 2) := by decide +kernel
theorem dX3_queueOthers_43 : decode cX3_queueOthers 43 = .ok (.invokevirtual 9, 3) := by decide +kernel
theorem dX3_queueOthers_46 : decode cX3_queueOthers 46 = .ok (.invokevirtual 15, 3) := by decide +kernel
theorem dX3_queueOthers_49 : decode cX3_queueOthers 49 = .ok (.return_, 1) := by decide +kernel
theorem dX3_serve_0 : decode cX3_serve 0 = .ok (.aload_n 0, 1) := by decide +kernel
theorem dX3_serve_1 : decode cX3_serve 1 = .ok (.iload_n 1, 1) := by decide +kernel
theorem dX3_serve_2 : decode cX3_serve 2 = .ok (.iconst 0, 1) := by decide +kernel
theorem dX3_serve_3 : decode cX3_serve 3 = .ok (.invokevirtual 19, 3) := by decide +kernel
theorem dX3_serve_6 : decode cX3_serve 6 = .ok (.ifCond .eq 13, 3) := by decide +kernel
theorem dX3_serve_9 : decode cX3_serve 9 = .ok (.aload_n 0, 1) := by decide +kernel
theorem dX3_serve_10 : decode cX3_serve 10 = .ok (.iload_n 1, 1) := by decide +kernel
theorem dX3_serve_11 : decode cX3_serve 11 = .ok (.iconst 4, 1) := by decide +kernel
theorem dX3_serve_12 : decode cX3_serve 12 = .ok (.invokevirtual 9, 3) := by decide +kernel
theorem dX3_serve_15 : decode cX3_serve 15 = .ok (.iconst 1, 1) := by decide +kernel
theorem dX3_serve_16 : decode cX3_serve 16 = .ok (.if_icmp .ne 5, 3) := by decide +kernel
theorem dX3_serve_19 : decode cX3_serve 19 = .ok (.iconst 1, 1) := by decide +kernel
theorem dX3_serve_20 : decode cX3_serve 20 = .ok (.ireturn, 1) := by decide +kernel
theorem dX3_serve_21 : decode cX3_serve 21 = .ok (.aload_n 0, 1) := by decide +kernel
theorem dX3_serve_22 : decode cX3_serve 22 = .ok (.iload_n 1, 1) := by decide +kernel
theorem dX3_serve_23 : decode cX3_serve 23 = .ok (.invokevirtual 23, 3) := by decide +kernel
theorem dX3_serve_26 : decode cX3_serve 26 = .ok (.istore_n 2, 1) := by decide +kernel
theorem dX3_serve_27 : decode cX3_serve 27 = .ok (.iload_n 2, 1) := by decide +kernel
theorem dX3_serve_28 : decode cX3_serve 28 = .ok (.iconst (-1), 1) := by decide +kernel
theorem dX3_serve_29 : decode cX3_serve 29 = .ok (.if_icmp .ne 13, 3) := by decide +kernel
theorem dX3_serve_32 : decode cX3_serve 32 = .ok (.aload_n 0, 1) := by decide +kernel
theorem dX3_serve_33 : decode cX3_serve 33 = .ok (.iload_n 1, 1) := by decide +kernel
theorem dX3_serve_34 : decode cX3_serve 34 = .ok (.iconst 1, 1) := by decide +kernel
theorem dX3_serve_35 : decode cX3_serve 35 = .ok (.invokevirtual 27, 3) := by decide +kernel
theorem dX3_serve_38 : decode cX3_serve 38 = .ok (.invokestatic 30, 3) := by decide +kernel
theorem dX3_serve_41 : decode cX3_serve 41 = .ok (.ireturn, 1) := by decide +kernel
theorem dX3_serve_42 : decode cX3_serve 42 = .ok (.aload_n 0, 1) := by decide +kernel
theorem dX3_serve_43 : decode cX3_serve 43 = .ok (.iload_n 1, 1) := by decide +kernel
theorem dX3_serve_44 : decode cX3_serve 44 = .ok (.iconst 0, 1) := by decide +kernel
theorem dX3_serve_45 : decode cX3_serve 45 = .ok (.invokevirtual 9, 3) := by decide +kernel
theorem dX3_serve_48 : decode cX3_serve 48 = .ok (.istore_n 3, 1) := by decide +kernel
theorem dX3_serve_49 : decode cX3_serve 49 = .ok (.aload_n 0, 1) := by decide +kernel
theorem dX3_serve_50 : decode cX3_serve 50 = .ok (.iload_n 2, 1) := by decide +kernel
theorem dX3_serve_51 : decode cX3_serve 51 = .ok (.iconst 0, 1) := by decide +kernel
theorem dX3_serve_52 : decode cX3_serve 52 = .ok (.invokevirtual 9, 3) := by decide +kernel
theorem dX3_serve_55 : decode cX3_serve 55 = .ok (.istore 4, 2) := by decide +kernel
theorem dX3_serve_57 : decode cX3_serve 57 = .ok (.iload 4, 2) := by decide +kernel
theorem dX3_serve_59 : decode cX3_serve 59 = .ok (.iload_n 3, 1) := by decide +kernel
theorem dX3_serve_60 : decode cX3_serve 60 = .ok (.if_icmp .le 13, 3) := by decide +kernel
theorem dX3_serve_63 : decode cX3_serve 63 = .ok (.aload_n 0, 1) := by decide +kernel
theorem dX3_serve_64 : decode cX3_serve 64 = .ok (.iload_n 2, 1) := by decide +kernel
theorem dX3_serve_65 : decode cX3_serve 65 = .ok (.iload_n 3, 1) := by decide +kernel
theorem dX3_serve_66 : decode cX3_serve 66 = .ok (.invokevirtual 34, 3) := by decide +kernel
theorem dX3_serve_69 : decode cX3_serve 69 = .ok (.invokestatic 30, 3) := by decide +kernel
theorem dX3_serve_72 : decode cX3_serve 72 = .ok (.ireturn, 1) := by decide +kernel
theorem dX3_serve_73 : decode cX3_serve 73 = .ok (.iload_n 3, 1) := by decide +kernel
theorem dX3_serve_74 : decode cX3_serve 74 = .ok (.aload_n 0, 1) := by decide +kernel
theorem dX3_serve_75 : decode cX3_serve 75 = .ok (.iload_n 1, 1) := by decide +kernel
theorem dX3_serve_76 : decode cX3_serve 76 = .ok (.iconst 2, 1) := by decide +kernel
theorem dX3_serve_77 : decode cX3_serve 77 = .ok (.invokevirtual 9, 3) := by decide +kernel
theorem dX3_serve_80 : decode cX3_serve 80 = .ok (.iadd, 1) := by decide +kernel
theorem dX3_serve_81 : decode cX3_serve 81 = .ok (.aload_n 0, 1) := by decide +kernel
theorem dX3_serve_82 : decode cX3_serve 82 = .ok (.iload_n 1, 1) := by decide +kernel
theorem dX3_serve_83 : decode cX3_serve 83 = .ok (.invokevirtual 37, 3) := by decide +kernel
theorem dX3_serve_86 : decode cX3_serve 86 = .ok (.isub, 1) := by decide +kernel
theorem dX3_serve_87 : decode cX3_serve 87 = .ok (.istore 5, 2) := by decide +kernel
theorem dX3_serve_89 : decode cX3_serve 89 = .ok (.iload 4, 2) := by decide +kernel
theorem dX3_serve_91 : decode cX3_serve 91 = .ok (.iload_n 3, 1) := by decide +kernel
theorem dX3_serve_92 : decode cX3_serve 92 = .ok (.if_icmp .ge 26, 3) := by decide +kernel
theorem dX3_serve_95 : decode cX3_serve 95 = .ok (.iload 5, 2) := by decide +kernel
theorem dX3_serve_97 : decode cX3_serve 97 = .ok (.ifCond .le 21, 3) := by decide +kernel
theorem dX3_serve_100 : decode cX3_serve 100 = .ok (.aload_n 0, 1) := by decide +kernel
theorem dX3_serve_101 : decode cX3_serve 101 = .ok (.iload_n 2, 1) := by decide +kernel
theorem dX3_serve_102 : decode cX3_serve 102 = .ok (.iload_n 3, 1) := by decide +kernel
theorem dX3_serve_103 : decode cX3_serve 103 = .ok (.iload 4, 2) := by decide +kernel
theorem dX3_serve_105 : decode cX3_serve 105 = .ok (.iload 5, 2) := by decide +kernel
theorem dX3_serve_107 : decode cX3_serve 107 = .ok (.iadd, 1) := by decide +kernel
theorem dX3_serve_108 : decode cX3_serve 108 = .ok (.invokestatic 40, 3) := by decide +kernel
theorem dX3_serve_111 : decode cX3_serve 111 = .ok (.invokevirtual 34, 3) := by decide +kernel
theorem dX3_serve_114 : decode cX3_serve 114 = .ok (.invokestatic 30, 3) := by decide +kernel
theorem dX3_serve_117 : decode cX3_serve 117 = .ok (.ireturn, 1) := by decide +kernel
theorem dX3_serve_118 : decode cX3_serve 118 = .ok (.aload_n 0, 1) := by decide +kernel
theorem dX3_serve_119 : decode cX3_serve 119 = .ok (.iload_n 1, 1) := by decide +kernel
theorem dX3_serve_120 : decode cX3_serve 120 = .ok (.iload_n 2, 1) := by decide +kernel
theorem dX3_serve_121 : decode cX3_serve 121 = .ok (.invokevirtual 45, 3) := by decide +kernel
theorem dX3_serve_124 : decode cX3_serve 124 = .ok (.istore 6, 2) := by decide +kernel
theorem dX3_serve_126 : decode cX3_serve 126 = .ok (.iload 6, 2) := by decide +kernel
theorem dX3_serve_128 : decode cX3_serve 128 = .ok (.iconst (-1), 1) := by decide +kernel
theorem dX3_serve_129 : decode cX3_serve 129 = .ok (.if_icmp .ne 7, 3) := by decide +kernel
theorem dX3_serve_132 : decode cX3_serve 132 = .ok (.iconst 1, 1) := by decide +kernel
theorem dX3_serve_133 : decode cX3_serve 133 = .ok (.goto 19, 3) := by decide +kernel
theorem dX3_serve_136 : decode cX3_serve 136 = .ok (.aload_n 0, 1) := by decide +kernel
theorem dX3_serve_137 : decode cX3_serve 137 = .ok (.iload 6, 2) := by decide +kernel
theorem dX3_serve_139 : decode cX3_serve 139 = .ok (.aload_n 0, 1) := by decide +kernel
theorem dX3_serve_140 : decode cX3_serve 140 = .ok (.iload_n 1, 1) := by decide +kernel
theorem dX3_serve_141 : decode cX3_serve 141 = .ok (.iload 6, 2) := by decide +kernel
theorem dX3_serve_143 : decode cX3_serve 143 = .ok (.invokevirtual 48, 3) := by decide +kernel
theorem dX3_serve_146 : decode cX3_serve 146 = .ok (.invokevirtual 34, 3) := by decide +kernel
theorem dX3_serve_149 : decode cX3_serve 149 = .ok (.invokestatic 30, 3) := by decide +kernel
theorem dX3_serve_152 : decode cX3_serve 152 = .ok (.ireturn, 1) := by decide +kernel
theorem dX3_wantedTogether_0 : decode cX3_wantedTogether 0 = .ok (.iconst 0, 1) := by decide +kernel
theorem dX3_wantedTogether_1 : decode cX3_wantedTogether 1 = .ok (.istore_n 2, 1) := by decide +kernel
theorem dX3_wantedTogether_2 : decode cX3_wantedTogether 2 = .ok (.iconst 0, 1) := by decide +kernel
theorem dX3_wantedTogether_3 : decode cX3_wantedTogether 3 = .ok (.istore_n 3, 1) := by decide +kernel
theorem dX3_wantedTogether_4 : decode cX3_wantedTogether 4 = .ok (.iload_n 3, 1) := by decide +kernel
theorem dX3_wantedTogether_5 : decode cX3_wantedTogether 5 = .ok (.aload_n 0, 1) := by decide +kernel
theorem dX3_wantedTogether_6 : decode cX3_wantedTogether 6 = .ok (.getfield 51, 3) := by decide +kernel
theorem dX3_wantedTogether_9 : decode cX3_wantedTogether 9 = .ok (.if_icmp .ge 32, 3) := by decide +kernel
theorem dX3_wantedTogether_12 : decode cX3_wantedTogether 12 = .ok (.iload_n 2, 1) := by decide +kernel
theorem dX3_wantedTogether_13 : decode cX3_wantedTogether 13 = .ok (.aload_n 0, 1) := by decide +kernel
theorem dX3_wantedTogether_14 : decode cX3_wantedTogether 14 = .ok (.iload_n 3, 1) := by decide +kernel
theorem dX3_wantedTogether_15 : decode cX3_wantedTogether 15 = .ok (.iconst 1, 1) := by decide +kernel
theorem dX3_wantedTogether_16 : decode cX3_wantedTogether 16 = .ok (.iload_n 1, 1) := by decide +kernel
theorem dX3_wantedTogether_17 : decode cX3_wantedTogether 17 = .ok (.invokevirtual 55, 3) := by decide +kernel
theorem dX3_wantedTogether_20 : decode cX3_wantedTogether 20 = .ok (.ifCond .eq 12, 3) := by decide +kernel
theorem dX3_wantedTogether_23 : decode cX3_wantedTogether 23 = .ok (.aload_n 0, 1) := by decide +kernel
theorem dX3_wantedTogether_24 : decode cX3_wantedTogether 24 = .ok (.iload_n 3, 1) := by decide +kernel
theorem dX3_wantedTogether_25 : decode cX3_wantedTogether 25 = .ok (.iconst 0, 1) := by decide +kernel
theorem dX3_wantedTogether_26 : decode cX3_wantedTogether 26 = .ok (.invokevirtual 9, 3) := by decide +kernel
theorem dX3_wantedTogether_29 : decode cX3_wantedTogether 29 = .ok (.goto 4, 3) := by decide +kernel
theorem dX3_wantedTogether_32 : decode cX3_wantedTogether 32 = .ok (.iconst 0, 1) := by decide +kernel
theorem dX3_wantedTogether_33 : decode cX3_wantedTogether 33 = .ok (.iadd, 1) := by decide +kernel
theorem dX3_wantedTogether_34 : decode cX3_wantedTogether 34 = .ok (.istore_n 2, 1) := by decide +kernel
theorem dX3_wantedTogether_35 : decode cX3_wantedTogether 35 = .ok (.iinc 3 1, 3) := by decide +kernel
theorem dX3_wantedTogether_38 : decode cX3_wantedTogether 38 = .ok (.goto (-34), 3) := by decide +kernel
theorem dX3_wantedTogether_41 : decode cX3_wantedTogether 41 = .ok (.iload_n 2, 1) := by decide +kernel
theorem dX3_wantedTogether_42 : decode cX3_wantedTogether 42 = .ok (.ireturn, 1) := by decide +kernel
theorem dX3_otherSetOf_0 : decode cX3_otherSetOf 0 = .ok (.iconst 0, 1) := by decide +kernel
theorem dX3_otherSetOf_1 : decode cX3_otherSetOf 1 = .ok (.istore_n 3, 1) := by decide +kernel
theorem dX3_otherSetOf_2 : decode cX3_otherSetOf 2 = .ok (.iload_n 3, 1) := by decide +kernel
theorem dX3_otherSetOf_3 : decode cX3_otherSetOf 3 = .ok (.aload_n 0, 1) := by decide +kernel
theorem dX3_otherSetOf_4 : decode cX3_otherSetOf 4 = .ok (.getfield 51, 3) := by decide +kernel
theorem dX3_otherSetOf_7 : decode cX3_otherSetOf 7 = .ok (.if_icmp .ge 35, 3) := by decide +kernel
theorem dX3_otherSetOf_10 : decode cX3_otherSetOf 10 = .ok (.iload_n 3, 1) := by decide +kernel
theorem dX3_otherSetOf_11 : decode cX3_otherSetOf 11 = .ok (.iload_n 2, 1) := by decide +kernel
theorem dX3_otherSetOf_12 : decode cX3_otherSetOf 12 = .ok (.if_icmp .eq 24, 3) := by decide +kernel
theorem dX3_otherSetOf_15 : decode cX3_otherSetOf 15 = .ok (.aload_n 0, 1) := by decide +kernel
theorem dX3_otherSetOf_16 : decode cX3_otherSetOf 16 = .ok (.iload_n 3, 1) := by decide +kernel
theorem dX3_otherSetOf_17 : decode cX3_otherSetOf 17 = .ok (.iconst 1, 1) := by decide +kernel
theorem dX3_otherSetOf_18 : decode cX3_otherSetOf 18 = .ok (.iload_n 1, 1) := by decide +kernel
theorem dX3_otherSetOf_19 : decode cX3_otherSetOf 19 = .ok (.invokevirtual 55, 3) := by decide +kernel
theorem dX3_otherSetOf_22 : decode cX3_otherSetOf 22 = .ok (.ifCond .eq 14, 3) := by decide +kernel
theorem dX3_otherSetOf_25 : decode cX3_otherSetOf 25 = .ok (.aload_n 0, 1) := by decide +kernel
theorem dX3_otherSetOf_26 : decode cX3_otherSetOf 26 = .ok (.iload_n 3, 1) := by decide +kernel
theorem dX3_otherSetOf_27 : decode cX3_otherSetOf 27 = .ok (.iconst 0, 1) := by decide +kernel
theorem dX3_otherSetOf_28 : decode cX3_otherSetOf 28 = .ok (.invokevirtual 9, 3) := by decide +kernel
theorem dX3_otherSetOf_31 : decode cX3_otherSetOf 31 = .ok (.ifCond .le 5, 3) := by decide +kernel
theorem dX3_otherSetOf_34 : decode cX3_otherSetOf 34 = .ok (.iload_n 3, 1) := by decide +kernel
theorem dX3_otherSetOf_35 : decode cX3_otherSetOf 35 = .ok (.ireturn, 1) := by decide +kernel
theorem dX3_otherSetOf_36 : decode cX3_otherSetOf 36 = .ok (.iinc 3 1, 3) := by decide +kernel
theorem dX3_otherSetOf_39 : decode cX3_otherSetOf 39 = .ok (.goto (-37), 3) := by decide +kernel
theorem dX3_otherSetOf_42 : decode cX3_otherSetOf 42 = .ok (.iconst (-1), 1) := by decide +kernel
theorem dX3_otherSetOf_43 : decode cX3_otherSetOf 43 = .ok (.ireturn, 1) := by decide +kernel
theorem dX3_lessWanted_0 : decode cX3_lessWanted 0 = .ok (.aload_n 0, 1) := by decide +kernel
theorem dX3_lessWanted_1 : decode cX3_lessWanted 1 = .ok (.iload_n 2, 1) := by decide +kernel
theorem dX3_lessWanted_2 : decode cX3_lessWanted 2 = .ok (.iconst 0, 1) := by decide +kernel
theorem dX3_lessWanted_3 : decode cX3_lessWanted 3 = .ok (.invokevirtual 9, 3) := by decide +kernel
theorem dX3_lessWanted_6 : decode cX3_lessWanted 6 = .ok (.istore_n 3, 1) := by decide +kernel
theorem dX3_lessWanted_7 : decode cX3_lessWanted 7 = .ok (.aload_n 0, 1) := by decide +kernel
theorem dX3_lessWanted_8 : decode cX3_lessWanted 8 = .ok (.iload_n 2, 1) := by decide +kernel
theorem dX3_lessWanted_9 : decode cX3_lessWanted 9 = .ok (.invokevirtual 59, 3) := by decide +kernel
theorem dX3_lessWanted_12 : decode cX3_lessWanted 12 = .ok (.istore 4, 2) := by decide +kernel
theorem dX3_lessWanted_14 : decode cX3_lessWanted 14 = .ok (.iload_n 3, 1) := by decide +kernel
theorem dX3_lessWanted_15 : decode cX3_lessWanted 15 = .ok (.iload 4, 2) := by decide +kernel
theorem dX3_lessWanted_17 : decode cX3_lessWanted 17 = .ok (.if_icmp .le 6, 3) := by decide +kernel
theorem dX3_lessWanted_20 : decode cX3_lessWanted 20 = .ok (.iload 4, 2) := by decide +kernel
theorem dX3_lessWanted_22 : decode cX3_lessWanted 22 = .ok (.ireturn, 1) := by decide +kernel
theorem dX3_lessWanted_23 : decode cX3_lessWanted 23 = .ok (.aload_n 0, 1) := by decide +kernel
theorem dX3_lessWanted_24 : decode cX3_lessWanted 24 = .ok (.iload_n 1, 1) := by decide +kernel
theorem dX3_lessWanted_25 : decode cX3_lessWanted 25 = .ok (.invokevirtual 62, 3) := by decide +kernel
theorem dX3_lessWanted_28 : decode cX3_lessWanted 28 = .ok (.aload_n 0, 1) := by decide +kernel
theorem dX3_lessWanted_29 : decode cX3_lessWanted 29 = .ok (.iload_n 1, 1) := by decide +kernel
theorem dX3_lessWanted_30 : decode cX3_lessWanted 30 = .ok (.iconst 0, 1) := by decide +kernel
theorem dX3_lessWanted_31 : decode cX3_lessWanted 31 = .ok (.invokevirtual 9, 3) := by decide +kernel
theorem dX3_lessWanted_34 : decode cX3_lessWanted 34 = .ok (.aload_n 0, 1) := by decide +kernel
theorem dX3_lessWanted_35 : decode cX3_lessWanted 35 = .ok (.iload_n 1, 1) := by decide +kernel
theorem dX3_lessWanted_36 : decode cX3_lessWanted 36 = .ok (.iconst 3, 1) := by decide +kernel
theorem dX3_lessWanted_37 : decode cX3_lessWanted 37 = .ok (.invokevirtual 9, 3) := by decide +kernel
theorem dX3_lessWanted_40 : decode cX3_lessWanted 40 = .ok (.isub, 1) := by decide +kernel
theorem dX3_lessWanted_41 : decode cX3_lessWanted 41 = .ok (.isub, 1) := by decide +kernel
theorem dX3_lessWanted_42 : decode cX3_lessWanted 42 = .ok (.istore 5, 2) := by decide +kernel
theorem dX3_lessWanted_44 : decode cX3_lessWanted 44 = .ok (.iload 5, 2) := by decide +kernel
theorem dX3_lessWanted_46 : decode cX3_lessWanted 46 = .ok (.ifCond .le 14, 3) := by decide +kernel
theorem dX3_lessWanted_49 : decode cX3_lessWanted 49 = .ok (.iload_n 3, 1) := by decide +kernel
theorem dX3_lessWanted_50 : decode cX3_lessWanted 50 = .ok (.iload 5, 2) := by decide +kernel
theorem dX3_lessWanted_52 : decode cX3_lessWanted 52 = .ok (.iload_n 3, 1) := by decide +kernel
theorem dX3_lessWanted_53 : decode cX3_lessWanted 53 = .ok (.invokestatic 40, 3) := by decide +kernel
theorem dX3_lessWanted_56 : decode cX3_lessWanted 56 = .ok (.isub, 1) := by decide +kernel
theorem dX3_lessWanted_57 : decode cX3_lessWanted 57 = .ok (.goto 4, 3) := by decide +kernel
theorem dX3_lessWanted_60 : decode cX3_lessWanted 60 = .ok (.iload_n 3, 1) := by decide +kernel
theorem dX3_lessWanted_61 : decode cX3_lessWanted 61 = .ok (.ireturn, 1) := by decide +kernel
theorem dX4_queueOthers_0 : decode cX4_queueOthers 0 = .ok (.aload_n 0, 1) := by decide +kernel
theorem dX4_queueOthers_1 : decode cX4_queueOthers 1 = .ok (.iload_n 1, 1) := by decide +kernel
theorem dX4_queueOthers_2 : decode cX4_queueOthers 2 = .ok (.bipush 23, 2) := by decide +kernel
theorem dX4_queueOthers_4 : decode cX4_queueOthers 4 = .ok (.invokevirtual 9, 3) := by decide +kernel
theorem dX4_queueOthers_7 : decode cX4_queueOthers 7 = .ok (.iconst 2, 1) := by decide +kernel
theorem dX4_queueOthers_8 : decode cX4_queueOthers 8 = .ok (.if_icmp .ne 22, 3) := by decide +kernel
theorem dX4_queueOthers_11 : decode cX4_queueOthers 11 = .ok (.aload_n 0, 1) := by decide +kernel
theorem dX4_queueOthers_12 : decode cX4_queueOthers 12 = .ok (.iload_n 2, 1) := by decide +kernel
theorem dX4_queueOthers_13 : decode cX4_queueOthers 13 = .ok (.bipush 23, 2) := by decide +kernel
theorem dX4_queueOthers_15 : decode cX4_queueOthers 15 = .ok (.invokevirtual 9, 3) := by decide +kernel
theorem dX4_queueOthers_18 : decode cX4_queueOthers 18 = .ok (.aload_n 0, 1) := by decide +kernel
theorem dX4_queueOthers_19 : decode cX4_queueOthers 19 = .ok (.getfield 15, 3) := by decide +kernel
theorem dX4_queueOthers_22 : decode cX4_queueOthers 22 = .ok (.if_icmp .ne 8, 3) := by decide +kernel
theorem dX4_queueOthers_25 : decode cX4_queueOthers 25 = .ok (.aload_n 0, 1) := by decide +kernel
theorem dX4_queueOthers_26 : decode cX4_queueOthers 26 = .ok (.iload_n 2, 1) := by decide +kernel
theorem dX4_queueOthers_27 : decode cX4_queueOthers 27 = .ok (.invokevirtual 19, 3) := by decide +kernel
theorem dX4_queueOthers_30 : decode cX4_queueOthers 30 = .ok (.return_, 1) := by decide +kernel
theorem dX4_serve_0 : decode cX4_serve 0 = .ok (.aload_n 0, 1) := by decide +kernel
theorem dX4_serve_1 : decode cX4_serve 1 = .ok (.iload_n 1, 1) := by decide +kernel
theorem dX4_serve_2 : decode cX4_serve 2 = .ok (.aload_n 0, 1) := by decide +kernel
theorem dX4_serve_3 : decode cX4_serve 3 = .ok (.getfield 15, 3) := by decide +kernel
theorem dX4_serve_6 : decode cX4_serve 6 = .ok (.invokevirtual 23, 3) := by decide +kernel
theorem dX4_serve_9 : decode cX4_serve 9 = .ok (.ifCond .ne 5, 3) := by decide +kernel
theorem dX4_serve_12 : decode cX4_serve 12 = .ok (.iconst 1, 1) := by decide +kernel
theorem dX4_serve_13 : decode cX4_serve 13 = .ok (.ireturn, 1) := by decide +kernel
theorem dX4_serve_14 : decode cX4_serve 14 = .ok (.aload_n 0, 1) := by decide +kernel
theorem dX4_serve_15 : decode cX4_serve 15 = .ok (.getfield 15, 3) := by decide +kernel
theorem dX4_serve_18 : decode cX4_serve 18 = .ok (.iconst 1, 1) := by decide +kernel
theorem dX4_serve_19 : decode cX4_serve 19 = .ok (.if_icmp .ne 11, 3) := by decide +kernel
theorem dX4_serve_22 : decode cX4_serve 22 = .ok (.aload_n 0, 1) := by decide +kernel
theorem dX4_serve_23 : decode cX4_serve 23 = .ok (.iload_n 1, 1) := by decide +kernel
theorem dX4_serve_24 : decode cX4_serve 24 = .ok (.invokevirtual 27, 3) := by decide +kernel
theorem dX4_serve_27 : decode cX4_serve 27 = .ok (.goto 8, 3) := by decide +kernel
theorem dX4_serve_30 : decode cX4_serve 30 = .ok (.aload_n 0, 1) := by decide +kernel
theorem dX4_serve_31 : decode cX4_serve 31 = .ok (.iload_n 1, 1) := by decide +kernel
theorem dX4_serve_32 : decode cX4_serve 32 = .ok (.invokevirtual 31, 3) := by decide +kernel
theorem dX4_serve_35 : decode cX4_serve 35 = .ok (.ireturn, 1) := by decide +kernel
theorem dX4_serveSet_0 : decode cX4_serveSet 0 = .ok (.iconst 0, 1) := by decide +kernel
theorem dX4_serveSet_1 : decode cX4_serveSet 1 = .ok (.istore_n 2, 1) := by decide +kernel
theorem dX4_serveSet_2 : decode cX4_serveSet 2 = .ok (.iconst 0, 1) := by decide +kernel
theorem dX4_serveSet_3 : decode cX4_serveSet 3 = .ok (.istore_n 3, 1) := by decide +kernel
theorem dX4_serveSet_4 : decode cX4_serveSet 4 = .ok (.iload_n 3, 1) := by decide +kernel
theorem dX4_serveSet_5 : decode cX4_serveSet 5 = .ok (.aload_n 0, 1) := by decide +kernel
theorem dX4_serveSet_6 : decode cX4_serveSet 6 = .ok (.getfield 34, 3) := by decide +kernel
theorem dX4_serveSet_9 : decode cX4_serveSet 9 = .ok (.if_icmp .ge 53, 3) := by decide +kernel
theorem dX4_serveSet_12 : decode cX4_serveSet 12 = .ok (.aload_n 0, 1) := by decide +kernel
theorem dX4_serveSet_13 : decode cX4_serveSet 13 = .ok (.iload_n 3, 1) := by decide +kernel
theorem dX4_serveSet_14 : decode cX4_serveSet 14 = .ok (.iconst 2, 1) := by decide +kernel
theorem dX4_serveSet_15 : decode cX4_serveSet 15 = .ok (.iload_n 1, 1) := by decide +kernel
theorem dX4_serveSet_16 : decode cX4_serveSet 16 = .ok (.invokevirtual 37, 3) := by decide +kernel
theorem dX4_serveSet_19 : decode cX4_serveSet 19 = .ok (.ifCond .eq 37, 3) := by decide +kernel
theorem dX4_serveSet_22 : decode cX4_serveSet 22 = .ok (.iinc 2 1, 3) := by decide +kernel
theorem dX4_serveSet_25 : decode cX4_serveSet 25 = .ok (.aload_n 0, 1) := by decide +kernel
theorem dX4_serveSet_26 : decode cX4_serveSet 26 = .ok (.iload_n 3, 1) := by decide +kernel
theorem dX4_serveSet_27 : decode cX4_serveSet 27 = .ok (.bipush 29, 2) := by decide +kernel
theorem dX4_serveSet_29 : decode cX4_serveSet 29 = .ok (.invokevirtual 9, 3) := by decide +kernel
theorem dX4_serveSet_32 : decode cX4_serveSet 32 = .ok (.iconst 2, 1) := by decide +kernel
theorem dX4_serveSet_33 : decode cX4_serveSet 33 = .ok (.if_icmp .eq 14, 3) := by decide +kernel
theorem dX4_serveSet_36 : decode cX4_serveSet 36 = .ok (.aload_n 0, 1) := by decide +kernel
theorem dX4_serveSet_37 : decode cX4_serveSet 37 = .ok (.iload_n 3, 1) := by decide +kernel
theorem dX4_serveSet_38 : decode cX4_serveSet 38 = .ok (.bipush 29, 2) := by decide +kernel
theorem dX4_serveSet_40 : decode cX4_serveSet 40 = .ok (.invokevirtual 9, 3) := by decide +kernel
theorem dX4_serveSet_43 : decode cX4_serveSet 43 = .ok (.iconst 3, 1) := by decide +kernel
theorem dX4_serveSet_44 : decode cX4_serveSet 44 = .ok (.if_icmp .ne 12, 3) := by decide +kernel
theorem dX4_serveSet_47 : decode cX4_serveSet 47 = .ok (.aload_n 0, 1) := by decide +kernel
theorem dX4_serveSet_48 : decode cX4_serveSet 48 = .ok (.iload_n 3, 1) := by decide +kernel
theorem dX4_serveSet_49 : decode cX4_serveSet 49 = .ok (.invokevirtual 41, 3) := by decide +kernel
theorem dX4_serveSet_52 : decode cX4_serveSet 52 = .ok (.invokestatic 45, 3) := by decide +kernel
theorem dX4_serveSet_55 : decode cX4_serveSet 55 = .ok (.ireturn, 1) := by decide +kernel
theorem dX4_serveSet_56 : decode cX4_serveSet 56 = .ok (.iinc 3 1, 3) := by decide +kernel
theorem dX4_serveSet_59 : decode cX4_serveSet 59 = .ok (.goto (-55), 3) := by decide +kernel
theorem dX4_serveSet_62 : decode cX4_serveSet 62 = .ok (.iload_n 2, 1) := by decide +kernel
theorem dX4_serveSet_63 : decode cX4_serveSet 63 = .ok (.aload_n 0, 1) := by decide +kernel
theorem dX4_serveSet_64 : decode cX4_serveSet 64 = .ok (.iload_n 1, 1) := by decide +kernel
theorem dX4_serveSet_65 : decode cX4_serveSet 65 = .ok (.iconst 0, 1) := by decide +kernel
theorem dX4_serveSet_66 : decode cX4_serveSet 66 = .ok (.invokevirtual 9, 3) := by decide +kernel
theorem dX4_serveSet_69 : decode cX4_serveSet 69 = .ok (.if_icmp .ge 13, 3) := by decide +kernel
theorem dX4_serveSet_72 : decode cX4_serveSet 72 = .ok (.aload_n 0, 1) := by decide +kernel
theorem dX4_serveSet_73 : decode cX4_serveSet 73 = .ok (.iload_n 1, 1) := by decide +kernel
theorem dX4_serveSet_74 : decode cX4_serveSet 74 = .ok (.iconst 2, 1) := by decide +kernel
theorem dX4_serveSet_75 : decode cX4_serveSet 75 = .ok (.invokevirtual 49, 3) := by decide +kernel
theorem dX4_serveSet_78 : decode cX4_serveSet 78 = .ok (.invokestatic 45, 3) := by decide +kernel
theorem dX4_serveSet_81 : decode cX4_serveSet 81 = .ok (.ireturn, 1) := by decide +kernel
theorem dX4_serveSet_82 : decode cX4_serveSet 82 = .ok (.iload_n 2, 1) := by decide +kernel
theorem dX4_serveSet_83 : decode cX4_serveSet 83 = .ok (.aload_n 0, 1) := by decide +kernel
theorem dX4_serveSet_84 : decode cX4_serveSet 84 = .ok (.iload_n 1, 1) := by decide +kernel
theorem dX4_serveSet_85 : decode cX4_serveSet 85 = .ok (.iconst 0, 1) := by decide +kernel
theorem dX4_serveSet_86 : decode cX4_serveSet 86 = .ok (.invokevirtual 9, 3) := by decide +kernel
theorem dX4_serveSet_89 : decode cX4_serveSet 89 = .ok (.if_icmp .le 18, 3) := by decide +kernel
theorem dX4_serveSet_92 : decode cX4_serveSet 92 = .ok (.aload_n 0, 1) := by decide +kernel
theorem dX4_serveSet_93 : decode cX4_serveSet 93 = .ok (.aload_n 0, 1) := by decide +kernel
theorem dX4_serveSet_94 : decode cX4_serveSet 94 = .ok (.iload_n 1, 1) := by decide +kernel
theorem dX4_serveSet_95 : decode cX4_serveSet 95 = .ok (.invokevirtual 52, 3) := by decide +kernel
theorem dX4_serveSet_98 : decode cX4_serveSet 98 = .ok (.invokevirtual 41, 3) := by decide +kernel
theorem dX4_serveSet_101 : decode cX4_serveSet 101 = .ok (.invokestatic 45, 3) := by decide +kernel
theorem dX4_serveSet_104 : decode cX4_serveSet 104 = .ok (.goto 4, 3) := by decide +kernel
theorem dX4_serveSet_107 : decode cX4_serveSet 107 = .ok (.iconst 1, 1) := by decide +kernel
theorem dX4_serveSet_108 : decode cX4_serveSet 108 = .ok (.ireturn, 1) := by decide +kernel
theorem dX4_podTooMany_0 : decode cX4_podTooMany 0 = .ok (.iconst (-1), 1) := by decide +kernel
theorem dX4_podTooMany_1 : decode cX4_podTooMany 1 = .ok (.istore_n 2, 1) := by decide +kernel
theorem dX4_podTooMany_2 : decode cX4_podTooMany 2 = .ok (.iconst (-1), 1) := by decide +kernel
theorem dX4_podTooMany_3 : decode cX4_podTooMany 3 = .ok (.istore_n 3, 1) := by decide +kernel
theorem dX4_podTooMany_4 : decode cX4_podTooMany 4 = .ok (.iconst 0, 1) := by decide +kernel
theorem dX4_podTooMany_5 : decode cX4_podTooMany 5 = .ok (.istore 4, 2) := by decide +kernel
theorem dX4_podTooMany_7 : decode cX4_podTooMany 7 = .ok (.iload 4, 2) := by decide +kernel
theorem dX4_podTooMany_9 : decode cX4_podTooMany 9 = .ok (.aload_n 0, 1) := by decide +kernel
theorem dX4_podTooMany_10 : decode cX4_podTooMany 10 = .ok (.getfield 34, 3) := by decide +kernel
theorem dX4_podTooMany_13 : decode cX4_podTooMany 13 = .ok (.if_icmp .ge 66, 3) := by decide +kernel
theorem dX4_podTooMany_16 : decode cX4_podTooMany 16 = .ok (.aload_n 0, 1) := by decide +kernel
theorem dX4_podTooMany_17 : decode cX4_podTooMany 17 = .ok (.iload 4, 2) := by decide +kernel
theorem dX4_podTooMany_19 : decode cX4_podTooMany 19 = .ok (.iconst 2, 1) := by decide +kernel
theorem dX4_podTooMany_20 : decode cX4_podTooMany 20 = .ok (.iload_n 1, 1) := by decide +kernel
theorem dX4_podTooMany_21 : decode cX4_podTooMany 21 = .ok (.invokevirtual 37, 3) := by decide +kernel
theorem dX4_podTooMany_24 : decode cX4_podTooMany 24 = .ok (.ifCond .eq 49, 3) := by decide +kernel
theorem dX4_podTooMany_27 : decode cX4_podTooMany 27 = .ok (.aload_n 0, 1) := by decide +kernel
theorem dX4_podTooMany_28 : decode cX4_podTooMany 28 = .ok (.iload 4, 2) := by decide +kernel
theorem dX4_podTooMany_30 : decode cX4_podTooMany 30 = .ok (.bipush 28, 2) := by decide +kernel
theorem dX4_podTooMany_32 : decode cX4_podTooMany 32 = .ok (.invokevirtual 9, 3) := by decide +kernel
theorem dX4_podTooMany_35 : decode cX4_podTooMany 35 = .ok (.iconst (-1), 1) := by decide +kernel
theorem dX4_podTooMany_36 : decode cX4_podTooMany 36 = .ok (.if_icmp .ne 7, 3) := by decide +kernel
theorem dX4_podTooMany_39 : decode cX4_podTooMany 39 = .ok (.iconst 2, 1) := by decide +kernel
theorem dX4_podTooMany_40 : decode cX4_podTooMany 40 = .ok (.goto 19, 3) := by decide +kernel
theorem dX4_podTooMany_43 : decode cX4_podTooMany 43 = .ok (.aload_n 0, 1) := by decide +kernel
theorem dX4_podTooMany_44 : decode cX4_podTooMany 44 = .ok (.iload 4, 2) := by decide +kernel
theorem dX4_podTooMany_46 : decode cX4_podTooMany 46 = .ok (.bipush 29, 2) := by decide +kernel
theorem dX4_podTooMany_48 : decode cX4_podTooMany 48 = .ok (.invokevirtual 9, 3) := by decide +kernel
theorem dX4_podTooMany_51 : decode cX4_podTooMany 51 = .ok (.ifCond .ne 7, 3) := by decide +kernel
theorem dX4_podTooMany_54 : decode cX4_podTooMany 54 = .ok (.iconst 1, 1) := by decide +kernel
theorem dX4_podTooMany_55 : decode cX4_podTooMany 55 = .ok (.goto 4, 3) := by decide +kernel
theorem dX4_podTooMany_58 : decode cX4_podTooMany 58 = .ok (.iconst 0, 1) := by decide +kernel
theorem dX4_podTooMany_59 : decode cX4_podTooMany 59 = .ok (.istore 5, 2) := by decide +kernel
theorem dX4_podTooMany_61 : decode cX4_podTooMany 61 = .ok (.iload 5, 2) := by decide +kernel
theorem dX4_podTooMany_63 : decode cX4_podTooMany 63 = .ok (.iload_n 3, 1) := by decide +kernel
theorem dX4_podTooMany_64 : decode cX4_podTooMany 64 = .ok (.if_icmp .lt 9, 3) := by decide +kernel
theorem dX4_podTooMany_67 : decode cX4_podTooMany 67 = .ok (.iload 4, 2) := by decide +kernel
theorem dX4_podTooMany_69 : decode cX4_podTooMany 69 = .ok (.istore_n 2, 1) := by decide +kernel
theorem dX4_podTooMany_70 : decode cX4_podTooMany 70 = .ok (.iload 5, 2) := by decide +kernel
theorem dX4_podTooMany_72 : decode cX4_podTooMany 72 = .ok (.istore_n 3, 1) := by decide +kernel
theorem dX4_podTooMany_73 : decode cX4_podTooMany 73 = .ok (.iinc 4 1, 3) := by decide +kernel
theorem dX4_podTooMany_76 : decode cX4_podTooMany 76 = .ok (.goto (-69), 3) := by decide +kernel
theorem dX4_podTooMany_79 : decode cX4_podTooMany 79 = .ok (.iload_n 2, 1) := by decide +kernel
theorem dX4_podTooMany_80 : decode cX4_podTooMany 80 = .ok (.ireturn, 1) := by decide +kernel
theorem dX4_serveJob_0 : decode cX4_serveJob 0 = .ok (.iconst 0, 1) := by decide +kernel
theorem dX4_serveJob_1 : decode cX4_serveJob 1 = .ok (.istore_n 2, 1) := by decide +kernel
theorem dX4_serveJob_2 : decode cX4_serveJob 2 = .ok (.iconst 0, 1) := by decide +kernel
theorem dX4_serveJob_3 : decode cX4_serveJob 3 = .ok (.istore_n 3, 1) := by decide +kernel
theorem dX4_serveJob_4 : decode cX4_serveJob 4 = .ok (.iconst 0, 1) := by decide +kernel
theorem dX4_serveJob_5 : decode cX4_serveJob 5 = .ok (.istore 4, 2) := by decide +kernel
theorem dX4_serveJob_7 : decode cX4_serveJob 7 = .ok (.iload 4, 2) := by decide +kernel
theorem dX4_serveJob_9 : decode cX4_serveJob 9 = .ok (.aload_n 0, 1) := by decide +kernel
theorem dX4_serveJob_10 : decode cX4_serveJob 10 = .ok (.getfield 34, 3) := by decide +kernel
theorem dX4_serveJob_13 : decode cX4_serveJob 13 = .ok (.if_icmp .ge 63, 3) := by decide +kernel
theorem dX4_serveJob_16 : decode cX4_serveJob 16 = .ok (.aload_n 0, 1) := by decide +kernel
theorem dX4_serveJob_17 : decode cX4_serveJob 17 = .ok (.iload 4, 2) := by decide +kernel
theorem dX4_serveJob_19 : decode cX4_serveJob 19 = .ok (.iconst 2, 1) := by decide +kernel
theorem dX4_serveJob_20 : decode cX4_serveJob 20 = .ok (.iload_n 1, 1) := by decide +kernel
theorem dX4_serveJob_21 : decode cX4_serveJob 21 = .ok (.invokevirtual 37, 3) := by decide +kernel
theorem dX4_serveJob_24 : decode cX4_serveJob 24 = .ok (.ifCond .eq 46, 3) := by decide +kernel
theorem dX4_serveJob_27 : decode cX4_serveJob 27 = .ok (.aload_n 0, 1) := by decide +kernel
theorem dX4_serveJob_28 : decode cX4_serveJob 28 = .ok (.iload 4, 2) := by decide +kernel
theorem dX4_serveJob_30 : decode cX4_serveJob 30 = .ok (.bipush 29, 2) := by decide +kernel
theorem dX4_serveJob_32 : decode cX4_serveJob 32 = .ok (.invokevirtual 9, 3) := by decide +kernel
theorem dX4_serveJob_35 : decode cX4_serveJob 35 = .ok (.istore 5, 2) := by decide +kernel
theorem dX4_serveJob_37 : decode cX4_serveJob 37 = .ok (.iload_n 2, 1) := by decide +kernel
theorem dX4_serveJob_38 : decode cX4_serveJob 38 = .ok (.iload 5, 2) := by decide +kernel
theorem dX4_serveJob_40 : decode cX4_serveJob 40 = .ok (.iconst 2, 1) := by decide +kernel
theorem dX4_serveJob_41 : decode cX4_serveJob 41 = .ok (.if_icmp .ne 7, 3) := by decide +kernel
theorem dX4_serveJob_44 : decode cX4_serveJob 44 = .ok (.iconst 1, 1) := by decide +kernel
theorem dX4_serveJob_45 : decode cX4_serveJob 45 = .ok (.goto 4, 3) := by decide +kernel
theorem dX4_serveJob_48 : decode cX4_serveJob 48 = .ok (.iconst 0, 1) := by decide +kernel
theorem dX4_serveJob_49 : decode cX4_serveJob 49 = .ok (.iadd, 1) := by decide +kernel
theorem dX4_serveJob_50 : decode cX4_serveJob 50 = .ok (.istore_n 2, 1) := by decide +kernel
theorem dX4_serveJob_51 : decode cX4_serveJob 51 = .ok (.iload_n 3, 1) := by decide +kernel
theorem dX4_serveJob_52 : decode cX4_serveJob 52 = .ok (.iload 5, 2) := by decide +kernel
theorem dX4_serveJob_54 : decode cX4_serveJob 54 = .ok (.ifCond .eq 9, 3) := by decide +kernel
theorem dX4_serveJob_57 : decode cX4_serveJob 57 = .ok (.iload 5, 2) := by decide +kernel
theorem dX4_serveJob_59 : decode cX4_serveJob 59 = .ok (.iconst 1, 1) := by decide +kernel
theorem dX4_serveJob_60 : decode cX4_serveJob 60 = .ok (.if_icmp .ne 7, 3) := by decide +kernel
theorem dX4_serveJob_63 : decode cX4_serveJob 63 = .ok (.iconst 1, 1) := by decide +kernel
theorem dX4_serveJob_64 : decode cX4_serveJob 64 = .ok (.goto 4, 3) := by decide +kernel
theorem dX4_serveJob_67 : decode cX4_serveJob 67 = .ok (.iconst 0, 1) := by decide +kernel
theorem dX4_serveJob_68 : decode cX4_serveJob 68 = .ok (.iadd, 1) := by decide +kernel
theorem dX4_serveJob_69 : decode cX4_serveJob 69 = .ok (.istore_n 3, 1) := by decide +kernel
theorem dX4_serveJob_70 : decode cX4_serveJob 70 = .ok (.iinc 4 1, 3) := by decide +kernel
theorem dX4_serveJob_73 : decode cX4_serveJob 73 = .ok (.goto (-66), 3) := by decide +kernel
theorem dX4_serveJob_76 : decode cX4_serveJob 76 = .ok (.iload_n 2, 1) := by decide +kernel
theorem dX4_serveJob_77 : decode cX4_serveJob 77 = .ok (.iload_n 3, 1) := by decide +kernel
theorem dX4_serveJob_78 : decode cX4_serveJob 78 = .ok (.iadd, 1) := by decide +kernel
theorem dX4_serveJob_79 : decode cX4_serveJob 79 = .ok (.aload_n 0, 1) := by decide +kernel
theorem dX4_serveJob_80 : decode cX4_serveJob 80 = .ok (.iload_n 1, 1) := by decide +kernel
theorem dX4_serveJob_81 : decode cX4_serveJob 81 = .ok (.iconst 0, 1) := by decide +kernel
theorem dX4_serveJob_82 : decode cX4_serveJob 82 = .ok (.invokevirtual 9, 3) := by decide +kernel
theorem dX4_serveJob_85 : decode cX4_serveJob 85 = .ok (.if_icmp .ge 18, 3) := by decide +kernel
theorem dX4_serveJob_88 : decode cX4_serveJob 88 = .ok (.iload_n 3, 1) := by decide +kernel
theorem dX4_serveJob_89 : decode cX4_serveJob 89 = .ok (.aload_n 0, 1) := by decide +kernel
theorem dX4_serveJob_90 : decode cX4_serveJob 90 = .ok (.iload_n 1, 1) := by decide +kernel
theorem dX4_serveJob_91 : decode cX4_serveJob 91 = .ok (.bipush 10, 2) := by decide +kernel
theorem dX4_serveJob_93 : decode cX4_serveJob 93 = .ok (.invokevirtual 9, 3) := by decide +kernel
theorem dX4_serveJob_96 : decode cX4_serveJob 96 = .ok (.if_icmp .ge 7, 3) := by decide +kernel
theorem dX4_serveJob_99 : decode cX4_serveJob 99 = .ok (.iconst 1, 1) := by decide +kernel
theorem dX4_serveJob_100 : decode cX4_serveJob 100 = .ok (.goto 4, 3) := by decide +kernel
theorem dX4_serveJob_103 : decode cX4_serveJob 103 = .ok (.iconst 0, 1) := by decide +kernel
theorem dX4_serveJob_104 : decode cX4_serveJob 104 = .ok (.istore 4, 2) := by decide +kernel
theorem dX4_serveJob_106 : decode cX4_serveJob 106 = .ok (.iload 4, 2) := by decide +kernel
theorem dX4_serveJob_108 : decode cX4_serveJob 108 = .ok (.ifCond .eq 15, 3) := by decide +kernel
theorem dX4_serveJob_111 : decode cX4_serveJob 111 = .ok (.aload_n 0, 1) := by decide +kernel
theorem dX4_serveJob_112 : decode cX4_serveJob 112 = .ok (.iload_n 1, 1) := by decide +kernel
theorem dX4_serveJob_113 : decode cX4_serveJob 113 = .ok (.iconst 2, 1) := by decide +kernel
theorem dX4_serveJob_114 : decode cX4_serveJob 114 = .ok (.invokevirtual 49, 3) := by decide +kernel
theorem dX4_serveJob_117 : decode cX4_serveJob 117 = .ok (.invokestatic 45, 3) := by decide +kernel
theorem dX4_serveJob_120 : decode cX4_serveJob 120 = .ok (.goto 4, 3) := by decide +kernel
theorem dX4_serveJob_123 : decode cX4_serveJob 123 = .ok (.iconst 1, 1) := by decide +kernel
theorem dX4_serveJob_124 : decode cX4_serveJob 124 = .ok (.ireturn, 1) := by decide +kernel
theorem dX5_queueOthers_0 : decode cX5_queueOthers 0 = .ok (.iconst 0, 1) := by decide +kernel
theorem dX5_queueOthers_1 : decode cX5_queueOthers 1 = .ok (.istore_n 3, 1) := by decide +kernel
theorem dX5_queueOthers_2 : decode cX5_queueOthers 2 = .ok (.iload_n 3, 1) := by decide +kernel
theorem dX5_queueOthers_3 : decode cX5_queueOthers 3 = .ok (.aload_n 0, 1) := by decide +kernel
theorem dX5_queueOthers_4 : decode cX5_queueOthers 4 = .ok (.getfield 9, 3) := by decide +kernel
theorem dX5_queueOthers_7 : decode cX5_queueOthers 7 = .ok (.if_icmp .ge 44, 3) := by decide +kernel
theorem dX5_queueOthers_10 : decode cX5_queueOthers 10 = .ok (.aload_n 0, 1) := by decide +kernel
theorem dX5_queueOthers_11 : decode cX5_queueOthers 11 = .ok (.iload_n 1, 1) := by decide +kernel
theorem dX5_queueOthers_12 : decode cX5_queueOthers 12 = .ok (.bipush 23, 2) := by decide +kernel
theorem dX5_queueOthers_14 : decode cX5_queueOthers 14 = .ok (.invokevirtual 15, 3) := by decide +kernel
theorem dX5_queueOthers_17 : decode cX5_queueOthers 17 = .ok (.iconst 2, 1) := by decide +kernel
theorem dX5_queueOthers_18 : decode cX5_queueOthers 18 = .ok (.if_icmp .ne 33, 3) := by decide +kernel
theorem dX5_queueOthers_21 : decode cX5_queueOthers 21 = .ok (.aload_n 0, 1) := by decide +kernel
theorem dX5_queueOthers_22 : decode cX5_queueOthers 22 = .ok (.iload_n 3, 1) := by decide +kernel
theorem dX5_queueOthers_23 : decode cX5_queueOthers 23 = .ok (.bipush 23, 2) := by decide +kernel
theorem dX5_queueOthers_25 : decode cX5_queueOthers 25 = .ok (.invokevirtual 15, 3) := by decide +kernel
theorem dX5_queueOthers_28 : decode cX5_queueOthers 28 = .ok (.iconst 5, 1) := by decide +kernel
theorem dX5_queueOthers_29 : decode cX5_queueOthers 29 = .ok (.if_icmp .ne 16, 3) := by decide +kernel
theorem dX5_queueOthers_32 : decode cX5_queueOthers 32 = .ok (.aload_n 0, 1) := by decide +kernel
theorem dX5_queueOthers_33 : decode cX5_queueOthers 33 = .ok (.iload_n 3, 1) := by decide +kernel
theorem dX5_queueOthers_34 : decode cX5_queueOthers 34 = .ok (.invokevirtual 19, 3) := by decide +kernel
theorem dX5_queueOthers_37 : decode cX5_queueOthers 37 = .ok (.ifCond .ne 8, 3) := by decide +kernel
theorem dX5_queueOthers_40 : decode cX5_queueOthers 40 = .ok (.aload_n 0, 1) := by decide +kernel
theorem dX5_queueOthers_41 : decode cX5_queueOthers 41 = .ok (.iload_n 3, 1) := by decide +kernel
theorem dX5_queueOthers_42 : decode cX5_queueOthers 42 = .ok (.invokevirtual 23, 3) := by decide +kernel
theorem dX5_queueOthers_45 : decode cX5_queueOthers 45 = .ok (.iinc 3 1, 3) := by decide +kernel
theorem dX5_queueOthers_48 : decode cX5_queueOthers 48 = .ok (.goto (-46), 3) := by decide +kernel
theorem dX5_queueOthers_51 : decode cX5_queueOthers 51 = .ok (.return_, 1) := by decide +kernel
theorem dX5_serve_0 : decode cX5_serve 0 = .ok (.aload_n 0, 1) := by decide +kernel
theorem dX5_serve_1 : decode cX5_serve 1 = .ok (.iload_n 1, 1) := by decide +kernel
theorem dX5_serve_2 : decode cX5_serve 2 = .ok (.iconst 5, 1) := by decide +kernel
theorem dX5_serve_3 : decode cX5_serve 3 = .ok (.invokevirtual 27, 3) := by decide +kernel
theorem dX5_serve_6 : decode cX5_serve 6 = .ok (.ifCond .ne 5, 3) := by decide +kernel
theorem dX5_serve_9 : decode cX5_serve 9 = .ok (.iconst 1, 1) := by decide +kernel
theorem dX5_serve_10 : decode cX5_serve 10 = .ok (.ireturn, 1) := by decide +kernel
theorem dX5_serve_11 : decode cX5_serve 11 = .ok (.aload_n 0, 1) := by decide +kernel
theorem dX5_serve_12 : decode cX5_serve 12 = .ok (.iload_n 1, 1) := by decide +kernel
theorem dX5_serve_13 : decode cX5_serve 13 = .ok (.iconst 0, 1) := by decide +kernel
theorem dX5_serve_14 : decode cX5_serve 14 = .ok (.invokevirtual 31, 3) := by decide +kernel
theorem dX5_serve_17 : decode cX5_serve 17 = .ok (.istore_n 2, 1) := by decide +kernel
theorem dX5_serve_18 : decode cX5_serve 18 = .ok (.aload_n 0, 1) := by decide +kernel
theorem dX5_serve_19 : decode cX5_serve 19 = .ok (.iload_n 1, 1) := by decide +kernel
theorem dX5_serve_20 : decode cX5_serve 20 = .ok (.bipush 30, 2) := by decide +kernel
theorem dX5_serve_22 : decode cX5_serve 22 = .ok (.invokevirtual 31, 3) := by decide +kernel
theorem dX5_serve_25 : decode cX5_serve 25 = .ok (.istore_n 3, 1) := by decide +kernel
theorem dX5_serve_26 : decode cX5_serve 26 = .ok (.iload_n 2, 1) := by decide +kernel
theorem dX5_serve_27 : decode cX5_serve 27 = .ok (.aload_n 0, 1) := by decide +kernel
theorem dX5_serve_28 : decode cX5_serve 28 = .ok (.iload_n 1, 1) := by decide +kernel
theorem dX5_serve_29 : decode cX5_serve 29 = .ok (.bipush 30, 2) := by decide +kernel
theorem dX5_serve_31 : decode cX5_serve 31 = .ok (.invokevirtual 15, 3) := by decide +kernel
theorem dX5_serve_34 : decode cX5_serve 34 = .ok (.if_icmp .ne 16, 3) := by decide +kernel
theorem dX5_serve_37 : decode cX5_serve 37 = .ok (.iload_n 3, 1) := by decide +kernel
theorem dX5_serve_38 : decode cX5_serve 38 = .ok (.aload_n 0, 1) := by decide +kernel
theorem dX5_serve_39 : decode cX5_serve 39 = .ok (.iload_n 1, 1) := by decide +kernel
theorem dX5_serve_40 : decode cX5_serve 40 = .ok (.bipush 31, 2) := by decide +kernel
theorem dX5_serve_42 : decode cX5_serve 42 = .ok (.invokevirtual 15, 3) := by decide +kernel
theorem dX5_serve_45 : decode cX5_serve 45 = .ok (.if_icmp .ne 5, 3) := by decide +kernel
theorem dX5_serve_48 : decode cX5_serve 48 = .ok (.iconst 1, 1) := by decide +kernel
theorem dX5_serve_49 : decode cX5_serve 49 = .ok (.ireturn, 1) := by decide +kernel
theorem dX5_serve_50 : decode cX5_serve 50 = .ok (.aload_n 0, 1) := by decide +kernel
theorem dX5_serve_51 : decode cX5_serve 51 = .ok (.iload_n 1, 1) := by decide +kernel
theorem dX5_serve_52 : decode cX5_serve 52 = .ok (.invokevirtual 34, 3) := by decide +kernel
theorem dX5_serve_55 : decode cX5_serve 55 = .ok (.ifCond .eq 24, 3) := by decide +kernel
theorem dX5_serve_58 : decode cX5_serve 58 = .ok (.aload_n 0, 1) := by decide +kernel
theorem dX5_serve_59 : decode cX5_serve 59 = .ok (.getfield 37, 3) := by decide +kernel
theorem dX5_serve_62 : decode cX5_serve 62 = .ok (.iload_n 1, 1) := by decide +kernel
theorem dX5_serve_63 : decode cX5_serve 63 = .ok (.bipush 30, 2) := by decide +kernel
theorem dX5_serve_65 : decode cX5_serve 65 = .ok (.iload_n 2, 1) := by decide +kernel
theorem dX5_serve_66 : decode cX5_serve 66 = .ok (.bipush 31, 2) := by decide +kernel
theorem dX5_serve_68 : decode cX5_serve 68 = .ok (.iload_n 3, 1) := by decide +kernel
theorem dX5_serve_69 : decode cX5_serve 69 = .ok (.invokevirtual 41, 3) := by decide +kernel
theorem dX5_serve_72 : decode cX5_serve 72 = .ok (.ifCond .eq 7, 3) := by decide +kernel
theorem dX5_serve_75 : decode cX5_serve 75 = .ok (.iconst 1, 1) := by decide +kernel
theorem dX5_serve_76 : decode cX5_serve 76 = .ok (.goto 4, 3) := by decide +kernel
theorem dX5_serve_79 : decode cX5_serve 79 = .ok (.iconst 0, 1) := by decide +kernel
theorem dX5_serve_80 : decode cX5_serve 80 = .ok (.invokestatic 47, 3) := by decide +kernel
theorem dX5_serve_83 : decode cX5_serve 83 = .ok (.ireturn, 1) := by decide +kernel
theorem dX5_podsBehind_0 : decode cX5_podsBehind 0 = .ok (.aload_n 0, 1) := by decide +kernel
theorem dX5_podsBehind_1 : decode cX5_podsBehind 1 = .ok (.iload_n 1, 1) := by decide +kernel
theorem dX5_podsBehind_2 : decode cX5_podsBehind 2 = .ok (.iconst 1, 1) := by decide +kernel
theorem dX5_podsBehind_3 : decode cX5_podsBehind 3 = .ok (.invokevirtual 15, 3) := by decide +kernel
theorem dX5_podsBehind_6 : decode cX5_podsBehind 6 = .ok (.istore_n 3, 1) := by decide +kernel
theorem dX5_podsBehind_7 : decode cX5_podsBehind 7 = .ok (.iconst 0, 1) := by decide +kernel
theorem dX5_podsBehind_8 : decode cX5_podsBehind 8 = .ok (.istore 4, 2) := by decide +kernel
theorem dX5_podsBehind_10 : decode cX5_podsBehind 10 = .ok (.iload_n 2, 1) := by decide +kernel
theorem dX5_podsBehind_11 : decode cX5_podsBehind 11 = .ok (.istore 5, 2) := by decide +kernel
theorem dX5_podsBehind_13 : decode cX5_podsBehind 13 = .ok (.iload 5, 2) := by decide +kernel
theorem dX5_podsBehind_15 : decode cX5_podsBehind 15 = .ok (.aload_n 0, 1) := by decide +kernel
theorem dX5_podsBehind_16 : decode cX5_podsBehind 16 = .ok (.getfield 9, 3) := by decide +kernel
theorem dX5_podsBehind_19 : decode cX5_podsBehind 19 = .ok (.if_icmp .ge 62, 3) := by decide +kernel
theorem dX5_podsBehind_22 : decode cX5_podsBehind 22 = .ok (.iload 5, 2) := by decide +kernel
theorem dX5_podsBehind_24 : decode cX5_podsBehind 24 = .ok (.iload_n 2, 1) := by decide +kernel
theorem dX5_podsBehind_25 : decode cX5_podsBehind 25 = .ok (.bipush 30, 2) := by decide +kernel
theorem dX5_podsBehind_27 : decode cX5_podsBehind 27 = .ok (.iadd, 1) := by decide +kernel
theorem dX5_podsBehind_28 : decode cX5_podsBehind 28 = .ok (.if_icmp .ge 53, 3) := by decide +kernel
theorem dX5_podsBehind_31 : decode cX5_podsBehind 31 = .ok (.aload_n 0, 1) := by decide +kernel
theorem dX5_podsBehind_32 : decode cX5_podsBehind 32 = .ok (.iload 5, 2) := by decide +kernel
theorem dX5_podsBehind_34 : decode cX5_podsBehind 34 = .ok (.iconst 2, 1) := by decide +kernel
theorem dX5_podsBehind_35 : decode cX5_podsBehind 35 = .ok (.invokevirtual 27, 3) := by decide +kernel
theorem dX5_podsBehind_38 : decode cX5_podsBehind 38 = .ok (.ifCond .eq 37, 3) := by decide +kernel
theorem dX5_podsBehind_41 : decode cX5_podsBehind 41 = .ok (.aload_n 0, 1) := by decide +kernel
theorem dX5_podsBehind_42 : decode cX5_podsBehind 42 = .ok (.iload 5, 2) := by decide +kernel
theorem dX5_podsBehind_44 : decode cX5_podsBehind 44 = .ok (.bipush 29, 2) := by decide +kernel
theorem dX5_podsBehind_46 : decode cX5_podsBehind 46 = .ok (.invokevirtual 15, 3) := by decide +kernel
theorem dX5_podsBehind_49 : decode cX5_podsBehind 49 = .ok (.iconst 1, 1) := by decide +kernel
theorem dX5_podsBehind_50 : decode cX5_podsBehind 50 = .ok (.if_icmp .ne 25, 3) := by decide +kernel
theorem dX5_podsBehind_53 : decode cX5_podsBehind 53 = .ok (.aload_n 0, 1) := by decide +kernel
theorem dX5_podsBehind_54 : decode cX5_podsBehind 54 = .ok (.iload 5, 2) := by decide +kernel
theorem dX5_podsBehind_56 : decode cX5_podsBehind 56 = .ok (.iconst 1, 1) := by decide +kernel
theorem dX5_podsBehind_57 : decode cX5_podsBehind 57 = .ok (.invokevirtual 15, 3) := by decide +kernel
theorem dX5_podsBehind_60 : decode cX5_podsBehind 60 = .ok (.iload_n 3, 1) := by decide +kernel
theorem dX5_podsBehind_61 : decode cX5_podsBehind 61 = .ok (.if_icmp .ne 14, 3) := by decide +kernel
theorem dX5_podsBehind_64 : decode cX5_podsBehind 64 = .ok (.iload 4, 2) := by decide +kernel
theorem dX5_podsBehind_66 : decode cX5_podsBehind 66 = .ok (.iconst 1, 1) := by decide +kernel
theorem dX5_podsBehind_67 : decode cX5_podsBehind 67 = .ok (.iload 5, 2) := by decide +kernel
theorem dX5_podsBehind_69 : decode cX5_podsBehind 69 = .ok (.iload_n 2, 1) := by decide +kernel
theorem dX5_podsBehind_70 : decode cX5_podsBehind 70 = .ok (.isub, 1) := by decide +kernel
theorem dX5_podsBehind_71 : decode cX5_podsBehind 71 = .ok (.ishl, 1) := by decide +kernel
theorem dX5_podsBehind_72 : decode cX5_podsBehind 72 = .ok (.ior, 1) := by decide +kernel
theorem dX5_podsBehind_73 : decode cX5_podsBehind 73 = .ok (.istore 4, 2) := by decide +kernel
theorem dX5_podsBehind_75 : decode cX5_podsBehind 75 = .ok (.iinc 5 1, 3) := by decide +kernel
theorem dX5_podsBehind_78 : decode cX5_podsBehind 78 = .ok (.goto (-65), 3) := by decide +kernel
theorem dX5_podsBehind_81 : decode cX5_podsBehind 81 = .ok (.iload 4, 2) := by decide +kernel
theorem dX5_podsBehind_83 : decode cX5_podsBehind 83 = .ok (.ireturn, 1) := by decide +kernel
theorem dX6_queueOthers_0 : decode cX6_queueOthers 0 = .ok (.iconst 0, 1) := by decide +kernel
theorem dX6_queueOthers_1 : decode cX6_queueOthers 1 = .ok (.istore_n 3, 1) := by decide +kernel
theorem dX6_queueOthers_2 : decode cX6_queueOthers 2 = .ok (.iload_n 3, 1) := by decide +kernel
theorem dX6_queueOthers_3 : decode cX6_queueOthers 3 = .ok (.aload_n 0, 1) := by decide +kernel
theorem dX6_queueOthers_4 : decode cX6_queueOthers 4 = .ok (.getfield 9, 3) := by decide +kernel
theorem dX6_queueOthers_7 : decode cX6_queueOthers 7 = .ok (.if_icmp .ge 47, 3) := by decide +kernel
theorem dX6_queueOthers_10 : decode cX6_queueOthers 10 = .ok (.aload_n 0, 1) := by decide +kernel
theorem dX6_queueOthers_11 : decode cX6_queueOthers 11 = .ok (.iload_n 1, 1) := by decide +kernel
theorem dX6_queueOthers_12 : decode cX6_queueOthers 12 = .ok (.bipush 23, 2) := by decide +kernel
theorem dX6_queueOthers_14 : decode cX6_queueOthers 14 = .ok (.invokevirtual 15, 3) := by decide +kernel
theorem dX6_queueOthers_17 : decode cX6_queueOthers 17 = .ok (.iconst 4, 1) := by decide +kernel
theorem dX6_queueOthers_18 : decode cX6_queueOthers 18 = .ok (.if_icmp .ne 36, 3) := by decide +kernel
theorem dX6_queueOthers_21 : decode cX6_queueOthers 21 = .ok (.aload_n 0, 1) := by decide +kernel
theorem dX6_queueOthers_22 : decode cX6_queueOthers 22 = .ok (.iload_n 3, 1) := by decide +kernel
theorem dX6_queueOthers_23 : decode cX6_queueOthers 23 = .ok (.bipush 23, 2) := by decide +kernel
theorem dX6_queueOthers_25 : decode cX6_queueOthers 25 = .ok (.invokevirtual 15, 3) := by decide +kernel
theorem dX6_queueOthers_28 : decode cX6_queueOthers 28 = .ok (.iconst 2, 1) := by decide +kernel
theorem dX6_queueOthers_29 : decode cX6_queueOthers 29 = .ok (.if_icmp .ne 19, 3) := by decide +kernel
theorem dX6_queueOthers_32 : decode cX6_queueOthers 32 = .ok (.aload_n 0, 1) := by decide +kernel
theorem dX6_queueOthers_33 : decode cX6_queueOthers 33 = .ok (.iload_n 3, 1) := by decide +kernel
theorem dX6_queueOthers_34 : decode cX6_queueOthers 34 = .ok (.bipush 28, 2) := by decide +kernel
theorem dX6_queueOthers_36 : decode cX6_queueOthers 36 = .ok (.invokevirtual 15, 3) := by decide +kernel
theorem dX6_queueOthers_39 : decode cX6_queueOthers 39 = .ok (.iload_n 1, 1) := by decide +kernel
theorem dX6_queueOthers_40 : decode cX6_queueOthers 40 = .ok (.if_icmp .ne 8, 3) := by decide +kernel
theorem dX6_queueOthers_43 : decode cX6_queueOthers 43 = .ok (.aload_n 0, 1) := by decide +kernel
theorem dX6_queueOthers_44 : decode cX6_queueOthers 44 = .ok (.iload_n 3, 1) := by decide +kernel
theorem dX6_queueOthers_45 : decode cX6_queueOthers 45 = .ok (.invokevirtual 19, 3) := by decide +kernel
theorem dX6_queueOthers_48 : decode cX6_queueOthers 48 = .ok (.iinc 3 1, 3) := by decide +kernel
theorem dX6_queueOthers_51 : decode cX6_queueOthers 51 = .ok (.goto (-49), 3) := by decide +kernel
theorem dX6_queueOthers_54 : decode cX6_queueOthers 54 = .ok (.return_, 1) := by decide +kernel
theorem dX6_serve_0 : decode cX6_serve 0 = .ok (.aload_n 0, 1) := by decide +kernel
theorem dX6_serve_1 : decode cX6_serve 1 = .ok (.iload_n 1, 1) := by decide +kernel
theorem dX6_serve_2 : decode cX6_serve 2 = .ok (.bipush 28, 2) := by decide +kernel
theorem dX6_serve_4 : decode cX6_serve 4 = .ok (.invokevirtual 15, 3) := by decide +kernel
theorem dX6_serve_7 : decode cX6_serve 7 = .ok (.istore_n 2, 1) := by decide +kernel
theorem dX6_serve_8 : decode cX6_serve 8 = .ok (.aload_n 0, 1) := by decide +kernel
theorem dX6_serve_9 : decode cX6_serve 9 = .ok (.iload_n 1, 1) := by decide +kernel
theorem dX6_serve_10 : decode cX6_serve 10 = .ok (.bipush 29, 2) := by decide +kernel
theorem dX6_serve_12 : decode cX6_serve 12 = .ok (.invokevirtual 15, 3) := by decide +kernel
theorem dX6_serve_15 : decode cX6_serve 15 = .ok (.istore_n 3, 1) := by decide +kernel
theorem dX6_serve_16 : decode cX6_serve 16 = .ok (.aload_n 0, 1) := by decide +kernel
theorem dX6_serve_17 : decode cX6_serve 17 = .ok (.iload_n 1, 1) := by decide +kernel
theorem dX6_serve_18 : decode cX6_serve 18 = .ok (.bipush 23, 2) := by decide +kernel
theorem dX6_serve_20 : decode cX6_serve 20 = .ok (.invokevirtual 15, 3) := by decide +kernel
theorem dX6_serve_23 : decode cX6_serve 23 = .ok (.iconst 2, 1) := by decide +kernel
theorem dX6_serve_24 : decode cX6_serve 24 = .ok (.if_icmp .ne 16, 3) := by decide +kernel
theorem dX6_serve_27 : decode cX6_serve 27 = .ok (.aload_n 0, 1) := by decide +kernel
theorem dX6_serve_28 : decode cX6_serve 28 = .ok (.iload_n 1, 1) := by decide +kernel
theorem dX6_serve_29 : decode cX6_serve 29 = .ok (.invokevirtual 23, 3) := by decide +kernel
theorem dX6_serve_32 : decode cX6_serve 32 = .ok (.ifCond .ne 8, 3) := by decide +kernel
theorem dX6_serve_35 : decode cX6_serve 35 = .ok (.iload_n 2, 1) := by decide +kernel
theorem dX6_serve_36 : decode cX6_serve 36 = .ok (.iconst (-1), 1) := by decide +kernel
theorem dX6_serve_37 : decode cX6_serve 37 = .ok (.if_icmp .ne 5, 3) := by decide +kernel
theorem dX6_serve_40 : decode cX6_serve 40 = .ok (.iconst 1, 1) := by decide +kernel
theorem dX6_serve_41 : decode cX6_serve 41 = .ok (.ireturn, 1) := by decide +kernel
theorem dX6_serve_42 : decode cX6_serve 42 = .ok (.aload_n 0, 1) := by decide +kernel
theorem dX6_serve_43 : decode cX6_serve 43 = .ok (.iload_n 1, 1) := by decide +kernel
theorem dX6_serve_44 : decode cX6_serve 44 = .ok (.bipush 25, 2) := by decide +kernel
theorem dX6_serve_46 : decode cX6_serve 46 = .ok (.invokevirtual 15, 3) := by decide +kernel
theorem dX6_serve_49 : decode cX6_serve 49 = .ok (.ifCond .eq 12, 3) := by decide +kernel
theorem dX6_serve_52 : decode cX6_serve 52 = .ok (.aload_n 0, 1) := by decide +kernel
theorem dX6_serve_53 : decode cX6_serve 53 = .ok (.iload_n 1, 1) := by decide +kernel
theorem dX6_serve_54 : decode cX6_serve 54 = .ok (.invokevirtual 27, 3) := by decide +kernel
theorem dX6_serve_57 : decode cX6_serve 57 = .ok (.invokestatic 30, 3) := by decide +kernel
theorem dX6_serve_60 : decode cX6_serve 60 = .ok (.ireturn, 1) := by decide +kernel
theorem dX6_serve_61 : decode cX6_serve 61 = .ok (.aload_n 0, 1) := by decide +kernel
theorem dX6_serve_62 : decode cX6_serve 62 = .ok (.iload_n 2, 1) := by decide +kernel
theorem dX6_serve_63 : decode cX6_serve 63 = .ok (.invokevirtual 23, 3) := by decide +kernel
theorem dX6_serve_66 : decode cX6_serve 66 = .ok (.ifCond .ne 24, 3) := by decide +kernel
theorem dX6_serve_69 : decode cX6_serve 69 = .ok (.aload_n 0, 1) := by decide +kernel
theorem dX6_serve_70 : decode cX6_serve 70 = .ok (.iload_n 2, 1) := by decide +kernel
theorem dX6_serve_71 : decode cX6_serve 71 = .ok (.bipush 27, 2) := by decide +kernel
theorem dX6_serve_73 : decode cX6_serve 73 = .ok (.invokevirtual 15, 3) := by decide +kernel
theorem dX6_serve_76 : decode cX6_serve 76 = .ok (.ifCond .eq 14, 3) := by decide +kernel
theorem dX6_serve_79 : decode cX6_serve 79 = .ok (.aload_n 0, 1) := by decide +kernel
theorem dX6_serve_80 : decode cX6_serve 80 = .ok (.iload_n 2, 1) := by decide +kernel
theorem dX6_serve_81 : decode cX6_serve 81 = .ok (.bipush 9, 2) := by decide +kernel
theorem dX6_serve_83 : decode cX6_serve 83 = .ok (.invokevirtual 15, 3) := by decide +kernel
theorem dX6_serve_86 : decode cX6_serve 86 = .ok (.iconst 1, 1) := by decide +kernel
theorem dX6_serve_87 : decode cX6_serve 87 = .ok (.if_icmp .ne 7, 3) := by decide +kernel
theorem dX6_serve_90 : decode cX6_serve 90 = .ok (.iconst 1, 1) := by decide +kernel
theorem dX6_serve_91 : decode cX6_serve 91 = .ok (.goto 4, 3) := by decide +kernel
theorem dX6_serve_94 : decode cX6_serve 94 = .ok (.iconst 0, 1) := by decide +kernel
theorem dX6_serve_95 : decode cX6_serve 95 = .ok (.istore 4, 2) := by decide +kernel
theorem dX6_serve_97 : decode cX6_serve 97 = .ok (.iload 4, 2) := by decide +kernel
theorem dX6_serve_99 : decode cX6_serve 99 = .ok (.ifCond .eq 24, 3) := by decide +kernel
theorem dX6_serve_102 : decode cX6_serve 102 = .ok (.iload_n 3, 1) := by decide +kernel
theorem dX6_serve_103 : decode cX6_serve 103 = .ok (.ifCond .eq 8, 3) := by decide +kernel
theorem dX6_serve_106 : decode cX6_serve 106 = .ok (.iload_n 3, 1) := by decide +kernel
theorem dX6_serve_107 : decode cX6_serve 107 = .ok (.iconst 1, 1) := by decide +kernel
theorem dX6_serve_108 : decode cX6_serve 108 = .ok (.if_icmp .ne 15, 3) := by decide +kernel
theorem dX6_serve_111 : decode cX6_serve 111 = .ok (.aload_n 0, 1) := by decide +kernel
theorem dX6_serve_112 : decode cX6_serve 112 = .ok (.iload_n 1, 1) := by decide +kernel
theorem dX6_serve_113 : decode cX6_serve 113 = .ok (.bipush 29, 2) := by decide +kernel
theorem dX6_serve_115 : decode cX6_serve 115 = .ok (.iconst 3, 1) := by decide +kernel
theorem dX6_serve_116 : decode cX6_serve 116 = .ok (.invokevirtual 34, 3) := by decide +kernel
theorem dX6_serve_119 : decode cX6_serve 119 = .ok (.invokestatic 30, 3) := by decide +kernel
theorem dX6_serve_122 : decode cX6_serve 122 = .ok (.ireturn, 1) := by decide +kernel
theorem dX6_serve_123 : decode cX6_serve 123 = .ok (.iload_n 3, 1) := by decide +kernel
theorem dX6_serve_124 : decode cX6_serve 124 = .ok (.ifCond .eq 5, 3) := by decide +kernel
theorem dX6_serve_127 : decode cX6_serve 127 = .ok (.iconst 1, 1) := by decide +kernel
theorem dX6_serve_128 : decode cX6_serve 128 = .ok (.ireturn, 1) := by decide +kernel
theorem dX6_serve_129 : decode cX6_serve 129 = .ok (.aload_n 0, 1) := by decide +kernel
theorem dX6_serve_130 : decode cX6_serve 130 = .ok (.iload_n 2, 1) := by decide +kernel
theorem dX6_serve_131 : decode cX6_serve 131 = .ok (.bipush 7, 2) := by decide +kernel
theorem dX6_serve_133 : decode cX6_serve 133 = .ok (.invokevirtual 15, 3) := by decide +kernel
theorem dX6_serve_136 : decode cX6_serve 136 = .ok (.aload_n 0, 1) := by decide +kernel
theorem dX6_serve_137 : decode cX6_serve 137 = .ok (.iload_n 1, 1) := by decide +kernel
theorem dX6_serve_138 : decode cX6_serve 138 = .ok (.invokevirtual 38, 3) := by decide +kernel
theorem dX6_serve_141 : decode cX6_serve 141 = .ok (.aload_n 0, 1) := by decide +kernel
theorem dX6_serve_142 : decode cX6_serve 142 = .ok (.iload_n 2, 1) := by decide +kernel
theorem dX6_serve_143 : decode cX6_serve 143 = .ok (.invokevirtual 42, 3) := by decide +kernel
theorem dX6_serve_146 : decode cX6_serve 146 = .ok (.iadd, 1) := by decide +kernel
theorem dX6_serve_147 : decode cX6_serve 147 = .ok (.if_icmp .lt 7, 3) := by decide +kernel
theorem dX6_serve_150 : decode cX6_serve 150 = .ok (.iconst 1, 1) := by decide +kernel
theorem dX6_serve_151 : decode cX6_serve 151 = .ok (.goto 4, 3) := by decide +kernel
theorem dX6_serve_154 : decode cX6_serve 154 = .ok (.iconst 0, 1) := by decide +kernel
theorem dX6_serve_155 : decode cX6_serve 155 = .ok (.istore 5, 2) := by decide +kernel
theorem dX6_serve_157 : decode cX6_serve 157 = .ok (.aload_n 0, 1) := by decide +kernel
theorem dX6_serve_158 : decode cX6_serve 158 = .ok (.iload_n 1, 1) := by decide +kernel
theorem dX6_serve_159 : decode cX6_serve 159 = .ok (.bipush 29, 2) := by decide +kernel
theorem dX6_serve_161 : decode cX6_serve 161 = .ok (.iload 5, 2) := by decide +kernel
theorem dX6_serve_163 : decode cX6_serve 163 = .ok (.ifCond .eq 7, 3) := by decide +kernel
theorem dX6_serve_166 : decode cX6_serve 166 = .ok (.iconst 1, 1) := by decide +kernel
theorem dX6_serve_167 : decode cX6_serve 167 = .ok (.goto 4, 3) := by decide +kernel
theorem dX6_serve_170 : decode cX6_serve 170 = .ok (.iconst 3, 1) := by decide +kernel
theorem dX6_serve_171 : decode cX6_serve 171 = .ok (.invokevirtual 34, 3) := by decide +kernel
theorem dX6_serve_174 : decode cX6_serve 174 = .ok (.invokestatic 30, 3) := by decide +kernel
theorem dX6_serve_177 : decode cX6_serve 177 = .ok (.ireturn, 1) := by decide +kernel
theorem dX6_clearPlace_0 : decode cX6_clearPlace 0 = .ok (.aload_n 0, 1) := by decide +kernel
theorem dX6_clearPlace_1 : decode cX6_clearPlace 1 = .ok (.iload_n 1, 1) := by decide +kernel
theorem dX6_clearPlace_2 : decode cX6_clearPlace 2 = .ok (.bipush 26, 2) := by decide +kernel
theorem dX6_clearPlace_4 : decode cX6_clearPlace 4 = .ok (.invokevirtual 15, 3) := by decide +kernel
theorem dX6_clearPlace_7 : decode cX6_clearPlace 7 = .ok (.iconst 1, 1) := by decide +kernel
theorem dX6_clearPlace_8 : decode cX6_clearPlace 8 = .ok (.if_icmp .ne 13, 3) := by decide +kernel
theorem dX6_clearPlace_11 : decode cX6_clearPlace 11 = .ok (.aload_n 0, 1) := by decide +kernel
theorem dX6_clearPlace_12 : decode cX6_clearPlace 12 = .ok (.iload_n 1, 1) := by decide +kernel
theorem dX6_clearPlace_13 : decode cX6_clearPlace 13 = .ok (.bipush 25, 2) := by decide +kernel
theorem dX6_clearPlace_15 : decode cX6_clearPlace 15 = .ok (.invokevirtual 15, 3) := by decide +kernel
theorem dX6_clearPlace_18 : decode cX6_clearPlace 18 = .ok (.goto 4, 3) := by decide +kernel
theorem dX6_clearPlace_21 : decode cX6_clearPlace 21 = .ok (.iconst 4, 1) := by decide +kernel
theorem dX6_clearPlace_22 : decode cX6_clearPlace 22 = .ok (.istore_n 2, 1) := by decide +kernel
theorem dX6_clearPlace_23 : decode cX6_clearPlace 23 = .ok (.aload_n 0, 1) := by decide +kernel
theorem dX6_clearPlace_24 : decode cX6_clearPlace 24 = .ok (.iload_n 1, 1) := by decide +kernel
theorem dX6_clearPlace_25 : decode cX6_clearPlace 25 = .ok (.invokevirtual 45, 3) := by decide +kernel
theorem dX6_clearPlace_28 : decode cX6_clearPlace 28 = .ok (.ifCond .eq 24, 3) := by decide +kernel
theorem dX6_clearPlace_31 : decode cX6_clearPlace 31 = .ok (.aload_n 0, 1) := by decide +kernel
theorem dX6_clearPlace_32 : decode cX6_clearPlace 32 = .ok (.getfield 48, 3) := by decide +kernel
theorem dX6_clearPlace_35 : decode cX6_clearPlace 35 = .ok (.iload_n 1, 1) := by decide +kernel
theorem dX6_clearPlace_36 : decode cX6_clearPlace 36 = .ok (.bipush 28, 2) := by decide +kernel
theorem dX6_clearPlace_38 : decode cX6_clearPlace 38 = .ok (.iconst (-1), 1) := by decide +kernel
theorem dX6_clearPlace_39 : decode cX6_clearPlace 39 = .ok (.bipush 25, 2) := by decide +kernel
theorem dX6_clearPlace_41 : decode cX6_clearPlace 41 = .ok (.iload_n 2, 1) := by decide +kernel
theorem dX6_clearPlace_42 : decode cX6_clearPlace 42 = .ok (.invokevirtual 52, 3) := by decide +kernel
theorem dX6_clearPlace_45 : decode cX6_clearPlace 45 = .ok (.ifCond .eq 7, 3) := by decide +kernel
theorem dX6_clearPlace_48 : decode cX6_clearPlace 48 = .ok (.iconst 1, 1) := by decide +kernel
theorem dX6_clearPlace_49 : decode cX6_clearPlace 49 = .ok (.goto 4, 3) := by decide +kernel
theorem dX6_clearPlace_52 : decode cX6_clearPlace 52 = .ok (.iconst 0, 1) := by decide +kernel
theorem dX6_clearPlace_53 : decode cX6_clearPlace 53 = .ok (.ireturn, 1) := by decide +kernel
theorem dX6_runningNeeds_0 : decode cX6_runningNeeds 0 = .ok (.iconst 0, 1) := by decide +kernel
theorem dX6_runningNeeds_1 : decode cX6_runningNeeds 1 = .ok (.istore_n 2, 1) := by decide +kernel
theorem dX6_runningNeeds_2 : decode cX6_runningNeeds 2 = .ok (.iconst 0, 1) := by decide +kernel
theorem dX6_runningNeeds_3 : decode cX6_runningNeeds 3 = .ok (.istore_n 3, 1) := by decide +kernel
theorem dX6_runningNeeds_4 : decode cX6_runningNeeds 4 = .ok (.iload_n 3, 1) := by decide +kernel
theorem dX6_runningNeeds_5 : decode cX6_runningNeeds 5 = .ok (.aload_n 0, 1) := by decide +kernel
theorem dX6_runningNeeds_6 : decode cX6_runningNeeds 6 = .ok (.getfield 9, 3) := by decide +kernel
theorem dX6_runningNeeds_9 : decode cX6_runningNeeds 9 = .ok (.if_icmp .ge 63, 3) := by decide +kernel
theorem dX6_runningNeeds_12 : decode cX6_runningNeeds 12 = .ok (.aload_n 0, 1) := by decide +kernel
theorem dX6_runningNeeds_13 : decode cX6_runningNeeds 13 = .ok (.iload_n 3, 1) := by decide +kernel
theorem dX6_runningNeeds_14 : decode cX6_runningNeeds 14 = .ok (.bipush 28, 2) := by decide +kernel
theorem dX6_runningNeeds_16 : decode cX6_runningNeeds 16 = .ok (.invokevirtual 15, 3) := by decide +kernel
theorem dX6_runningNeeds_19 : decode cX6_runningNeeds 19 = .ok (.iload_n 1, 1) := by decide +kernel
theorem dX6_runningNeeds_20 : decode cX6_runningNeeds 20 = .ok (.if_icmp .ne 26, 3) := by decide +kernel
theorem dX6_runningNeeds_23 : decode cX6_runningNeeds 23 = .ok (.aload_n 0, 1) := by decide +kernel
theorem dX6_runningNeeds_24 : decode cX6_runningNeeds 24 = .ok (.iload_n 3, 1) := by decide +kernel
theorem dX6_runningNeeds_25 : decode cX6_runningNeeds 25 = .ok (.bipush 29, 2) := by decide +kernel
theorem dX6_runningNeeds_27 : decode cX6_runningNeeds 27 = .ok (.invokevirtual 15, 3) := by decide +kernel
theorem dX6_runningNeeds_30 : decode cX6_runningNeeds 30 = .ok (.iconst 1, 1) := by decide +kernel
theorem dX6_runningNeeds_31 : decode cX6_runningNeeds 31 = .ok (.if_icmp .ne 15, 3) := by decide +kernel
theorem dX6_runningNeeds_34 : decode cX6_runningNeeds 34 = .ok (.aload_n 0, 1) := by decide +kernel
theorem dX6_runningNeeds_35 : decode cX6_runningNeeds 35 = .ok (.iload_n 3, 1) := by decide +kernel
theorem dX6_runningNeeds_36 : decode cX6_runningNeeds 36 = .ok (.invokevirtual 23, 3) := by decide +kernel
theorem dX6_runningNeeds_39 : decode cX6_runningNeeds 39 = .ok (.ifCond .ne 7, 3) := by decide +kernel
theorem dX6_runningNeeds_42 : decode cX6_runningNeeds 42 = .ok (.iconst 1, 1) := by decide +kernel
theorem dX6_runningNeeds_43 : decode cX6_runningNeeds 43 = .ok (.goto 4, 3) := by decide +kernel
theorem dX6_runningNeeds_46 : decode cX6_runningNeeds 46 = .ok (.iconst 0, 1) := by decide +kernel
theorem dX6_runningNeeds_47 : decode cX6_runningNeeds 47 = .ok (.istore 4, 2) := by decide +kernel
theorem dX6_runningNeeds_49 : decode cX6_runningNeeds 49 = .ok (.iload_n 2, 1) := by decide +kernel
theorem dX6_runningNeeds_50 : decode cX6_runningNeeds 50 = .ok (.iload 4, 2) := by decide +kernel
theorem dX6_runningNeeds_52 : decode cX6_runningNeeds 52 = .ok (.ifCond .eq 11, 3) := by decide +kernel
theorem dX6_runningNeeds_55 : decode cX6_runningNeeds 55 = .ok (.aload_n 0, 1) := by decide +kernel
theorem dX6_runningNeeds_56 : decode cX6_runningNeeds 56 = .ok (.iload_n 3, 1) := by decide +kernel
theorem dX6_runningNeeds_57 : decode cX6_runningNeeds 57 = .ok (.invokevirtual 38, 3) := by decide +kernel
theorem dX6_runningNeeds_60 : decode cX6_runningNeeds 60 = .ok (.goto 4, 3) := by decide +kernel
theorem dX6_runningNeeds_63 : decode cX6_runningNeeds 63 = .ok (.iconst 0, 1) := by decide +kernel
theorem dX6_runningNeeds_64 : decode cX6_runningNeeds 64 = .ok (.iadd, 1) := by decide +kernel
theorem dX6_runningNeeds_65 : decode cX6_runningNeeds 65 = .ok (.istore_n 2, 1) := by decide +kernel
theorem dX6_runningNeeds_66 : decode cX6_runningNeeds 66 = .ok (.iinc 3 1, 3) := by decide +kernel
theorem dX6_runningNeeds_69 : decode cX6_runningNeeds 69 = .ok (.goto (-65), 3) := by decide +kernel
theorem dX6_runningNeeds_72 : decode cX6_runningNeeds 72 = .ok (.iload_n 2, 1) := by decide +kernel
theorem dX6_runningNeeds_73 : decode cX6_runningNeeds 73 = .ok (.ireturn, 1) := by decide +kernel
theorem dX7_queueOthers_0 : decode cX7_queueOthers 0 = .ok (.return_, 1) := by decide +kernel
theorem dX7_serve_0 : decode cX7_serve 0 = .ok (.aload_n 0, 1) := by decide +kernel
theorem dX7_serve_1 : decode cX7_serve 1 = .ok (.iload_n 1, 1) := by decide +kernel
theorem dX7_serve_2 : decode cX7_serve 2 = .ok (.iconst 5, 1) := by decide +kernel
theorem dX7_serve_3 : decode cX7_serve 3 = .ok (.invokevirtual 15, 3) := by decide +kernel
theorem dX7_serve_6 : decode cX7_serve 6 = .ok (.istore_n 2, 1) := by decide +kernel
theorem dX7_serve_7 : decode cX7_serve 7 = .ok (.iload_n 1, 1) := by decide +kernel
theorem dX7_serve_8 : decode cX7_serve 8 = .ok (.ifCond .lt 22, 3) := by decide +kernel
theorem dX7_serve_11 : decode cX7_serve 11 = .ok (.iload_n 1, 1) := by decide +kernel
theorem dX7_serve_12 : decode cX7_serve 12 = .ok (.bipush 60, 2) := by decide +kernel
theorem dX7_serve_14 : decode cX7_serve 14 = .ok (.if_icmp .ge 16, 3) := by decide +kernel
theorem dX7_serve_17 : decode cX7_serve 17 = .ok (.aload_n 0, 1) := by decide +kernel
theorem dX7_serve_18 : decode cX7_serve 18 = .ok (.iload_n 1, 1) := by decide +kernel
theorem dX7_serve_19 : decode cX7_serve 19 = .ok (.iconst 0, 1) := by decide +kernel
theorem dX7_serve_20 : decode cX7_serve 20 = .ok (.invokevirtual 19, 3) := by decide +kernel
theorem dX7_serve_23 : decode cX7_serve 23 = .ok (.ifCond .eq 7, 3) := by decide +kernel
theorem dX7_serve_26 : decode cX7_serve 26 = .ok (.iload_n 2, 1) := by decide +kernel
theorem dX7_serve_27 : decode cX7_serve 27 = .ok (.ifCond .gt 5, 3) := by decide +kernel
theorem dX7_serve_30 : decode cX7_serve 30 = .ok (.iconst 1, 1) := by decide +kernel
theorem dX7_serve_31 : decode cX7_serve 31 = .ok (.ireturn, 1) := by decide +kernel
theorem dX7_serve_32 : decode cX7_serve 32 = .ok (.iload_n 2, 1) := by decide +kernel
theorem dX7_serve_33 : decode cX7_serve 33 = .ok (.iconst 1, 1) := by decide +kernel
theorem dX7_serve_34 : decode cX7_serve 34 = .ok (.aload_n 0, 1) := by decide +kernel
theorem dX7_serve_35 : decode cX7_serve 35 = .ok (.iload_n 1, 1) := by decide +kernel
theorem dX7_serve_36 : decode cX7_serve 36 = .ok (.bipush 6, 2) := by decide +kernel
theorem dX7_serve_38 : decode cX7_serve 38 = .ok (.invokevirtual 15, 3) := by decide +kernel
theorem dX7_serve_41 : decode cX7_serve 41 = .ok (.bipush 9, 2) := by decide +kernel
theorem dX7_serve_43 : decode cX7_serve 43 = .ok (.iadd, 1) := by decide +kernel
theorem dX7_serve_44 : decode cX7_serve 44 = .ok (.bipush 10, 2) := by decide +kernel
theorem dX7_serve_46 : decode cX7_serve 46 = .ok (.idiv, 1) := by decide +kernel
theorem dX7_serve_47 : decode cX7_serve 47 = .ok (.invokestatic 23, 3) := by decide +kernel
theorem dX7_serve_50 : decode cX7_serve 50 = .ok (.invokestatic 28, 3) := by decide +kernel
theorem dX7_serve_53 : decode cX7_serve 53 = .ok (.istore_n 3, 1) := by decide +kernel
theorem dX7_serve_54 : decode cX7_serve 54 = .ok (.aload_n 0, 1) := by decide +kernel
theorem dX7_serve_55 : decode cX7_serve 55 = .ok (.getfield 9, 3) := by decide +kernel
theorem dX7_serve_58 : decode cX7_serve 58 = .ok (.iload_n 1, 1) := by decide +kernel
theorem dX7_serve_59 : decode cX7_serve 59 = .ok (.iaload, 1) := by decide +kernel
theorem dX7_serve_60 : decode cX7_serve 60 = .ok (.iconst (-1), 1) := by decide +kernel
theorem dX7_serve_61 : decode cX7_serve 61 = .ok (.if_icmp .eq 26, 3) := by decide +kernel
theorem dX7_serve_64 : decode cX7_serve 64 = .ok (.aload_n 0, 1) := by decide +kernel
theorem dX7_serve_65 : decode cX7_serve 65 = .ok (.getfield 31, 3) := by decide +kernel
theorem dX7_serve_68 : decode cX7_serve 68 = .ok (.getfield 35, 3) := by decide +kernel
theorem dX7_serve_71 : decode cX7_serve 71 = .ok (.aload_n 0, 1) := by decide +kernel
theorem dX7_serve_72 : decode cX7_serve 72 = .ok (.getfield 9, 3) := by decide +kernel
theorem dX7_serve_75 : decode cX7_serve 75 = .ok (.iload_n 1, 1) := by decide +kernel
theorem dX7_serve_76 : decode cX7_serve 76 = .ok (.iaload, 1) := by decide +kernel
theorem dX7_serve_77 : decode cX7_serve 77 = .ok (.isub, 1) := by decide +kernel
theorem dX7_serve_78 : decode cX7_serve 78 = .ok (.bipush 10, 2) := by decide +kernel
theorem dX7_serve_80 : decode cX7_serve 80 = .ok (.if_icmp .ge 7, 3) := by decide +kernel
theorem dX7_serve_83 : decode cX7_serve 83 = .ok (.iconst 1, 1) := by decide +kernel
theorem dX7_serve_84 : decode cX7_serve 84 = .ok (.goto 4, 3) := by decide +kernel
theorem dX7_serve_87 : decode cX7_serve 87 = .ok (.iconst 0, 1) := by decide +kernel
theorem dX7_serve_88 : decode cX7_serve 88 = .ok (.istore 4, 2) := by decide +kernel
theorem dX7_serve_90 : decode cX7_serve 90 = .ok (.aload_n 0, 1) := by decide +kernel
theorem dX7_serve_91 : decode cX7_serve 91 = .ok (.iload_n 1, 1) := by decide +kernel
theorem dX7_serve_92 : decode cX7_serve 92 = .ok (.iconst 0, 1) := by decide +kernel
theorem dX7_serve_93 : decode cX7_serve 93 = .ok (.invokevirtual 15, 3) := by decide +kernel
theorem dX7_serve_96 : decode cX7_serve 96 = .ok (.iload_n 3, 1) := by decide +kernel
theorem dX7_serve_97 : decode cX7_serve 97 = .ok (.if_icmp .le 25, 3) := by decide +kernel
theorem dX7_serve_100 : decode cX7_serve 100 = .ok (.iload 4, 2) := by decide +kernel
theorem dX7_serve_102 : decode cX7_serve 102 = .ok (.ifCond .eq 20, 3) := by decide +kernel
theorem dX7_serve_105 : decode cX7_serve 105 = .ok (.aload_n 0, 1) := by decide +kernel
theorem dX7_serve_106 : decode cX7_serve 106 = .ok (.getfield 41, 3) := by decide +kernel
theorem dX7_serve_109 : decode cX7_serve 109 = .ok (.iload_n 1, 1) := by decide +kernel
theorem dX7_serve_110 : decode cX7_serve 110 = .ok (.aload_n 0, 1) := by decide +kernel
theorem dX7_serve_111 : decode cX7_serve 111 = .ok (.getfield 9, 3) := by decide +kernel
theorem dX7_serve_114 : decode cX7_serve 114 = .ok (.iload_n 1, 1) := by decide +kernel
theorem dX7_serve_115 : decode cX7_serve 115 = .ok (.iaload, 1) := by decide +kernel
theorem dX7_serve_116 : decode cX7_serve 116 = .ok (.bipush 10, 2) := by decide +kernel
theorem dX7_serve_118 : decode cX7_serve 118 = .ok (.iadd, 1) := by decide +kernel
theorem dX7_serve_119 : decode cX7_serve 119 = .ok (.iastore, 1) := by decide +kernel
theorem dX7_serve_120 : decode cX7_serve 120 = .ok (.iconst 2, 1) := by decide +kernel
theorem dX7_serve_121 : decode cX7_serve 121 = .ok (.ireturn, 1) := by decide +kernel
theorem dX7_serve_122 : decode cX7_serve 122 = .ok (.aload_n 0, 1) := by decide +kernel
theorem dX7_serve_123 : decode cX7_serve 123 = .ok (.getfield 31, 3) := by decide +kernel
theorem dX7_serve_126 : decode cX7_serve 126 = .ok (.getfield 44, 3) := by decide +kernel
theorem dX7_serve_129 : decode cX7_serve 129 = .ok (.istore 5, 2) := by decide +kernel
theorem dX7_serve_131 : decode cX7_serve 131 = .ok (.aload_n 0, 1) := by decide +kernel
theorem dX7_serve_132 : decode cX7_serve 132 = .ok (.iload_n 1, 1) := by decide +kernel
theorem dX7_serve_133 : decode cX7_serve 133 = .ok (.iload_n 3, 1) := by decide +kernel
theorem dX7_serve_134 : decode cX7_serve 134 = .ok (.invokevirtual 47, 3) := by decide +kernel
theorem dX7_serve_137 : decode cX7_serve 137 = .ok (.istore 6, 2) := by decide +kernel
theorem dX7_serve_139 : decode cX7_serve 139 = .ok (.aload_n 0, 1) := by decide +kernel
theorem dX7_serve_140 : decode cX7_serve 140 = .ok (.getfield 31, 3) := by decide +kernel
theorem dX7_serve_143 : decode cX7_serve 143 = .ok (.getfield 44, 3) := by decide +kernel
theorem dX7_serve_146 : decode cX7_serve 146 = .ok (.iload 5, 2) := by decide +kernel
theorem dX7_serve_148 : decode cX7_serve 148 = .ok (.if_icmp .le 16, 3) := by decide +kernel
theorem dX7_serve_151 : decode cX7_serve 151 = .ok (.aload_n 0, 1) := by decide +kernel
theorem dX7_serve_152 : decode cX7_serve 152 = .ok (.getfield 9, 3) := by decide +kernel
theorem dX7_serve_155 : decode cX7_serve 155 = .ok (.iload_n 1, 1) := by decide +kernel
theorem dX7_serve_156 : decode cX7_serve 156 = .ok (.aload_n 0, 1) := by decide +kernel
theorem dX7_serve_157 : decode cX7_serve 157 = .ok (.getfield 31, 3) := by decide +kernel
theorem dX7_serve_160 : decode cX7_serve 160 = .ok (.getfield 35, 3) := by decide +kernel
theorem dX7_serve_163 : decode cX7_serve 163 = .ok (.iastore, 1) := by decide +kernel
theorem dX7_serve_164 : decode cX7_serve 164 = .ok (.iload 6, 2) := by decide +kernel
theorem dX7_serve_166 : decode cX7_serve 166 = .ok (.invokestatic 50, 3) := by decide +kernel
theorem dX7_serve_169 : decode cX7_serve 169 = .ok (.ireturn, 1) := by decide +kernel
theorem dX8_queueOthers_0 : decode cX8_queueOthers 0 = .ok (.iconst 0, 1) := by decide +kernel
theorem dX8_queueOthers_1 : decode cX8_queueOthers 1 = .ok (.istore_n 3, 1) := by decide +kernel
theorem dX8_queueOthers_2 : decode cX8_queueOthers 2 = .ok (.iload_n 3, 1) := by decide +kernel
theorem dX8_queueOthers_3 : decode cX8_queueOthers 3 = .ok (.aload_n 0, 1) := by decide +kernel
theorem dX8_queueOthers_4 : decode cX8_queueOthers 4 = .ok (.getfield 21, 3) := by decide +kernel
theorem dX8_queueOthers_7 : decode cX8_queueOthers 7 = .ok (.if_icmp .ge 33, 3) := by decide +kernel
theorem dX8_queueOthers_10 : decode cX8_queueOthers 10 = .ok (.aload_n 0, 1) := by decide +kernel
theorem dX8_queueOthers_11 : decode cX8_queueOthers 11 = .ok (.iload_n 1, 1) := by decide +kernel
theorem dX8_queueOthers_12 : decode cX8_queueOthers 12 = .ok (.bipush 23, 2) := by decide +kernel
theorem dX8_queueOthers_14 : decode cX8_queueOthers 14 = .ok (.invokevirtual 25, 3) := by decide +kernel
theorem dX8_queueOthers_17 : decode cX8_queueOthers 17 = .ok (.iconst 4, 1) := by decide +kernel
theorem dX8_queueOthers_18 : decode cX8_queueOthers 18 = .ok (.if_icmp .ne 22, 3) := by decide +kernel
theorem dX8_queueOthers_21 : decode cX8_queueOthers 21 = .ok (.aload_n 0, 1) := by decide +kernel
theorem dX8_queueOthers_22 : decode cX8_queueOthers 22 = .ok (.iload_n 3, 1) := by decide +kernel
theorem dX8_queueOthers_23 : decode cX8_queueOthers 23 = .ok (.invokevirtual 29, 3) := by decide +kernel
theorem dX8_queueOthers_26 : decode cX8_queueOthers 26 = .ok (.ifCond .eq 8, 3) := by decide +kernel
theorem dX8_queueOthers_29 : decode cX8_queueOthers 29 = .ok (.aload_n 0, 1) := by decide +kernel
theorem dX8_queueOthers_30 : decode cX8_queueOthers 30 = .ok (.iload_n 3, 1) := by decide +kernel
theorem dX8_queueOthers_31 : decode cX8_queueOthers 31 = .ok (.invokevirtual 33, 3) := by decide +kernel
theorem dX8_queueOthers_34 : decode cX8_queueOthers 34 = .ok (.iinc 3 1, 3) := by decide +kernel
theorem dX8_queueOthers_37 : decode cX8_queueOthers 37 = .ok (.goto (-35), 3) := by decide +kernel
theorem dX8_queueOthers_40 : decode cX8_queueOthers 40 = .ok (.return_, 1) := by decide +kernel
theorem dX8_isWithoutPlace_0 : decode cX8_isWithoutPlace 0 = .ok (.aload_n 0, 1) := by decide +kernel
theorem dX8_isWithoutPlace_1 : decode cX8_isWithoutPlace 1 = .ok (.iload_n 1, 1) := by decide +kernel
theorem dX8_isWithoutPlace_2 : decode cX8_isWithoutPlace 2 = .ok (.iconst 2, 1) := by decide +kernel
theorem dX8_isWithoutPlace_3 : decode cX8_isWithoutPlace 3 = .ok (.invokevirtual 37, 3) := by decide +kernel
theorem dX8_isWithoutPlace_6 : decode cX8_isWithoutPlace 6 = .ok (.ifCond .eq 28, 3) := by decide +kernel
theorem dX8_isWithoutPlace_9 : decode cX8_isWithoutPlace 9 = .ok (.aload_n 0, 1) := by decide +kernel
theorem dX8_isWithoutPlace_10 : decode cX8_isWithoutPlace 10 = .ok (.iload_n 1, 1) := by decide +kernel
theorem dX8_isWithoutPlace_11 : decode cX8_isWithoutPlace 11 = .ok (.bipush 29, 2) := by decide +kernel
theorem dX8_isWithoutPlace_13 : decode cX8_isWithoutPlace 13 = .ok (.invokevirtual 25, 3) := by decide +kernel
theorem dX8_isWithoutPlace_16 : decode cX8_isWithoutPlace 16 = .ok (.ifCond .ne 18, 3) := by decide +kernel
theorem dX8_isWithoutPlace_19 : decode cX8_isWithoutPlace 19 = .ok (.aload_n 0, 1) := by decide +kernel
theorem dX8_isWithoutPlace_20 : decode cX8_isWithoutPlace 20 = .ok (.iload_n 1, 1) := by decide +kernel
theorem dX8_isWithoutPlace_21 : decode cX8_isWithoutPlace 21 = .ok (.bipush 28, 2) := by decide +kernel
theorem dX8_isWithoutPlace_23 : decode cX8_isWithoutPlace 23 = .ok (.invokevirtual 25, 3) := by decide +kernel
theorem dX8_isWithoutPlace_26 : decode cX8_isWithoutPlace 26 = .ok (.iconst (-1), 1) := by decide +kernel
theorem dX8_isWithoutPlace_27 : decode cX8_isWithoutPlace 27 = .ok (.if_icmp .ne 7, 3) := by decide +kernel
theorem dX8_isWithoutPlace_30 : decode cX8_isWithoutPlace 30 = .ok (.iconst 1, 1) := by decide +kernel
theorem dX8_isWithoutPlace_31 : decode cX8_isWithoutPlace 31 = .ok (.goto 4, 3) := by decide +kernel
theorem dX8_isWithoutPlace_34 : decode cX8_isWithoutPlace 34 = .ok (.iconst 0, 1) := by decide +kernel
theorem dX8_isWithoutPlace_35 : decode cX8_isWithoutPlace 35 = .ok (.ireturn, 1) := by decide +kernel
theorem dX8_serve_0 : decode cX8_serve 0 = .ok (.aload_n 0, 1) := by decide +kernel
theorem dX8_serve_1 : decode cX8_serve 1 = .ok (.iload_n 1, 1) := by decide +kernel
theorem dX8_serve_2 : decode cX8_serve 2 = .ok (.invokevirtual 29, 3) := by decide +kernel
theorem dX8_serve_5 : decode cX8_serve 5 = .ok (.ifCond .ne 5, 3) := by decide +kernel
theorem dX8_serve_8 : decode cX8_serve 8 = .ok (.iconst 1, 1) := by decide +kernel
theorem dX8_serve_9 : decode cX8_serve 9 = .ok (.ireturn, 1) := by decide +kernel
theorem dX8_serve_10 : decode cX8_serve 10 = .ok (.aload_n 0, 1) := by decide +kernel
theorem dX8_serve_11 : decode cX8_serve 11 = .ok (.invokevirtual 41, 3) := by decide +kernel
theorem dX8_serve_14 : decode cX8_serve 14 = .ok (.aload_n 0, 1) := by decide +kernel
theorem dX8_serve_15 : decode cX8_serve 15 = .ok (.aload_n 0, 1) := by decide +kernel
theorem dX8_serve_16 : decode cX8_serve 16 = .ok (.iload_n 1, 1) := by decide +kernel
theorem dX8_serve_17 : decode cX8_serve 17 = .ok (.bipush 24, 2) := by decide +kernel
theorem dX8_serve_19 : decode cX8_serve 19 = .ok (.invokevirtual 25, 3) := by decide +kernel
theorem dX8_serve_22 : decode cX8_serve 22 = .ok (.invokevirtual 45, 3) := by decide +kernel
theorem dX8_serve_25 : decode cX8_serve 25 = .ok (.aload_n 0, 1) := by decide +kernel
theorem dX8_serve_26 : decode cX8_serve 26 = .ok (.aload_n 0, 1) := by decide +kernel
theorem dX8_serve_27 : decode cX8_serve 27 = .ok (.iload_n 1, 1) := by decide +kernel
theorem dX8_serve_28 : decode cX8_serve 28 = .ok (.invokevirtual 48, 3) := by decide +kernel
theorem dX8_serve_31 : decode cX8_serve 31 = .ok (.invokevirtual 52, 3) := by decide +kernel
theorem dX8_serve_34 : decode cX8_serve 34 = .ok (.istore_n 2, 1) := by decide +kernel
theorem dX8_serve_35 : decode cX8_serve 35 = .ok (.iload_n 2, 1) := by decide +kernel
theorem dX8_serve_36 : decode cX8_serve 36 = .ok (.iconst (-1), 1) := by decide +kernel
theorem dX8_serve_37 : decode cX8_serve 37 = .ok (.if_icmp .eq 15, 3) := by decide +kernel
theorem dX8_serve_40 : decode cX8_serve 40 = .ok (.aload_n 0, 1) := by decide +kernel
theorem dX8_serve_41 : decode cX8_serve 41 = .ok (.iload_n 1, 1) := by decide +kernel
theorem dX8_serve_42 : decode cX8_serve 42 = .ok (.bipush 28, 2) := by decide +kernel
theorem dX8_serve_44 : decode cX8_serve 44 = .ok (.iload_n 2, 1) := by decide +kernel
theorem dX8_serve_45 : decode cX8_serve 45 = .ok (.invokevirtual 55, 3) := by decide +kernel
theorem dX8_serve_48 : decode cX8_serve 48 = .ok (.invokestatic 59, 3) := by decide +kernel
theorem dX8_serve_51 : decode cX8_serve 51 = .ok (.ireturn, 1) := by decide +kernel
theorem dX8_serve_52 : decode cX8_serve 52 = .ok (.aload_n 0, 1) := by decide +kernel
theorem dX8_serve_53 : decode cX8_serve 53 = .ok (.iload_n 1, 1) := by decide +kernel
theorem dX8_serve_54 : decode cX8_serve 54 = .ok (.invokevirtual 63, 3) := by decide +kernel
theorem dX8_serve_57 : decode cX8_serve 57 = .ok (.istore_n 3, 1) := by decide +kernel
theorem dX8_serve_58 : decode cX8_serve 58 = .ok (.iconst 1, 1) := by decide +kernel
theorem dX8_serve_59 : decode cX8_serve 59 = .ok (.istore 4, 2) := by decide +kernel
theorem dX8_serve_61 : decode cX8_serve 61 = .ok (.iconst 0, 1) := by decide +kernel
theorem dX8_serve_62 : decode cX8_serve 62 = .ok (.istore 5, 2) := by decide +kernel
theorem dX8_serve_64 : decode cX8_serve 64 = .ok (.iload 5, 2) := by decide +kernel
theorem dX8_serve_66 : decode cX8_serve 66 = .ok (.iload_n 3, 1) := by decide +kernel
theorem dX8_serve_67 : decode cX8_serve 67 = .ok (.if_icmp .ge 27, 3) := by decide +kernel
theorem dX8_serve_70 : decode cX8_serve 70 = .ok (.iload 4, 2) := by decide +kernel
theorem dX8_serve_72 : decode cX8_serve 72 = .ok (.ifCond .eq 22, 3) := by decide +kernel
theorem dX8_serve_75 : decode cX8_serve 75 = .ok (.aload_n 0, 1) := by decide +kernel
theorem dX8_serve_76 : decode cX8_serve 76 = .ok (.aload_n 0, 1) := by decide +kernel
theorem dX8_serve_77 : decode cX8_serve 77 = .ok (.getfield 18, 3) := by decide +kernel
theorem dX8_serve_80 : decode cX8_serve 80 = .ok (.iload 5, 2) := by decide +kernel
theorem dX8_serve_82 : decode cX8_serve 82 = .ok (.iaload, 1) := by decide +kernel
theorem dX8_serve_83 : decode cX8_serve 83 = .ok (.invokevirtual 66, 3) := by decide +kernel
theorem dX8_serve_86 : decode cX8_serve 86 = .ok (.istore 4, 2) := by decide +kernel
theorem dX8_serve_88 : decode cX8_serve 88 = .ok (.iinc 5 1, 3) := by decide +kernel
theorem dX8_serve_91 : decode cX8_serve 91 = .ok (.goto (-27), 3) := by decide +kernel
theorem dX8_serve_94 : decode cX8_serve 94 = .ok (.iconst 3, 1) := by decide +kernel
theorem dX8_serve_95 : decode cX8_serve 95 = .ok (.ireturn, 1) := by decide +kernel
theorem dX8_countUsed_0 : decode cX8_countUsed 0 = .ok (.iconst 0, 1) := by decide +kernel
theorem dX8_countUsed_1 : decode cX8_countUsed 1 = .ok (.istore_n 1, 1) := by decide +kernel
theorem dX8_countUsed_2 : decode cX8_countUsed 2 = .ok (.iload_n 1, 1) := by decide +kernel
theorem dX8_countUsed_3 : decode cX8_countUsed 3 = .ok (.bipush 60, 2) := by decide +kernel
theorem dX8_countUsed_5 : decode cX8_countUsed 5 = .ok (.if_icmp .ge 16, 3) := by decide +kernel
theorem dX8_countUsed_8 : decode cX8_countUsed 8 = .ok (.aload_n 0, 1) := by decide +kernel
theorem dX8_countUsed_9 : decode cX8_countUsed 9 = .ok (.getfield 9, 3) := by decide +kernel
theorem dX8_countUsed_12 : decode cX8_countUsed 12 = .ok (.iload_n 1, 1) := by decide +kernel
theorem dX8_countUsed_13 : decode cX8_countUsed 13 = .ok (.iconst 0, 1) := by decide +kernel
theorem dX8_countUsed_14 : decode cX8_countUsed 14 = .ok (.iastore, 1) := by decide +kernel
theorem dX8_countUsed_15 : decode cX8_countUsed 15 = .ok (.iinc 1 1, 3) := by decide +kernel
theorem dX8_countUsed_18 : decode cX8_countUsed 18 = .ok (.goto (-16), 3) := by decide +kernel
theorem dX8_countUsed_21 : decode cX8_countUsed 21 = .ok (.iconst 0, 1) := by decide +kernel
theorem dX8_countUsed_22 : decode cX8_countUsed 22 = .ok (.istore_n 1, 1) := by decide +kernel
theorem dX8_countUsed_23 : decode cX8_countUsed 23 = .ok (.iload_n 1, 1) := by decide +kernel
theorem dX8_countUsed_24 : decode cX8_countUsed 24 = .ok (.aload_n 0, 1) := by decide +kernel
theorem dX8_countUsed_25 : decode cX8_countUsed 25 = .ok (.getfield 21, 3) := by decide +kernel
theorem dX8_countUsed_28 : decode cX8_countUsed 28 = .ok (.if_icmp .ge 67, 3) := by decide +kernel
theorem dX8_countUsed_31 : decode cX8_countUsed 31 = .ok (.aload_n 0, 1) := by decide +kernel
theorem dX8_countUsed_32 : decode cX8_countUsed 32 = .ok (.iload_n 1, 1) := by decide +kernel
theorem dX8_countUsed_33 : decode cX8_countUsed 33 = .ok (.bipush 28, 2) := by decide +kernel
theorem dX8_countUsed_35 : decode cX8_countUsed 35 = .ok (.invokevirtual 25, 3) := by decide +kernel
theorem dX8_countUsed_38 : decode cX8_countUsed 38 = .ok (.istore_n 2, 1) := by decide +kernel
theorem dX8_countUsed_39 : decode cX8_countUsed 39 = .ok (.aload_n 0, 1) := by decide +kernel
theorem dX8_countUsed_40 : decode cX8_countUsed 40 = .ok (.iload_n 1, 1) := by decide +kernel
theorem dX8_countUsed_41 : decode cX8_countUsed 41 = .ok (.bipush 29, 2) := by decide +kernel
theorem dX8_countUsed_43 : decode cX8_countUsed 43 = .ok (.invokevirtual 25, 3) := by decide +kernel
theorem dX8_countUsed_46 : decode cX8_countUsed 46 = .ok (.istore_n 3, 1) := by decide +kernel
theorem dX8_countUsed_47 : decode cX8_countUsed 47 = .ok (.iload_n 2, 1) := by decide +kernel
theorem dX8_countUsed_48 : decode cX8_countUsed 48 = .ok (.ifCond .lt 41, 3) := by decide +kernel
theorem dX8_countUsed_51 : decode cX8_countUsed 51 = .ok (.iload_n 2, 1) := by decide +kernel
theorem dX8_countUsed_52 : decode cX8_countUsed 52 = .ok (.bipush 60, 2) := by decide +kernel
theorem dX8_countUsed_54 : decode cX8_countUsed 54 = .ok (.if_icmp .ge 35, 3) := by decide +kernel
theorem dX8_countUsed_57 : decode cX8_countUsed 57 = .ok (.aload_n 0, 1) := by decide +kernel
theorem dX8_countUsed_58 : decode cX8_countUsed 58 = .ok (.iload_n 1, 1) := by decide +kernel
theorem dX8_countUsed_59 : decode cX8_countUsed 59 = .ok (.invokevirtual 69, 3) := by decide +kernel
theorem dX8_countUsed_62 : decode cX8_countUsed 62 = .ok (.ifCond .ne 27, 3) := by decide +kernel
theorem dX8_countUsed_65 : decode cX8_countUsed 65 = .ok (.iload_n 3, 1) := by decide +kernel
theorem dX8_countUsed_66 : decode cX8_countUsed 66 = .ok (.iconst 2, 1) := by decide +kernel
theorem dX8_countUsed_67 : decode cX8_countUsed 67 = .ok (.if_icmp .eq 22, 3) := by decide +kernel
theorem dX8_countUsed_70 : decode cX8_countUsed 70 = .ok (.iload_n 3, 1) := by decide +kernel
theorem dX8_countUsed_71 : decode cX8_countUsed 71 = .ok (.iconst 3, 1) := by decide +kernel
theorem dX8_countUsed_72 : decode cX8_countUsed 72 = .ok (.if_icmp .eq 17, 3) := by decide +kernel
theorem dX8_countUsed_75 : decode cX8_countUsed 75 = .ok (.aload_n 0, 1) := by decide +kernel
theorem dX8_countUsed_76 : decode cX8_countUsed 76 = .ok (.getfield 9, 3) := by decide +kernel
theorem dX8_countUsed_79 : decode cX8_countUsed 79 = .ok (.iload_n 2, 1) := by decide +kernel
theorem dX8_countUsed_80 : decode cX8_countUsed 80 = .ok (.dup2, 1) := by decide +kernel
theorem dX8_countUsed_81 : decode cX8_countUsed 81 = .ok (.iaload, 1) := by decide +kernel
theorem dX8_countUsed_82 : decode cX8_countUsed 82 = .ok (.aload_n 0, 1) := by decide +kernel
theorem dX8_countUsed_83 : decode cX8_countUsed 83 = .ok (.iload_n 1, 1) := by decide +kernel
theorem dX8_countUsed_84 : decode cX8_countUsed 84 = .ok (.invokevirtual 48, 3) := by decide +kernel
theorem dX8_countUsed_87 : decode cX8_countUsed 87 = .ok (.iadd, 1) := by decide +kernel
theorem dX8_countUsed_88 : decode cX8_countUsed 88 = .ok (.iastore, 1) := by decide +kernel
theorem dX8_countUsed_89 : decode cX8_countUsed 89 = .ok (.iinc 1 1, 3) := by decide +kernel
theorem dX8_countUsed_92 : decode cX8_countUsed 92 = .ok (.goto (-69), 3) := by decide +kernel
theorem dX8_countUsed_95 : decode cX8_countUsed 95 = .ok (.return_, 1) := by decide +kernel
theorem dX8_countMates_0 : decode cX8_countMates 0 = .ok (.iconst 0, 1) := by decide +kernel
theorem dX8_countMates_1 : decode cX8_countMates 1 = .ok (.istore_n 2, 1) := by decide +kernel
theorem dX8_countMates_2 : decode cX8_countMates 2 = .ok (.iload_n 2, 1) := by decide +kernel
theorem dX8_countMates_3 : decode cX8_countMates 3 = .ok (.iconst 3, 1) := by decide +kernel
theorem dX8_countMates_4 : decode cX8_countMates 4 = .ok (.if_icmp .ge 16, 3) := by decide +kernel
theorem dX8_countMates_7 : decode cX8_countMates 7 = .ok (.aload_n 0, 1) := by decide +kernel
theorem dX8_countMates_8 : decode cX8_countMates 8 = .ok (.getfield 15, 3) := by decide +kernel
theorem dX8_countMates_11 : decode cX8_countMates 11 = .ok (.iload_n 2, 1) := by decide +kernel
theorem dX8_countMates_12 : decode cX8_countMates 12 = .ok (.iconst 0, 1) := by decide +kernel
theorem dX8_countMates_13 : decode cX8_countMates 13 = .ok (.iastore, 1) := by decide +kernel
theorem dX8_countMates_14 : decode cX8_countMates 14 = .ok (.iinc 2 1, 3) := by decide +kernel
theorem dX8_countMates_17 : decode cX8_countMates 17 = .ok (.goto (-15), 3) := by decide +kernel
theorem dX8_countMates_20 : decode cX8_countMates 20 = .ok (.iconst 0, 1) := by decide +kernel
theorem dX8_countMates_21 : decode cX8_countMates 21 = .ok (.istore_n 2, 1) := by decide +kernel
theorem dX8_countMates_22 : decode cX8_countMates 22 = .ok (.iload_n 2, 1) := by decide +kernel
theorem dX8_countMates_23 : decode cX8_countMates 23 = .ok (.aload_n 0, 1) := by decide +kernel
theorem dX8_countMates_24 : decode cX8_countMates 24 = .ok (.getfield 21, 3) := by decide +kernel
theorem dX8_countMates_27 : decode cX8_countMates 27 = .ok (.if_icmp .ge 63, 3) := by decide +kernel
theorem dX8_countMates_30 : decode cX8_countMates 30 = .ok (.aload_n 0, 1) := by decide +kernel
theorem dX8_countMates_31 : decode cX8_countMates 31 = .ok (.iload_n 2, 1) := by decide +kernel
theorem dX8_countMates_32 : decode cX8_countMates 32 = .ok (.bipush 28, 2) := by decide +kernel
theorem dX8_countMates_34 : decode cX8_countMates 34 = .ok (.invokevirtual 25, 3) := by decide +kernel
theorem dX8_countMates_37 : decode cX8_countMates 37 = .ok (.istore_n 3, 1) := by decide +kernel
theorem dX8_countMates_38 : decode cX8_countMates 38 = .ok (.iload_n 3, 1) := by decide +kernel
theorem dX8_countMates_39 : decode cX8_countMates 39 = .ok (.iconst (-1), 1) := by decide +kernel
theorem dX8_countMates_40 : decode cX8_countMates 40 = .ok (.if_icmp .eq 44, 3) := by decide +kernel
theorem dX8_countMates_43 : decode cX8_countMates 43 = .ok (.aload_n 0, 1) := by decide +kernel
theorem dX8_countMates_44 : decode cX8_countMates 44 = .ok (.iload_n 2, 1) := by decide +kernel
theorem dX8_countMates_45 : decode cX8_countMates 45 = .ok (.bipush 24, 2) := by decide +kernel
theorem dX8_countMates_47 : decode cX8_countMates 47 = .ok (.invokevirtual 25, 3) := by decide +kernel
theorem dX8_countMates_50 : decode cX8_countMates 50 = .ok (.iload_n 1, 1) := by decide +kernel
theorem dX8_countMates_51 : decode cX8_countMates 51 = .ok (.if_icmp .ne 33, 3) := by decide +kernel
theorem dX8_countMates_54 : decode cX8_countMates 54 = .ok (.aload_n 0, 1) := by decide +kernel
theorem dX8_countMates_55 : decode cX8_countMates 55 = .ok (.iload_n 2, 1) := by decide +kernel
theorem dX8_countMates_56 : decode cX8_countMates 56 = .ok (.invokevirtual 69, 3) := by decide +kernel
theorem dX8_countMates_59 : decode cX8_countMates 59 = .ok (.ifCond .ne 25, 3) := by decide +kernel
theorem dX8_countMates_62 : decode cX8_countMates 62 = .ok (.aload_n 0, 1) := by decide +kernel
theorem dX8_countMates_63 : decode cX8_countMates 63 = .ok (.iload_n 3, 1) := by decide +kernel
theorem dX8_countMates_64 : decode cX8_countMates 64 = .ok (.invokevirtual 69, 3) := by decide +kernel
theorem dX8_countMates_67 : decode cX8_countMates 67 = .ok (.ifCond .ne 17, 3) := by decide +kernel
theorem dX8_countMates_70 : decode cX8_countMates 70 = .ok (.aload_n 0, 1) := by decide +kernel
theorem dX8_countMates_71 : decode cX8_countMates 71 = .ok (.getfield 15, 3) := by decide +kernel
theorem dX8_countMates_74 : decode cX8_countMates 74 = .ok (.aload_n 0, 1) := by decide +kernel
theorem dX8_countMates_75 : decode cX8_countMates 75 = .ok (.iload_n 3, 1) := by decide +kernel
theorem dX8_countMates_76 : decode cX8_countMates 76 = .ok (.invokevirtual 72, 3) := by decide +kernel
theorem dX8_countMates_79 : decode cX8_countMates 79 = .ok (.dup2, 1) := by decide +kernel
theorem dX8_countMates_80 : decode cX8_countMates 80 = .ok (.iaload, 1) := by decide +kernel
theorem dX8_countMates_81 : decode cX8_countMates 81 = .ok (.iconst 1, 1) := by decide +kernel
theorem dX8_countMates_82 : decode cX8_countMates 82 = .ok (.iadd, 1) := by decide +kernel
theorem dX8_countMates_83 : decode cX8_countMates 83 = .ok (.iastore, 1) := by decide +kernel
theorem dX8_countMates_84 : decode cX8_countMates 84 = .ok (.iinc 2 1, 3) := by decide +kernel
theorem dX8_countMates_87 : decode cX8_countMates 87 = .ok (.goto (-65), 3) := by decide +kernel
theorem dX8_countMates_90 : decode cX8_countMates 90 = .ok (.return_, 1) := by decide +kernel
theorem dX8_zoneOf_0 : decode cX8_zoneOf 0 = .ok (.aload_n 0, 1) := by decide +kernel
theorem dX8_zoneOf_1 : decode cX8_zoneOf 1 = .ok (.iload_n 1, 1) := by decide +kernel
theorem dX8_zoneOf_2 : decode cX8_zoneOf 2 = .ok (.bipush 8, 2) := by decide +kernel
theorem dX8_zoneOf_4 : decode cX8_zoneOf 4 = .ok (.invokevirtual 25, 3) := by decide +kernel
theorem dX8_zoneOf_7 : decode cX8_zoneOf 7 = .ok (.istore_n 2, 1) := by decide +kernel
theorem dX8_zoneOf_8 : decode cX8_zoneOf 8 = .ok (.iload_n 2, 1) := by decide +kernel
theorem dX8_zoneOf_9 : decode cX8_zoneOf 9 = .ok (.ifCond .lt 8, 3) := by decide +kernel
theorem dX8_zoneOf_12 : decode cX8_zoneOf 12 = .ok (.iload_n 2, 1) := by decide +kernel
theorem dX8_zoneOf_13 : decode cX8_zoneOf 13 = .ok (.iconst 3, 1) := by decide +kernel
theorem dX8_zoneOf_14 : decode cX8_zoneOf 14 = .ok (.if_icmp .lt 7, 3) := by decide +kernel
theorem dX8_zoneOf_17 : decode cX8_zoneOf 17 = .ok (.iconst 0, 1) := by decide +kernel
theorem dX8_zoneOf_18 : decode cX8_zoneOf 18 = .ok (.goto 4, 3) := by decide +kernel
theorem dX8_zoneOf_21 : decode cX8_zoneOf 21 = .ok (.iload_n 2, 1) := by decide +kernel
theorem dX8_zoneOf_22 : decode cX8_zoneOf 22 = .ok (.ireturn, 1) := by decide +kernel
theorem dX8_isOpen_0 : decode cX8_isOpen 0 = .ok (.aload_n 0, 1) := by decide +kernel
theorem dX8_isOpen_1 : decode cX8_isOpen 1 = .ok (.iload_n 1, 1) := by decide +kernel
theorem dX8_isOpen_2 : decode cX8_isOpen 2 = .ok (.iconst 4, 1) := by decide +kernel
theorem dX8_isOpen_3 : decode cX8_isOpen 3 = .ok (.invokevirtual 37, 3) := by decide +kernel
theorem dX8_isOpen_6 : decode cX8_isOpen 6 = .ok (.ifCond .eq 28, 3) := by decide +kernel
theorem dX8_isOpen_9 : decode cX8_isOpen 9 = .ok (.aload_n 0, 1) := by decide +kernel
theorem dX8_isOpen_10 : decode cX8_isOpen 10 = .ok (.iload_n 1, 1) := by decide +kernel
theorem dX8_isOpen_11 : decode cX8_isOpen 11 = .ok (.bipush 27, 2) := by decide +kernel
theorem dX8_isOpen_13 : decode cX8_isOpen 13 = .ok (.invokevirtual 25, 3) := by decide +kernel
theorem dX8_isOpen_16 : decode cX8_isOpen 16 = .ok (.iconst 1, 1) := by decide +kernel
theorem dX8_isOpen_17 : decode cX8_isOpen 17 = .ok (.if_icmp .ne 17, 3) := by decide +kernel
theorem dX8_isOpen_20 : decode cX8_isOpen 20 = .ok (.aload_n 0, 1) := by decide +kernel
theorem dX8_isOpen_21 : decode cX8_isOpen 21 = .ok (.iload_n 1, 1) := by decide +kernel
theorem dX8_isOpen_22 : decode cX8_isOpen 22 = .ok (.bipush 9, 2) := by decide +kernel
theorem dX8_isOpen_24 : decode cX8_isOpen 24 = .ok (.invokevirtual 25, 3) := by decide +kernel
theorem dX8_isOpen_27 : decode cX8_isOpen 27 = .ok (.ifCond .ne 7, 3) := by decide +kernel
theorem dX8_isOpen_30 : decode cX8_isOpen 30 = .ok (.iconst 1, 1) := by decide +kernel
theorem dX8_isOpen_31 : decode cX8_isOpen 31 = .ok (.goto 4, 3) := by decide +kernel
theorem dX8_isOpen_34 : decode cX8_isOpen 34 = .ok (.iconst 0, 1) := by decide +kernel
theorem dX8_isOpen_35 : decode cX8_isOpen 35 = .ok (.ireturn, 1) := by decide +kernel
theorem dX8_roomLeft_0 : decode cX8_roomLeft 0 = .ok (.aload_n 0, 1) := by decide +kernel
theorem dX8_roomLeft_1 : decode cX8_roomLeft 1 = .ok (.iload_n 1, 1) := by decide +kernel
theorem dX8_roomLeft_2 : decode cX8_roomLeft 2 = .ok (.bipush 7, 2) := by decide +kernel
theorem dX8_roomLeft_4 : decode cX8_roomLeft 4 = .ok (.invokevirtual 25, 3) := by decide +kernel
theorem dX8_roomLeft_7 : decode cX8_roomLeft 7 = .ok (.aload_n 0, 1) := by decide +kernel
theorem dX8_roomLeft_8 : decode cX8_roomLeft 8 = .ok (.getfield 9, 3) := by decide +kernel
theorem dX8_roomLeft_11 : decode cX8_roomLeft 11 = .ok (.iload_n 1, 1) := by decide +kernel
theorem dX8_roomLeft_12 : decode cX8_roomLeft 12 = .ok (.iaload, 1) := by decide +kernel
theorem dX8_roomLeft_13 : decode cX8_roomLeft 13 = .ok (.isub, 1) := by decide +kernel
theorem dX8_roomLeft_14 : decode cX8_roomLeft 14 = .ok (.ireturn, 1) := by decide +kernel
theorem dX8_bestNode_0 : decode cX8_bestNode 0 = .ok (.iconst (-1), 1) := by decide +kernel
theorem dX8_bestNode_1 : decode cX8_bestNode 1 = .ok (.istore_n 2, 1) := by decide +kernel
theorem dX8_bestNode_2 : decode cX8_bestNode 2 = .ok (.iconst 0, 1) := by decide +kernel
theorem dX8_bestNode_3 : decode cX8_bestNode 3 = .ok (.istore_n 3, 1) := by decide +kernel
theorem dX8_bestNode_4 : decode cX8_bestNode 4 = .ok (.iload_n 3, 1) := by decide +kernel
theorem dX8_bestNode_5 : decode cX8_bestNode 5 = .ok (.aload_n 0, 1) := by decide +kernel
theorem dX8_bestNode_6 : decode cX8_bestNode 6 = .ok (.getfield 21, 3) := by decide +kernel
theorem dX8_bestNode_9 : decode cX8_bestNode 9 = .ok (.if_icmp .ge 42, 3) := by decide +kernel
theorem dX8_bestNode_12 : decode cX8_bestNode 12 = .ok (.aload_n 0, 1) := by decide +kernel
theorem dX8_bestNode_13 : decode cX8_bestNode 13 = .ok (.iload_n 3, 1) := by decide +kernel
theorem dX8_bestNode_14 : decode cX8_bestNode 14 = .ok (.invokevirtual 75, 3) := by decide +kernel
theorem dX8_bestNode_17 : decode cX8_bestNode 17 = .ok (.ifCond .eq 28, 3) := by decide +kernel
theorem dX8_bestNode_20 : decode cX8_bestNode 20 = .ok (.aload_n 0, 1) := by decide +kernel
theorem dX8_bestNode_21 : decode cX8_bestNode 21 = .ok (.iload_n 3, 1) := by decide +kernel
theorem dX8_bestNode_22 : decode cX8_bestNode 22 = .ok (.invokevirtual 78, 3) := by decide +kernel
theorem dX8_bestNode_25 : decode cX8_bestNode 25 = .ok (.iload_n 1, 1) := by decide +kernel
theorem dX8_bestNode_26 : decode cX8_bestNode 26 = .ok (.if_icmp .lt 19, 3) := by decide +kernel
theorem dX8_bestNode_29 : decode cX8_bestNode 29 = .ok (.iload_n 2, 1) := by decide +kernel
theorem dX8_bestNode_30 : decode cX8_bestNode 30 = .ok (.iconst (-1), 1) := by decide +kernel
theorem dX8_bestNode_31 : decode cX8_bestNode 31 = .ok (.if_icmp .eq 12, 3) := by decide +kernel
theorem dX8_bestNode_34 : decode cX8_bestNode 34 = .ok (.aload_n 0, 1) := by decide +kernel
theorem dX8_bestNode_35 : decode cX8_bestNode 35 = .ok (.iload_n 3, 1) := by decide +kernel
theorem dX8_bestNode_36 : decode cX8_bestNode 36 = .ok (.iload_n 2, 1) := by decide +kernel
theorem dX8_bestNode_37 : decode cX8_bestNode 37 = .ok (.invokevirtual 81, 3) := by decide +kernel
theorem dX8_bestNode_40 : decode cX8_bestNode 40 = .ok (.ifCond .eq 5, 3) := by decide +kernel
theorem dX8_bestNode_43 : decode cX8_bestNode 43 = .ok (.iload_n 3, 1) := by decide +kernel
theorem dX8_bestNode_44 : decode cX8_bestNode 44 = .ok (.istore_n 2, 1) := by decide +kernel
theorem dX8_bestNode_45 : decode cX8_bestNode 45 = .ok (.iinc 3 1, 3) := by decide +kernel
theorem dX8_bestNode_48 : decode cX8_bestNode 48 = .ok (.goto (-44), 3) := by decide +kernel
theorem dX8_bestNode_51 : decode cX8_bestNode 51 = .ok (.iload_n 2, 1) := by decide +kernel
theorem dX8_bestNode_52 : decode cX8_bestNode 52 = .ok (.ireturn, 1) := by decide +kernel
theorem dX8_isBetter_0 : decode cX8_isBetter 0 = .ok (.aload_n 0, 1) := by decide +kernel
theorem dX8_isBetter_1 : decode cX8_isBetter 1 = .ok (.getfield 15, 3) := by decide +kernel
theorem dX8_isBetter_4 : decode cX8_isBetter 4 = .ok (.aload_n 0, 1) := by decide +kernel
theorem dX8_isBetter_5 : decode cX8_isBetter 5 = .ok (.iload_n 2, 1) := by decide +kernel
theorem dX8_isBetter_6 : decode cX8_isBetter 6 = .ok (.invokevirtual 72, 3) := by decide +kernel
theorem dX8_isBetter_9 : decode cX8_isBetter 9 = .ok (.iaload, 1) := by decide +kernel
theorem dX8_isBetter_10 : decode cX8_isBetter 10 = .ok (.aload_n 0, 1) := by decide +kernel
theorem dX8_isBetter_11 : decode cX8_isBetter 11 = .ok (.getfield 15, 3) := by decide +kernel
theorem dX8_isBetter_14 : decode cX8_isBetter 14 = .ok (.aload_n 0, 1) := by decide +kernel
theorem dX8_isBetter_15 : decode cX8_isBetter 15 = .ok (.iload_n 1, 1) := by decide +kernel
theorem dX8_isBetter_16 : decode cX8_isBetter 16 = .ok (.invokevirtual 72, 3) := by decide +kernel
theorem dX8_isBetter_19 : decode cX8_isBetter 19 = .ok (.iaload, 1) := by decide +kernel
theorem dX8_isBetter_20 : decode cX8_isBetter 20 = .ok (.isub, 1) := by decide +kernel
theorem dX8_isBetter_21 : decode cX8_isBetter 21 = .ok (.istore_n 3, 1) := by decide +kernel
theorem dX8_isBetter_22 : decode cX8_isBetter 22 = .ok (.iload_n 3, 1) := by decide +kernel
theorem dX8_isBetter_23 : decode cX8_isBetter 23 = .ok (.ifCond .gt 20, 3) := by decide +kernel
theorem dX8_isBetter_26 : decode cX8_isBetter 26 = .ok (.iload_n 3, 1) := by decide +kernel
theorem dX8_isBetter_27 : decode cX8_isBetter 27 = .ok (.ifCond .ne 20, 3) := by decide +kernel
theorem dX8_isBetter_30 : decode cX8_isBetter 30 = .ok (.aload_n 0, 1) := by decide +kernel
theorem dX8_isBetter_31 : decode cX8_isBetter 31 = .ok (.iload_n 1, 1) := by decide +kernel
theorem dX8_isBetter_32 : decode cX8_isBetter 32 = .ok (.invokevirtual 78, 3) := by decide +kernel
theorem dX8_isBetter_35 : decode cX8_isBetter 35 = .ok (.aload_n 0, 1) := by decide +kernel
theorem dX8_isBetter_36 : decode cX8_isBetter 36 = .ok (.iload_n 2, 1) := by decide +kernel
theorem dX8_isBetter_37 : decode cX8_isBetter 37 = .ok (.invokevirtual 78, 3) := by decide +kernel
theorem dX8_isBetter_40 : decode cX8_isBetter 40 = .ok (.if_icmp .le 7, 3) := by decide +kernel
theorem dX8_isBetter_43 : decode cX8_isBetter 43 = .ok (.iconst 1, 1) := by decide +kernel
theorem dX8_isBetter_44 : decode cX8_isBetter 44 = .ok (.goto 4, 3) := by decide +kernel
theorem dX8_isBetter_47 : decode cX8_isBetter 47 = .ok (.iconst 0, 1) := by decide +kernel
theorem dX8_isBetter_48 : decode cX8_isBetter 48 = .ok (.ireturn, 1) := by decide +kernel
theorem dX8_preempt_0 : decode cX8_preempt 0 = .ok (.iconst (-1), 1) := by decide +kernel
theorem dX8_preempt_1 : decode cX8_preempt 1 = .ok (.istore_n 2, 1) := by decide +kernel
theorem dX8_preempt_2 : decode cX8_preempt 2 = .ok (.bipush 61, 2) := by decide +kernel
theorem dX8_preempt_4 : decode cX8_preempt 4 = .ok (.istore_n 3, 1) := by decide +kernel
theorem dX8_preempt_5 : decode cX8_preempt 5 = .ok (.iconst 0, 1) := by decide +kernel
theorem dX8_preempt_6 : decode cX8_preempt 6 = .ok (.istore 4, 2) := by decide +kernel
theorem dX8_preempt_8 : decode cX8_preempt 8 = .ok (.iload 4, 2) := by decide +kernel
theorem dX8_preempt_10 : decode cX8_preempt 10 = .ok (.aload_n 0, 1) := by decide +kernel
theorem dX8_preempt_11 : decode cX8_preempt 11 = .ok (.getfield 21, 3) := by decide +kernel
theorem dX8_preempt_14 : decode cX8_preempt 14 = .ok (.if_icmp .ge 49, 3) := by decide +kernel
theorem dX8_preempt_17 : decode cX8_preempt 17 = .ok (.aload_n 0, 1) := by decide +kernel
theorem dX8_preempt_18 : decode cX8_preempt 18 = .ok (.iload 4, 2) := by decide +kernel
theorem dX8_preempt_20 : decode cX8_preempt 20 = .ok (.invokevirtual 75, 3) := by decide +kernel
theorem dX8_preempt_23 : decode cX8_preempt 23 = .ok (.ifCond .eq 13, 3) := by decide +kernel
theorem dX8_preempt_26 : decode cX8_preempt 26 = .ok (.aload_n 0, 1) := by decide +kernel
theorem dX8_preempt_27 : decode cX8_preempt 27 = .ok (.iload_n 1, 1) := by decide +kernel
theorem dX8_preempt_28 : decode cX8_preempt 28 = .ok (.iload 4, 2) := by decide +kernel
theorem dX8_preempt_30 : decode cX8_preempt 30 = .ok (.invokevirtual 84, 3) := by decide +kernel
theorem dX8_preempt_33 : decode cX8_preempt 33 = .ok (.goto 4, 3) := by decide +kernel
theorem dX8_preempt_36 : decode cX8_preempt 36 = .ok (.iconst (-1), 1) := by decide +kernel
theorem dX8_preempt_37 : decode cX8_preempt 37 = .ok (.istore 5, 2) := by decide +kernel
theorem dX8_preempt_39 : decode cX8_preempt 39 = .ok (.iload 5, 2) := by decide +kernel
theorem dX8_preempt_41 : decode cX8_preempt 41 = .ok (.iconst (-1), 1) := by decide +kernel
theorem dX8_preempt_42 : decode cX8_preempt 42 = .ok (.if_icmp .eq 15, 3) := by decide +kernel
theorem dX8_preempt_45 : decode cX8_preempt 45 = .ok (.iload 5, 2) := by decide +kernel
theorem dX8_preempt_47 : decode cX8_preempt 47 = .ok (.iload_n 3, 1) := by decide +kernel
theorem dX8_preempt_48 : decode cX8_preempt 48 = .ok (.if_icmp .ge 9, 3) := by decide +kernel
theorem dX8_preempt_51 : decode cX8_preempt 51 = .ok (.iload 4, 2) := by decide +kernel
theorem dX8_preempt_53 : decode cX8_preempt 53 = .ok (.istore_n 2, 1) := by decide +kernel
theorem dX8_preempt_54 : decode cX8_preempt 54 = .ok (.iload 5, 2) := by decide +kernel
theorem dX8_preempt_56 : decode cX8_preempt 56 = .ok (.istore_n 3, 1) := by decide +kernel
theorem dX8_preempt_57 : decode cX8_preempt 57 = .ok (.iinc 4 1, 3) := by decide +kernel
theorem dX8_preempt_60 : decode cX8_preempt 60 = .ok (.goto (-52), 3) := by decide +kernel
theorem dX8_preempt_63 : decode cX8_preempt 63 = .ok (.iload_n 2, 1) := by decide +kernel
theorem dX8_preempt_64 : decode cX8_preempt 64 = .ok (.iconst (-1), 1) := by decide +kernel
theorem dX8_preempt_65 : decode cX8_preempt 65 = .ok (.if_icmp .ne 7, 3) := by decide +kernel
theorem dX8_preempt_68 : decode cX8_preempt 68 = .ok (.iconst 0, 1) := by decide +kernel
theorem dX8_preempt_69 : decode cX8_preempt 69 = .ok (.goto 9, 3) := by decide +kernel
theorem dX8_preempt_72 : decode cX8_preempt 72 = .ok (.aload_n 0, 1) := by decide +kernel
theorem dX8_preempt_73 : decode cX8_preempt 73 = .ok (.iload_n 1, 1) := by decide +kernel
theorem dX8_preempt_74 : decode cX8_preempt 74 = .ok (.iload_n 2, 1) := by decide +kernel
theorem dX8_preempt_75 : decode cX8_preempt 75 = .ok (.invokevirtual 84, 3) := by decide +kernel
theorem dX8_preempt_78 : decode cX8_preempt 78 = .ok (.ireturn, 1) := by decide +kernel
theorem dX8_chooseVictims_0 : decode cX8_chooseVictims 0 = .ok (.aload_n 0, 1) := by decide +kernel
theorem dX8_chooseVictims_1 : decode cX8_chooseVictims 1 = .ok (.iload_n 1, 1) := by decide +kernel
theorem dX8_chooseVictims_2 : decode cX8_chooseVictims 2 = .ok (.invokevirtual 48, 3) := by decide +kernel
theorem dX8_chooseVictims_5 : decode cX8_chooseVictims 5 = .ok (.aload_n 0, 1) := by decide +kernel
theorem dX8_chooseVictims_6 : decode cX8_chooseVictims 6 = .ok (.iload_n 2, 1) := by decide +kernel
theorem dX8_chooseVictims_7 : decode cX8_chooseVictims 7 = .ok (.invokevirtual 78, 3) := by decide +kernel
theorem dX8_chooseVictims_10 : decode cX8_chooseVictims 10 = .ok (.isub, 1) := by decide +kernel
theorem dX8_chooseVictims_11 : decode cX8_chooseVictims 11 = .ok (.istore_n 3, 1) := by decide +kernel
theorem dX8_chooseVictims_12 : decode cX8_chooseVictims 12 = .ok (.iconst 0, 1) := by decide +kernel
theorem dX8_chooseVictims_13 : decode cX8_chooseVictims 13 = .ok (.istore 4, 2) := by decide +kernel
theorem dX8_chooseVictims_15 : decode cX8_chooseVictims 15 = .ok (.iconst 0, 1) := by decide +kernel
theorem dX8_chooseVictims_16 : decode cX8_chooseVictims 16 = .ok (.istore 5, 2) := by decide +kernel
theorem dX8_chooseVictims_18 : decode cX8_chooseVictims 18 = .ok (.iload 5, 2) := by decide +kernel
theorem dX8_chooseVictims_20 : decode cX8_chooseVictims 20 = .ok (.aload_n 0, 1) := by decide +kernel
theorem dX8_chooseVictims_21 : decode cX8_chooseVictims 21 = .ok (.iload_n 1, 1) := by decide +kernel
theorem dX8_chooseVictims_22 : decode cX8_chooseVictims 22 = .ok (.invokevirtual 87, 3) := by decide +kernel
theorem dX8_chooseVictims_25 : decode cX8_chooseVictims 25 = .ok (.if_icmp .ge 74, 3) := by decide +kernel
theorem dX8_chooseVictims_28 : decode cX8_chooseVictims 28 = .ok (.aload_n 0, 1) := by decide +kernel
theorem dX8_chooseVictims_29 : decode cX8_chooseVictims 29 = .ok (.getfield 21, 3) := by decide +kernel
theorem dX8_chooseVictims_32 : decode cX8_chooseVictims 32 = .ok (.iconst 1, 1) := by decide +kernel
theorem dX8_chooseVictims_33 : decode cX8_chooseVictims 33 = .ok (.isub, 1) := by decide +kernel
theorem dX8_chooseVictims_34 : decode cX8_chooseVictims 34 = .ok (.istore 6, 2) := by decide +kernel
theorem dX8_chooseVictims_36 : decode cX8_chooseVictims 36 = .ok (.iload 6, 2) := by decide +kernel
theorem dX8_chooseVictims_38 : decode cX8_chooseVictims 38 = .ok (.ifCond .lt 55, 3) := by decide +kernel
theorem dX8_chooseVictims_41 : decode cX8_chooseVictims 41 = .ok (.iload_n 3, 1) := by decide +kernel
theorem dX8_chooseVictims_42 : decode cX8_chooseVictims 42 = .ok (.ifCond .le 51, 3) := by decide +kernel
theorem dX8_chooseVictims_45 : decode cX8_chooseVictims 45 = .ok (.aload_n 0, 1) := by decide +kernel
theorem dX8_chooseVictims_46 : decode cX8_chooseVictims 46 = .ok (.iload 6, 2) := by decide +kernel
theorem dX8_chooseVictims_48 : decode cX8_chooseVictims 48 = .ok (.iload_n 2, 1) := by decide +kernel
theorem dX8_chooseVictims_49 : decode cX8_chooseVictims 49 = .ok (.invokevirtual 90, 3) := by decide +kernel
theorem dX8_chooseVictims_52 : decode cX8_chooseVictims 52 = .ok (.ifCond .eq 35, 3) := by decide +kernel
theorem dX8_chooseVictims_55 : decode cX8_chooseVictims 55 = .ok (.aload_n 0, 1) := by decide +kernel
theorem dX8_chooseVictims_56 : decode cX8_chooseVictims 56 = .ok (.iload 6, 2) := by decide +kernel
theorem dX8_chooseVictims_58 : decode cX8_chooseVictims 58 = .ok (.invokevirtual 87, 3) := by decide +kernel
theorem dX8_chooseVictims_61 : decode cX8_chooseVictims 61 = .ok (.iload 5, 2) := by decide +kernel
theorem dX8_chooseVictims_63 : decode cX8_chooseVictims 63 = .ok (.if_icmp .ne 24, 3) := by decide +kernel
theorem dX8_chooseVictims_66 : decode cX8_chooseVictims 66 = .ok (.aload_n 0, 1) := by decide +kernel
theorem dX8_chooseVictims_67 : decode cX8_chooseVictims 67 = .ok (.getfield 18, 3) := by decide +kernel
theorem dX8_chooseVictims_70 : decode cX8_chooseVictims 70 = .ok (.iload 4, 2) := by decide +kernel
theorem dX8_chooseVictims_72 : decode cX8_chooseVictims 72 = .ok (.iload 6, 2) := by decide +kernel
theorem dX8_chooseVictims_74 : decode cX8_chooseVictims 74 = .ok (.iastore, 1) := by decide +kernel
theorem dX8_chooseVictims_75 : decode cX8_chooseVictims 75 = .ok (.iinc 4 1, 3) := by decide +kernel
theorem dX8_chooseVictims_78 : decode cX8_chooseVictims 78 = .ok (.iload_n 3, 1) := by decide +kernel
theorem dX8_chooseVictims_79 : decode cX8_chooseVictims 79 = .ok (.aload_n 0, 1) := by decide +kernel
theorem dX8_chooseVictims_80 : decode cX8_chooseVictims 80 = .ok (.iload 6, 2) := by decide +kernel
theorem dX8_chooseVictims_82 : decode cX8_chooseVictims 82 = .ok (.invokevirtual 48, 3) := by decide +kernel
theorem dX8_chooseVictims_85 : decode cX8_chooseVictims 85 = .ok (.isub, 1) := by decide +kernel
theorem dX8_chooseVictims_86 : decode cX8_chooseVictims 86 = .ok (.istore_n 3, 1) := by decide +kernel
theorem dX8_chooseVictims_87 : decode cX8_chooseVictims 87 = .ok (.iinc 6 (-1), 3) := by decide +kernel
theorem dX8_chooseVictims_90 : decode cX8_chooseVictims 90 = .ok (.goto (-54), 3) := by decide +kernel
theorem dX8_chooseVictims_93 : decode cX8_chooseVictims 93 = .ok (.iinc 5 1, 3) := by decide +kernel
theorem dX8_chooseVictims_96 : decode cX8_chooseVictims 96 = .ok (.goto (-78), 3) := by decide +kernel
theorem dX8_chooseVictims_99 : decode cX8_chooseVictims 99 = .ok (.iload_n 3, 1) := by decide +kernel
theorem dX8_chooseVictims_100 : decode cX8_chooseVictims 100 = .ok (.ifCond .le 7, 3) := by decide +kernel
theorem dX8_chooseVictims_103 : decode cX8_chooseVictims 103 = .ok (.iconst (-1), 1) := by decide +kernel
theorem dX8_chooseVictims_104 : decode cX8_chooseVictims 104 = .ok (.goto 5, 3) := by decide +kernel
theorem dX8_chooseVictims_107 : decode cX8_chooseVictims 107 = .ok (.iload 4, 2) := by decide +kernel
theorem dX8_chooseVictims_109 : decode cX8_chooseVictims 109 = .ok (.ireturn, 1) := by decide +kernel
theorem dX8_isVictim_0 : decode cX8_isVictim 0 = .ok (.aload_n 0, 1) := by decide +kernel
theorem dX8_isVictim_1 : decode cX8_isVictim 1 = .ok (.iload_n 1, 1) := by decide +kernel
theorem dX8_isVictim_2 : decode cX8_isVictim 2 = .ok (.bipush 29, 2) := by decide +kernel
theorem dX8_isVictim_4 : decode cX8_isVictim 4 = .ok (.invokevirtual 25, 3) := by decide +kernel
theorem dX8_isVictim_7 : decode cX8_isVictim 7 = .ok (.istore_n 3, 1) := by decide +kernel
theorem dX8_isVictim_8 : decode cX8_isVictim 8 = .ok (.aload_n 0, 1) := by decide +kernel
theorem dX8_isVictim_9 : decode cX8_isVictim 9 = .ok (.iload_n 1, 1) := by decide +kernel
theorem dX8_isVictim_10 : decode cX8_isVictim 10 = .ok (.bipush 28, 2) := by decide +kernel
theorem dX8_isVictim_12 : decode cX8_isVictim 12 = .ok (.invokevirtual 25, 3) := by decide +kernel
theorem dX8_isVictim_15 : decode cX8_isVictim 15 = .ok (.iload_n 2, 1) := by decide +kernel
theorem dX8_isVictim_16 : decode cX8_isVictim 16 = .ok (.if_icmp .ne 25, 3) := by decide +kernel
theorem dX8_isVictim_19 : decode cX8_isVictim 19 = .ok (.aload_n 0, 1) := by decide +kernel
theorem dX8_isVictim_20 : decode cX8_isVictim 20 = .ok (.iload_n 1, 1) := by decide +kernel
theorem dX8_isVictim_21 : decode cX8_isVictim 21 = .ok (.iconst 2, 1) := by decide +kernel
theorem dX8_isVictim_22 : decode cX8_isVictim 22 = .ok (.invokevirtual 37, 3) := by decide +kernel
theorem dX8_isVictim_25 : decode cX8_isVictim 25 = .ok (.ifCond .eq 16, 3) := by decide +kernel
theorem dX8_isVictim_28 : decode cX8_isVictim 28 = .ok (.iload_n 3, 1) := by decide +kernel
theorem dX8_isVictim_29 : decode cX8_isVictim 29 = .ok (.ifCond .eq 8, 3) := by decide +kernel
theorem dX8_isVictim_32 : decode cX8_isVictim 32 = .ok (.iload_n 3, 1) := by decide +kernel
theorem dX8_isVictim_33 : decode cX8_isVictim 33 = .ok (.iconst 1, 1) := by decide +kernel
theorem dX8_isVictim_34 : decode cX8_isVictim 34 = .ok (.if_icmp .ne 7, 3) := by decide +kernel
theorem dX8_isVictim_37 : decode cX8_isVictim 37 = .ok (.iconst 1, 1) := by decide +kernel
theorem dX8_isVictim_38 : decode cX8_isVictim 38 = .ok (.goto 4, 3) := by decide +kernel
theorem dX8_isVictim_41 : decode cX8_isVictim 41 = .ok (.iconst 0, 1) := by decide +kernel
theorem dX8_isVictim_42 : decode cX8_isVictim 42 = .ok (.ireturn, 1) := by decide +kernel
theorem dX8_rankOf_0 : decode cX8_rankOf 0 = .ok (.aload_n 0, 1) := by decide +kernel
theorem dX8_rankOf_1 : decode cX8_rankOf 1 = .ok (.iload_n 1, 1) := by decide +kernel
theorem dX8_rankOf_2 : decode cX8_rankOf 2 = .ok (.iconst 1, 1) := by decide +kernel
theorem dX8_rankOf_3 : decode cX8_rankOf 3 = .ok (.invokevirtual 25, 3) := by decide +kernel
theorem dX8_rankOf_6 : decode cX8_rankOf 6 = .ok (.iconst 4, 1) := by decide +kernel
theorem dX8_rankOf_7 : decode cX8_rankOf 7 = .ok (.idiv, 1) := by decide +kernel
theorem dX8_rankOf_8 : decode cX8_rankOf 8 = .ok (.ireturn, 1) := by decide +kernel
theorem dX9_open_0 : decode cX9_open 0 = .ok (.aload_n 0, 1) := by decide +kernel
theorem dX9_open_1 : decode cX9_open 1 = .ok (.getfield 31, 3) := by decide +kernel
theorem dX9_open_4 : decode cX9_open 4 = .ok (.istore 5, 2) := by decide +kernel
theorem dX9_open_6 : decode cX9_open 6 = .ok (.iload 5, 2) := by decide +kernel
theorem dX9_open_8 : decode cX9_open 8 = .ok (.bipush 60, 2) := by decide +kernel
theorem dX9_open_10 : decode cX9_open 10 = .ok (.if_icmp .ge 22, 3) := by decide +kernel
theorem dX9_open_13 : decode cX9_open 13 = .ok (.iload_n 2, 1) := by decide +kernel
theorem dX9_open_14 : decode cX9_open 14 = .ok (.iconst 2, 1) := by decide +kernel
theorem dX9_open_15 : decode cX9_open 15 = .ok (.if_icmp .ne 19, 3) := by decide +kernel
theorem dX9_open_18 : decode cX9_open 18 = .ok (.aload_n 0, 1) := by decide +kernel
theorem dX9_open_19 : decode cX9_open 19 = .ok (.invokevirtual 35, 3) := by decide +kernel
theorem dX9_open_22 : decode cX9_open 22 = .ok (.aload_n 0, 1) := by decide +kernel
theorem dX9_open_23 : decode cX9_open 23 = .ok (.getfield 20, 3) := by decide +kernel
theorem dX9_open_26 : decode cX9_open 26 = .ok (.getfield 39, 3) := by decide +kernel
theorem dX9_open_29 : decode cX9_open 29 = .ok (.if_icmp .lt 5, 3) := by decide +kernel
theorem dX9_open_32 : decode cX9_open 32 = .ok (.iconst (-1), 1) := by decide +kernel
theorem dX9_open_33 : decode cX9_open 33 = .ok (.ireturn, 1) := by decide +kernel
theorem dX9_open_34 : decode cX9_open 34 = .ok (.aload_n 0, 1) := by decide +kernel
theorem dX9_open_35 : decode cX9_open 35 = .ok (.iload_n 1, 1) := by decide +kernel
theorem dX9_open_36 : decode cX9_open 36 = .ok (.iload_n 2, 1) := by decide +kernel
theorem dX9_open_37 : decode cX9_open 37 = .ok (.invokevirtual 42, 3) := by decide +kernel
theorem dX9_open_40 : decode cX9_open 40 = .ok (.aload_n 0, 1) := by decide +kernel
theorem dX9_open_41 : decode cX9_open 41 = .ok (.getfield 28, 3) := by decide +kernel
theorem dX9_open_44 : decode cX9_open 44 = .ok (.bipush 22, 2) := by decide +kernel
theorem dX9_open_46 : decode cX9_open 46 = .ok (.iload 5, 2) := by decide +kernel
theorem dX9_open_48 : decode cX9_open 48 = .ok (.iastore, 1) := by decide +kernel
theorem dX9_open_49 : decode cX9_open 49 = .ok (.aload_n 0, 1) := by decide +kernel
theorem dX9_open_50 : decode cX9_open 50 = .ok (.getfield 28, 3) := by decide +kernel
theorem dX9_open_53 : decode cX9_open 53 = .ok (.bipush 24, 2) := by decide +kernel
theorem dX9_open_55 : decode cX9_open 55 = .ok (.iload_n 3, 1) := by decide +kernel
theorem dX9_open_56 : decode cX9_open 56 = .ok (.iastore, 1) := by decide +kernel
theorem dX9_open_57 : decode cX9_open 57 = .ok (.aload_n 0, 1) := by decide +kernel
theorem dX9_open_58 : decode cX9_open 58 = .ok (.getfield 28, 3) := by decide +kernel
theorem dX9_open_61 : decode cX9_open 61 = .ok (.iconst 1, 1) := by decide +kernel
theorem dX9_open_62 : decode cX9_open 62 = .ok (.iload 4, 2) := by decide +kernel
theorem dX9_open_64 : decode cX9_open 64 = .ok (.iastore, 1) := by decide +kernel
theorem dX9_open_65 : decode cX9_open 65 = .ok (.aload_n 0, 1) := by decide +kernel
theorem dX9_open_66 : decode cX9_open 66 = .ok (.getfield 20, 3) := by decide +kernel
theorem dX9_open_69 : decode cX9_open 69 = .ok (.aload_n 0, 1) := by decide +kernel
theorem dX9_open_70 : decode cX9_open 70 = .ok (.getfield 28, 3) := by decide +kernel
theorem dX9_open_73 : decode cX9_open 73 = .ok (.invokevirtual 46, 3) := by decide +kernel
theorem dX9_open_76 : decode cX9_open 76 = .ok (.ifCond .eq 26, 3) := by decide +kernel
theorem dX9_open_79 : decode cX9_open 79 = .ok (.aload_n 0, 1) := by decide +kernel
theorem dX9_open_80 : decode cX9_open 80 = .ok (.getfield 20, 3) := by decide +kernel
theorem dX9_open_83 : decode cX9_open 83 = .ok (.aload_n 0, 1) := by decide +kernel
theorem dX9_open_84 : decode cX9_open 84 = .ok (.getfield 28, 3) := by decide +kernel
theorem dX9_open_87 : decode cX9_open 87 = .ok (.invokevirtual 50, 3) := by decide +kernel
theorem dX9_open_90 : decode cX9_open 90 = .ok (.ifCond .eq 12, 3) := by decide +kernel
theorem dX9_open_93 : decode cX9_open 93 = .ok (.aload_n 0, 1) := by decide +kernel
theorem dX9_open_94 : decode cX9_open 94 = .ok (.iload 5, 2) := by decide +kernel
theorem dX9_open_96 : decode cX9_open 96 = .ok (.invokevirtual 53, 3) := by decide +kernel
theorem dX9_open_99 : decode cX9_open 99 = .ok (.ifCond .ne 5, 3) := by decide +kernel
theorem dX9_open_102 : decode cX9_open 102 = .ok (.iconst (-1), 1) := by decide +kernel
theorem dX9_open_103 : decode cX9_open 103 = .ok (.ireturn, 1) := by decide +kernel
theorem dX9_open_104 : decode cX9_open 104 = .ok (.aload_n 0, 1) := by decide +kernel
theorem dX9_open_105 : decode cX9_open 105 = .ok (.getfield 24, 3) := by decide +kernel
theorem dX9_open_108 : decode cX9_open 108 = .ok (.iload 5, 2) := by decide +kernel
theorem dX9_open_110 : decode cX9_open 110 = .ok (.aload_n 0, 1) := by decide +kernel
theorem dX9_open_111 : decode cX9_open 111 = .ok (.getfield 57, 3) := by decide +kernel
theorem dX9_open_114 : decode cX9_open 114 = .ok (.iastore, 1) := by decide +kernel
theorem dX9_open_115 : decode cX9_open 115 = .ok (.iload 5, 2) := by decide +kernel
theorem dX9_open_117 : decode cX9_open 117 = .ok (.ireturn, 1) := by decide +kernel
theorem dX9_draftNew_0 : decode cX9_draftNew 0 = .ok (.iconst 0, 1) := by decide +kernel
theorem dX9_draftNew_1 : decode cX9_draftNew 1 = .ok (.istore_n 3, 1) := by decide +kernel
theorem dX9_draftNew_2 : decode cX9_draftNew 2 = .ok (.iload_n 3, 1) := by decide +kernel
theorem dX9_draftNew_3 : decode cX9_draftNew 3 = .ok (.bipush 11, 2) := by decide +kernel
theorem dX9_draftNew_5 : decode cX9_draftNew 5 = .ok (.if_icmp .ge 30, 3) := by decide +kernel
theorem dX9_draftNew_8 : decode cX9_draftNew 8 = .ok (.aload_n 0, 1) := by decide +kernel
theorem dX9_draftNew_9 : decode cX9_draftNew 9 = .ok (.getfield 28, 3) := by decide +kernel
theorem dX9_draftNew_12 : decode cX9_draftNew 12 = .ok (.iload_n 3, 1) := by decide +kernel
theorem dX9_draftNew_13 : decode cX9_draftNew 13 = .ok (.getstatic 60, 3) := by decide +kernel
theorem dX9_draftNew_16 : decode cX9_draftNew 16 = .ok (.iload_n 3, 1) := by decide +kernel
theorem dX9_draftNew_17 : decode cX9_draftNew 17 = .ok (.iaload, 1) := by decide +kernel
theorem dX9_draftNew_18 : decode cX9_draftNew 18 = .ok (.iastore, 1) := by decide +kernel
theorem dX9_draftNew_19 : decode cX9_draftNew 19 = .ok (.aload_n 0, 1) := by decide +kernel
theorem dX9_draftNew_20 : decode cX9_draftNew 20 = .ok (.getfield 28, 3) := by decide +kernel
theorem dX9_draftNew_23 : decode cX9_draftNew 23 = .ok (.bipush 11, 2) := by decide +kernel
theorem dX9_draftNew_25 : decode cX9_draftNew 25 = .ok (.iload_n 3, 1) := by decide +kernel
theorem dX9_draftNew_26 : decode cX9_draftNew 26 = .ok (.iadd, 1) := by decide +kernel
theorem dX9_draftNew_27 : decode cX9_draftNew 27 = .ok (.iload_n 1, 1) := by decide +kernel
theorem dX9_draftNew_28 : decode cX9_draftNew 28 = .ok (.iastore, 1) := by decide +kernel
theorem dX9_draftNew_29 : decode cX9_draftNew 29 = .ok (.iinc 3 1, 3) := by decide +kernel
theorem dX9_draftNew_32 : decode cX9_draftNew 32 = .ok (.goto (-30), 3) := by decide +kernel
theorem dX9_draftNew_35 : decode cX9_draftNew 35 = .ok (.aload_n 0, 1) := by decide +kernel
theorem dX9_draftNew_36 : decode cX9_draftNew 36 = .ok (.getfield 28, 3) := by decide +kernel
theorem dX9_draftNew_39 : decode cX9_draftNew 39 = .ok (.bipush 23, 2) := by decide +kernel
theorem dX9_draftNew_41 : decode cX9_draftNew 41 = .ok (.iload_n 2, 1) := by decide +kernel
theorem dX9_draftNew_42 : decode cX9_draftNew 42 = .ok (.iastore, 1) := by decide +kernel
theorem dX9_draftNew_43 : decode cX9_draftNew 43 = .ok (.aload_n 0, 1) := by decide +kernel
theorem dX9_draftNew_44 : decode cX9_draftNew 44 = .ok (.getfield 28, 3) := by decide +kernel
theorem dX9_draftNew_47 : decode cX9_draftNew 47 = .ok (.bipush 25, 2) := by decide +kernel
theorem dX9_draftNew_49 : decode cX9_draftNew 49 = .ok (.iconst 0, 1) := by decide +kernel
theorem dX9_draftNew_50 : decode cX9_draftNew 50 = .ok (.iastore, 1) := by decide +kernel
theorem dX9_draftNew_51 : decode cX9_draftNew 51 = .ok (.aload_n 0, 1) := by decide +kernel
theorem dX9_draftNew_52 : decode cX9_draftNew 52 = .ok (.getfield 28, 3) := by decide +kernel
theorem dX9_draftNew_55 : decode cX9_draftNew 55 = .ok (.bipush 26, 2) := by decide +kernel
theorem dX9_draftNew_57 : decode cX9_draftNew 57 = .ok (.iconst 0, 1) := by decide +kernel
theorem dX9_draftNew_58 : decode cX9_draftNew 58 = .ok (.iastore, 1) := by decide +kernel
theorem dX9_draftNew_59 : decode cX9_draftNew 59 = .ok (.aload_n 0, 1) := by decide +kernel
theorem dX9_draftNew_60 : decode cX9_draftNew 60 = .ok (.getfield 28, 3) := by decide +kernel
theorem dX9_draftNew_63 : decode cX9_draftNew 63 = .ok (.bipush 27, 2) := by decide +kernel
theorem dX9_draftNew_65 : decode cX9_draftNew 65 = .ok (.iconst 1, 1) := by decide +kernel
theorem dX9_draftNew_66 : decode cX9_draftNew 66 = .ok (.iastore, 1) := by decide +kernel
theorem dX9_draftNew_67 : decode cX9_draftNew 67 = .ok (.aload_n 0, 1) := by decide +kernel
theorem dX9_draftNew_68 : decode cX9_draftNew 68 = .ok (.getfield 28, 3) := by decide +kernel
theorem dX9_draftNew_71 : decode cX9_draftNew 71 = .ok (.bipush 28, 2) := by decide +kernel
theorem dX9_draftNew_73 : decode cX9_draftNew 73 = .ok (.iconst (-1), 1) := by decide +kernel
theorem dX9_draftNew_74 : decode cX9_draftNew 74 = .ok (.iastore, 1) := by decide +kernel
theorem dX9_draftNew_75 : decode cX9_draftNew 75 = .ok (.aload_n 0, 1) := by decide +kernel
theorem dX9_draftNew_76 : decode cX9_draftNew 76 = .ok (.getfield 28, 3) := by decide +kernel
theorem dX9_draftNew_79 : decode cX9_draftNew 79 = .ok (.bipush 29, 2) := by decide +kernel
theorem dX9_draftNew_81 : decode cX9_draftNew 81 = .ok (.iconst 0, 1) := by decide +kernel
theorem dX9_draftNew_82 : decode cX9_draftNew 82 = .ok (.iastore, 1) := by decide +kernel
theorem dX9_draftNew_83 : decode cX9_draftNew 83 = .ok (.aload_n 0, 1) := by decide +kernel
theorem dX9_draftNew_84 : decode cX9_draftNew 84 = .ok (.getfield 28, 3) := by decide +kernel
theorem dX9_draftNew_87 : decode cX9_draftNew 87 = .ok (.bipush 30, 2) := by decide +kernel
theorem dX9_draftNew_89 : decode cX9_draftNew 89 = .ok (.iconst 0, 1) := by decide +kernel
theorem dX9_draftNew_90 : decode cX9_draftNew 90 = .ok (.iastore, 1) := by decide +kernel
theorem dX9_draftNew_91 : decode cX9_draftNew 91 = .ok (.aload_n 0, 1) := by decide +kernel
theorem dX9_draftNew_92 : decode cX9_draftNew 92 = .ok (.getfield 28, 3) := by decide +kernel
theorem dX9_draftNew_95 : decode cX9_draftNew 95 = .ok (.bipush 31, 2) := by decide +kernel
theorem dX9_draftNew_97 : decode cX9_draftNew 97 = .ok (.iconst 0, 1) := by decide +kernel
theorem dX9_draftNew_98 : decode cX9_draftNew 98 = .ok (.iastore, 1) := by decide +kernel
theorem dX9_draftNew_99 : decode cX9_draftNew 99 = .ok (.return_, 1) := by decide +kernel
theorem dX9_livingPods_0 : decode cX9_livingPods 0 = .ok (.iconst 0, 1) := by decide +kernel
theorem dX9_livingPods_1 : decode cX9_livingPods 1 = .ok (.istore_n 1, 1) := by decide +kernel
theorem dX9_livingPods_2 : decode cX9_livingPods 2 = .ok (.iconst 0, 1) := by decide +kernel
theorem dX9_livingPods_3 : decode cX9_livingPods 3 = .ok (.istore_n 2, 1) := by decide +kernel
theorem dX9_livingPods_4 : decode cX9_livingPods 4 = .ok (.iload_n 2, 1) := by decide +kernel
theorem dX9_livingPods_5 : decode cX9_livingPods 5 = .ok (.aload_n 0, 1) := by decide +kernel
theorem dX9_livingPods_6 : decode cX9_livingPods 6 = .ok (.getfield 31, 3) := by decide +kernel
theorem dX9_livingPods_9 : decode cX9_livingPods 9 = .ok (.if_icmp .ge 39, 3) := by decide +kernel
theorem dX9_livingPods_12 : decode cX9_livingPods 12 = .ok (.iload_n 1, 1) := by decide +kernel
theorem dX9_livingPods_13 : decode cX9_livingPods 13 = .ok (.aload_n 0, 1) := by decide +kernel
theorem dX9_livingPods_14 : decode cX9_livingPods 14 = .ok (.iload_n 2, 1) := by decide +kernel
theorem dX9_livingPods_15 : decode cX9_livingPods 15 = .ok (.bipush 23, 2) := by decide +kernel
theorem dX9_livingPods_17 : decode cX9_livingPods 17 = .ok (.invokevirtual 63, 3) := by decide +kernel
theorem dX9_livingPods_20 : decode cX9_livingPods 20 = .ok (.iconst 2, 1) := by decide +kernel
theorem dX9_livingPods_21 : decode cX9_livingPods 21 = .ok (.if_icmp .ne 18, 3) := by decide +kernel
theorem dX9_livingPods_24 : decode cX9_livingPods 24 = .ok (.aload_n 0, 1) := by decide +kernel
theorem dX9_livingPods_25 : decode cX9_livingPods 25 = .ok (.iload_n 2, 1) := by decide +kernel
theorem dX9_livingPods_26 : decode cX9_livingPods 26 = .ok (.bipush 25, 2) := by decide +kernel
theorem dX9_livingPods_28 : decode cX9_livingPods 28 = .ok (.invokevirtual 63, 3) := by decide +kernel
theorem dX9_livingPods_31 : decode cX9_livingPods 31 = .ok (.iconst 4, 1) := by decide +kernel
theorem dX9_livingPods_32 : decode cX9_livingPods 32 = .ok (.if_icmp .eq 7, 3) := by decide +kernel
theorem dX9_livingPods_35 : decode cX9_livingPods 35 = .ok (.iconst 1, 1) := by decide +kernel
theorem dX9_livingPods_36 : decode cX9_livingPods 36 = .ok (.goto 4, 3) := by decide +kernel
theorem dX9_livingPods_39 : decode cX9_livingPods 39 = .ok (.iconst 0, 1) := by decide +kernel
theorem dX9_livingPods_40 : decode cX9_livingPods 40 = .ok (.iadd, 1) := by decide +kernel
theorem dX9_livingPods_41 : decode cX9_livingPods 41 = .ok (.istore_n 1, 1) := by decide +kernel
theorem dX9_livingPods_42 : decode cX9_livingPods 42 = .ok (.iinc 2 1, 3) := by decide +kernel
theorem dX9_livingPods_45 : decode cX9_livingPods 45 = .ok (.goto (-41), 3) := by decide +kernel
theorem dX9_livingPods_48 : decode cX9_livingPods 48 = .ok (.iload_n 1, 1) := by decide +kernel
theorem dX9_livingPods_49 : decode cX9_livingPods 49 = .ok (.ireturn, 1) := by decide +kernel
theorem dX9_applyField_0 : decode cX9_applyField 0 = .ok (.aload_n 0, 1) := by decide +kernel
theorem dX9_applyField_1 : decode cX9_applyField 1 = .ok (.iload_n 2, 1) := by decide +kernel
theorem dX9_applyField_2 : decode cX9_applyField 2 = .ok (.bipush 23, 2) := by decide +kernel
theorem dX9_applyField_4 : decode cX9_applyField 4 = .ok (.invokevirtual 63, 3) := by decide +kernel
theorem dX9_applyField_7 : decode cX9_applyField 7 = .ok (.iload_n 3, 1) := by decide +kernel
theorem dX9_applyField_8 : decode cX9_applyField 8 = .ok (.invokestatic 67, 3) := by decide +kernel
theorem dX9_applyField_11 : decode cX9_applyField 11 = .ok (.ifCond .ne 5, 3) := by decide +kernel
theorem dX9_applyField_14 : decode cX9_applyField 14 = .ok (.iconst 0, 1) := by decide +kernel
theorem dX9_applyField_15 : decode cX9_applyField 15 = .ok (.ireturn, 1) := by decide +kernel
theorem dX9_applyField_16 : decode cX9_applyField 16 = .ok (.aload_n 0, 1) := by decide +kernel
theorem dX9_applyField_17 : decode cX9_applyField 17 = .ok (.iload_n 2, 1) := by decide +kernel
theorem dX9_applyField_18 : decode cX9_applyField 18 = .ok (.invokevirtual 71, 3) := by decide +kernel
theorem dX9_applyField_21 : decode cX9_applyField 21 = .ok (.aload_n 0, 1) := by decide +kernel
theorem dX9_applyField_22 : decode cX9_applyField 22 = .ok (.getfield 28, 3) := by decide +kernel
theorem dX9_applyField_25 : decode cX9_applyField 25 = .ok (.iload_n 3, 1) := by decide +kernel
theorem dX9_applyField_26 : decode cX9_applyField 26 = .ok (.iload 4, 2) := by decide +kernel
theorem dX9_applyField_28 : decode cX9_applyField 28 = .ok (.iastore, 1) := by decide +kernel
theorem dX9_applyField_29 : decode cX9_applyField 29 = .ok (.aload_n 0, 1) := by decide +kernel
theorem dX9_applyField_30 : decode cX9_applyField 30 = .ok (.getfield 28, 3) := by decide +kernel
theorem dX9_applyField_33 : decode cX9_applyField 33 = .ok (.bipush 11, 2) := by decide +kernel
theorem dX9_applyField_35 : decode cX9_applyField 35 = .ok (.iload_n 3, 1) := by decide +kernel
theorem dX9_applyField_36 : decode cX9_applyField 36 = .ok (.iadd, 1) := by decide +kernel
theorem dX9_applyField_37 : decode cX9_applyField 37 = .ok (.iload_n 1, 1) := by decide +kernel
theorem dX9_applyField_38 : decode cX9_applyField 38 = .ok (.iastore, 1) := by decide +kernel
theorem dX9_applyField_39 : decode cX9_applyField 39 = .ok (.aload_n 0, 1) := by decide +kernel
theorem dX9_applyField_40 : decode cX9_applyField 40 = .ok (.getfield 20, 3) := by decide +kernel
theorem dX9_applyField_43 : decode cX9_applyField 43 = .ok (.aload_n 0, 1) := by decide +kernel
theorem dX9_applyField_44 : decode cX9_applyField 44 = .ok (.getfield 28, 3) := by decide +kernel
theorem dX9_applyField_47 : decode cX9_applyField 47 = .ok (.invokevirtual 46, 3) := by decide +kernel
theorem dX9_applyField_50 : decode cX9_applyField 50 = .ok (.ifCond .eq 29, 3) := by decide +kernel
theorem dX9_applyField_53 : decode cX9_applyField 53 = .ok (.aload_n 0, 1) := by decide +kernel
theorem dX9_applyField_54 : decode cX9_applyField 54 = .ok (.getfield 20, 3) := by decide +kernel
theorem dX9_applyField_57 : decode cX9_applyField 57 = .ok (.aload_n 0, 1) := by decide +kernel
theorem dX9_applyField_58 : decode cX9_applyField 58 = .ok (.getfield 28, 3) := by decide +kernel
theorem dX9_applyField_61 : decode cX9_applyField 61 = .ok (.invokevirtual 50, 3) := by decide +kernel
theorem dX9_applyField_64 : decode cX9_applyField 64 = .ok (.ifCond .eq 15, 3) := by decide +kernel
theorem dX9_applyField_67 : decode cX9_applyField 67 = .ok (.aload_n 0, 1) := by decide +kernel
theorem dX9_applyField_68 : decode cX9_applyField 68 = .ok (.iload_n 2, 1) := by decide +kernel
theorem dX9_applyField_69 : decode cX9_applyField 69 = .ok (.invokevirtual 53, 3) := by decide +kernel
theorem dX9_applyField_72 : decode cX9_applyField 72 = .ok (.ifCond .eq 7, 3) := by decide +kernel
theorem dX9_applyField_75 : decode cX9_applyField 75 = .ok (.iconst 1, 1) := by decide +kernel
theorem dX9_applyField_76 : decode cX9_applyField 76 = .ok (.goto 4, 3) := by decide +kernel
theorem dX9_applyField_79 : decode cX9_applyField 79 = .ok (.iconst 0, 1) := by decide +kernel
theorem dX9_applyField_80 : decode cX9_applyField 80 = .ok (.ireturn, 1) := by decide +kernel
theorem dX9_applyBoth_0 : decode cX9_applyBoth 0 = .ok (.aload_n 0, 1) := by decide +kernel
theorem dX9_applyBoth_1 : decode cX9_applyBoth 1 = .ok (.iload_n 2, 1) := by decide +kernel
theorem dX9_applyBoth_2 : decode cX9_applyBoth 2 = .ok (.invokevirtual 71, 3) := by decide +kernel
theorem dX9_applyBoth_5 : decode cX9_applyBoth 5 = .ok (.aload_n 0, 1) := by decide +kernel
theorem dX9_applyBoth_6 : decode cX9_applyBoth 6 = .ok (.getfield 28, 3) := by decide +kernel
theorem dX9_applyBoth_9 : decode cX9_applyBoth 9 = .ok (.iconst 2, 1) := by decide +kernel
theorem dX9_applyBoth_10 : decode cX9_applyBoth 10 = .ok (.iload_n 3, 1) := by decide +kernel
theorem dX9_applyBoth_11 : decode cX9_applyBoth 11 = .ok (.iastore, 1) := by decide +kernel
theorem dX9_applyBoth_12 : decode cX9_applyBoth 12 = .ok (.aload_n 0, 1) := by decide +kernel
theorem dX9_applyBoth_13 : decode cX9_applyBoth 13 = .ok (.getfield 28, 3) := by decide +kernel
theorem dX9_applyBoth_16 : decode cX9_applyBoth 16 = .ok (.iconst 3, 1) := by decide +kernel
theorem dX9_applyBoth_17 : decode cX9_applyBoth 17 = .ok (.iload 4, 2) := by decide +kernel
theorem dX9_applyBoth_19 : decode cX9_applyBoth 19 = .ok (.iastore, 1) := by decide +kernel
theorem dX9_applyBoth_20 : decode cX9_applyBoth 20 = .ok (.aload_n 0, 1) := by decide +kernel
theorem dX9_applyBoth_21 : decode cX9_applyBoth 21 = .ok (.getfield 28, 3) := by decide +kernel
theorem dX9_applyBoth_24 : decode cX9_applyBoth 24 = .ok (.bipush 13, 2) := by decide +kernel
theorem dX9_applyBoth_26 : decode cX9_applyBoth 26 = .ok (.iload_n 1, 1) := by decide +kernel
theorem dX9_applyBoth_27 : decode cX9_applyBoth 27 = .ok (.iastore, 1) := by decide +kernel
theorem dX9_applyBoth_28 : decode cX9_applyBoth 28 = .ok (.aload_n 0, 1) := by decide +kernel
theorem dX9_applyBoth_29 : decode cX9_applyBoth 29 = .ok (.getfield 28, 3) := by decide +kernel
theorem dX9_applyBoth_32 : decode cX9_applyBoth 32 = .ok (.bipush 14, 2) := by decide +kernel
theorem dX9_applyBoth_34 : decode cX9_applyBoth 34 = .ok (.iload_n 1, 1) := by decide +kernel
theorem dX9_applyBoth_35 : decode cX9_applyBoth 35 = .ok (.iastore, 1) := by decide +kernel
theorem dX9_applyBoth_36 : decode cX9_applyBoth 36 = .ok (.aload_n 0, 1) := by decide +kernel
theorem dX9_applyBoth_37 : decode cX9_applyBoth 37 = .ok (.getfield 20, 3) := by decide +kernel
theorem dX9_applyBoth_40 : decode cX9_applyBoth 40 = .ok (.aload_n 0, 1) := by decide +kernel
theorem dX9_applyBoth_41 : decode cX9_applyBoth 41 = .ok (.getfield 28, 3) := by decide +kernel
theorem dX9_applyBoth_44 : decode cX9_applyBoth 44 = .ok (.invokevirtual 46, 3) := by decide +kernel
theorem dX9_applyBoth_47 : decode cX9_applyBoth 47 = .ok (.ifCond .eq 29, 3) := by decide +kernel
theorem dX9_applyBoth_50 : decode cX9_applyBoth 50 = .ok (.aload_n 0, 1) := by decide +kernel
theorem dX9_applyBoth_51 : decode cX9_applyBoth 51 = .ok (.getfield 20, 3) := by decide +kernel
theorem dX9_applyBoth_54 : decode cX9_applyBoth 54 = .ok (.aload_n 0, 1) := by decide +kernel
theorem dX9_applyBoth_55 : decode cX9_applyBoth 55 = .ok (.getfield 28, 3) := by decide +kernel
theorem dX9_applyBoth_58 : decode cX9_applyBoth 58 = .ok (.invokevirtual 50, 3) := by decide +kernel
theorem dX9_applyBoth_61 : decode cX9_applyBoth 61 = .ok (.ifCond .eq 15, 3) := by decide +kernel
theorem dX9_applyBoth_64 : decode cX9_applyBoth 64 = .ok (.aload_n 0, 1) := by decide +kernel
theorem dX9_applyBoth_65 : decode cX9_applyBoth 65 = .ok (.iload_n 2, 1) := by decide +kernel
theorem dX9_applyBoth_66 : decode cX9_applyBoth 66 = .ok (.invokevirtual 53, 3) := by decide +kernel
theorem dX9_applyBoth_69 : decode cX9_applyBoth 69 = .ok (.ifCond .eq 7, 3) := by decide +kernel
theorem dX9_applyBoth_72 : decode cX9_applyBoth 72 = .ok (.iconst 1, 1) := by decide +kernel
theorem dX9_applyBoth_73 : decode cX9_applyBoth 73 = .ok (.goto 4, 3) := by decide +kernel
theorem dX9_applyBoth_76 : decode cX9_applyBoth 76 = .ok (.iconst 0, 1) := by decide +kernel
theorem dX9_applyBoth_77 : decode cX9_applyBoth 77 = .ok (.ireturn, 1) := by decide +kernel
theorem dX9_startGoing_0 : decode cX9_startGoing 0 = .ok (.aload_n 0, 1) := by decide +kernel
theorem dX9_startGoing_1 : decode cX9_startGoing 1 = .ok (.iload_n 1, 1) := by decide +kernel
theorem dX9_startGoing_2 : decode cX9_startGoing 2 = .ok (.invokevirtual 71, 3) := by decide +kernel
theorem dX9_startGoing_5 : decode cX9_startGoing 5 = .ok (.aload_n 0, 1) := by decide +kernel
theorem dX9_startGoing_6 : decode cX9_startGoing 6 = .ok (.getfield 28, 3) := by decide +kernel
theorem dX9_startGoing_9 : decode cX9_startGoing 9 = .ok (.bipush 25, 2) := by decide +kernel
theorem dX9_startGoing_11 : decode cX9_startGoing 11 = .ok (.iload_n 2, 1) := by decide +kernel
theorem dX9_startGoing_12 : decode cX9_startGoing 12 = .ok (.iconst 2, 1) := by decide +kernel
theorem dX9_startGoing_13 : decode cX9_startGoing 13 = .ok (.if_icmp .ne 15, 3) := by decide +kernel
theorem dX9_startGoing_16 : decode cX9_startGoing 16 = .ok (.aload_n 0, 1) := by decide +kernel
theorem dX9_startGoing_17 : decode cX9_startGoing 17 = .ok (.iload_n 1, 1) := by decide +kernel
theorem dX9_startGoing_18 : decode cX9_startGoing 18 = .ok (.invokevirtual 75, 3) := by decide +kernel
theorem dX9_startGoing_21 : decode cX9_startGoing 21 = .ok (.ifCond .ne 7, 3) := by decide +kernel
theorem dX9_startGoing_24 : decode cX9_startGoing 24 = .ok (.iconst 4, 1) := by decide +kernel
theorem dX9_startGoing_25 : decode cX9_startGoing 25 = .ok (.goto 4, 3) := by decide +kernel
theorem dX9_startGoing_28 : decode cX9_startGoing 28 = .ok (.iload_n 2, 1) := by decide +kernel
theorem dX9_startGoing_29 : decode cX9_startGoing 29 = .ok (.iastore, 1) := by decide +kernel
theorem dX9_startGoing_30 : decode cX9_startGoing 30 = .ok (.aload_n 0, 1) := by decide +kernel
theorem dX9_startGoing_31 : decode cX9_startGoing 31 = .ok (.iload_n 1, 1) := by decide +kernel
theorem dX9_startGoing_32 : decode cX9_startGoing 32 = .ok (.invokevirtual 53, 3) := by decide +kernel
theorem dX9_startGoing_35 : decode cX9_startGoing 35 = .ok (.ireturn, 1) := by decide +kernel
theorem dX9_change_0 : decode cX9_change 0 = .ok (.iload_n 2, 1) := by decide +kernel
theorem dX9_change_1 : decode cX9_change 1 = .ok (.ifCond .lt 9, 3) := by decide +kernel
theorem dX9_change_4 : decode cX9_change 4 = .ok (.iload_n 2, 1) := by decide +kernel
theorem dX9_change_5 : decode cX9_change 5 = .ok (.bipush 32, 2) := by decide +kernel
theorem dX9_change_7 : decode cX9_change 7 = .ok (.if_icmp .lt 5, 3) := by decide +kernel
theorem dX9_change_10 : decode cX9_change 10 = .ok (.iconst 0, 1) := by decide +kernel
theorem dX9_change_11 : decode cX9_change 11 = .ok (.ireturn, 1) := by decide +kernel
theorem dX9_change_12 : decode cX9_change 12 = .ok (.aload_n 0, 1) := by decide +kernel
theorem dX9_change_13 : decode cX9_change 13 = .ok (.iload_n 1, 1) := by decide +kernel
theorem dX9_change_14 : decode cX9_change 14 = .ok (.invokevirtual 71, 3) := by decide +kernel
theorem dX9_change_17 : decode cX9_change 17 = .ok (.aload_n 0, 1) := by decide +kernel
theorem dX9_change_18 : decode cX9_change 18 = .ok (.getfield 28, 3) := by decide +kernel
theorem dX9_change_21 : decode cX9_change 21 = .ok (.iload_n 2, 1) := by decide +kernel
theorem dX9_change_22 : decode cX9_change 22 = .ok (.iload_n 3, 1) := by decide +kernel
theorem dX9_change_23 : decode cX9_change 23 = .ok (.iastore, 1) := by decide +kernel
theorem dX9_change_24 : decode cX9_change 24 = .ok (.aload_n 0, 1) := by decide +kernel
theorem dX9_change_25 : decode cX9_change 25 = .ok (.iload_n 1, 1) := by decide +kernel
theorem dX9_change_26 : decode cX9_change 26 = .ok (.invokevirtual 53, 3) := by decide +kernel
theorem dX9_change_29 : decode cX9_change 29 = .ok (.ireturn, 1) := by decide +kernel
theorem dX9_changeBoth_0 : decode cX9_changeBoth 0 = .ok (.iload_n 2, 1) := by decide +kernel
theorem dX9_changeBoth_1 : decode cX9_changeBoth 1 = .ok (.ifCond .lt 21, 3) := by decide +kernel
theorem dX9_changeBoth_4 : decode cX9_changeBoth 4 = .ok (.iload_n 2, 1) := by decide +kernel
theorem dX9_changeBoth_5 : decode cX9_changeBoth 5 = .ok (.bipush 32, 2) := by decide +kernel
theorem dX9_changeBoth_7 : decode cX9_changeBoth 7 = .ok (.if_icmp .ge 15, 3) := by decide +kernel
theorem dX9_changeBoth_10 : decode cX9_changeBoth 10 = .ok (.iload 4, 2) := by decide +kernel
theorem dX9_changeBoth_12 : decode cX9_changeBoth 12 = .ok (.ifCond .lt 10, 3) := by decide +kernel
theorem dX9_changeBoth_15 : decode cX9_changeBoth 15 = .ok (.iload 4, 2) := by decide +kernel
theorem dX9_changeBoth_17 : decode cX9_changeBoth 17 = .ok (.bipush 32, 2) := by decide +kernel
theorem dX9_changeBoth_19 : decode cX9_changeBoth 19 = .ok (.if_icmp .lt 5, 3) := by decide +kernel
theorem dX9_changeBoth_22 : decode cX9_changeBoth 22 = .ok (.iconst 0, 1) := by decide +kernel
theorem dX9_changeBoth_23 : decode cX9_changeBoth 23 = .ok (.ireturn, 1) := by decide +kernel
theorem dX9_changeBoth_24 : decode cX9_changeBoth 24 = .ok (.aload_n 0, 1) := by decide +kernel
theorem dX9_changeBoth_25 : decode cX9_changeBoth 25 = .ok (.iload_n 1, 1) := by decide +kernel
theorem dX9_changeBoth_26 : decode cX9_changeBoth 26 = .ok (.invokevirtual 71, 3) := by decide +kernel
theorem dX9_changeBoth_29 : decode cX9_changeBoth 29 = .ok (.aload_n 0, 1) := by decide +kernel
theorem dX9_changeBoth_30 : decode cX9_changeBoth 30 = .ok (.getfield 28, 3) := by decide +kernel
theorem dX9_changeBoth_33 : decode cX9_changeBoth 33 = .ok (.iload_n 2, 1) := by decide +kernel
theorem dX9_changeBoth_34 : decode cX9_changeBoth 34 = .ok (.iload_n 3, 1) := by decide +kernel
theorem dX9_changeBoth_35 : decode cX9_changeBoth 35 = .ok (.iastore, 1) := by decide +kernel
theorem dX9_changeBoth_36 : decode cX9_changeBoth 36 = .ok (.aload_n 0, 1) := by decide +kernel
theorem dX9_changeBoth_37 : decode cX9_changeBoth 37 = .ok (.getfield 28, 3) := by decide +kernel
theorem dX9_changeBoth_40 : decode cX9_changeBoth 40 = .ok (.iload 4, 2) := by decide +kernel
theorem dX9_changeBoth_42 : decode cX9_changeBoth 42 = .ok (.iload 5, 2) := by decide +kernel
theorem dX9_changeBoth_44 : decode cX9_changeBoth 44 = .ok (.iastore, 1) := by decide +kernel
theorem dX9_changeBoth_45 : decode cX9_changeBoth 45 = .ok (.aload_n 0, 1) := by decide +kernel
theorem dX9_changeBoth_46 : decode cX9_changeBoth 46 = .ok (.iload_n 1, 1) := by decide +kernel
theorem dX9_changeBoth_47 : decode cX9_changeBoth 47 = .ok (.invokevirtual 53, 3) := by decide +kernel
theorem dX9_changeBoth_50 : decode cX9_changeBoth 50 = .ok (.ireturn, 1) := by decide +kernel
theorem dX9_draftFrom_0 : decode cX9_draftFrom 0 = .ok (.aload_n 0, 1) := by decide +kernel
theorem dX9_draftFrom_1 : decode cX9_draftFrom 1 = .ok (.getfield 78, 3) := by decide +kernel
theorem dX9_draftFrom_4 : decode cX9_draftFrom 4 = .ok (.aload_n 0, 1) := by decide +kernel
theorem dX9_draftFrom_5 : decode cX9_draftFrom 5 = .ok (.iload_n 1, 1) := by decide +kernel
theorem dX9_draftFrom_6 : decode cX9_draftFrom 6 = .ok (.invokevirtual 81, 3) := by decide +kernel
theorem dX9_draftFrom_9 : decode cX9_draftFrom 9 = .ok (.bipush 32, 2) := by decide +kernel
theorem dX9_draftFrom_11 : decode cX9_draftFrom 11 = .ok (.imul, 1) := by decide +kernel
theorem dX9_draftFrom_12 : decode cX9_draftFrom 12 = .ok (.aload_n 0, 1) := by decide +kernel
theorem dX9_draftFrom_13 : decode cX9_draftFrom 13 = .ok (.getfield 28, 3) := by decide +kernel
theorem dX9_draftFrom_16 : decode cX9_draftFrom 16 = .ok (.iconst 0, 1) := by decide +kernel
theorem dX9_draftFrom_17 : decode cX9_draftFrom 17 = .ok (.bipush 32, 2) := by decide +kernel
theorem dX9_draftFrom_19 : decode cX9_draftFrom 19 = .ok (.invokestatic 85, 3) := by decide +kernel
theorem dX9_draftFrom_22 : decode cX9_draftFrom 22 = .ok (.return_, 1) := by decide +kernel
theorem dX9_write_0 : decode cX9_write 0 = .ok (.aload_n 0, 1) := by decide +kernel
theorem dX9_write_1 : decode cX9_write 1 = .ok (.getfield 28, 3) := by decide +kernel
theorem dX9_write_4 : decode cX9_write 4 = .ok (.bipush 25, 2) := by decide +kernel
theorem dX9_write_6 : decode cX9_write 6 = .ok (.iaload, 1) := by decide +kernel
theorem dX9_write_7 : decode cX9_write 7 = .ok (.iconst 4, 1) := by decide +kernel
theorem dX9_write_8 : decode cX9_write 8 = .ok (.if_icmp .ne 11, 3) := by decide +kernel
theorem dX9_write_11 : decode cX9_write 11 = .ok (.aload_n 0, 1) := by decide +kernel
theorem dX9_write_12 : decode cX9_write 12 = .ok (.getfield 28, 3) := by decide +kernel
theorem dX9_write_15 : decode cX9_write 15 = .ok (.bipush 24, 2) := by decide +kernel
theorem dX9_write_17 : decode cX9_write 17 = .ok (.iconst (-1), 1) := by decide +kernel
theorem dX9_write_18 : decode cX9_write 18 = .ok (.iastore, 1) := by decide +kernel
theorem dX9_write_19 : decode cX9_write 19 = .ok (.aload_n 0, 1) := by decide +kernel
theorem dX9_write_20 : decode cX9_write 20 = .ok (.aload_n 0, 1) := by decide +kernel
theorem dX9_write_21 : decode cX9_write 21 = .ok (.iload_n 1, 1) := by decide +kernel
theorem dX9_write_22 : decode cX9_write 22 = .ok (.invokevirtual 81, 3) := by decide +kernel
theorem dX9_write_25 : decode cX9_write 25 = .ok (.invokevirtual 91, 3) := by decide +kernel
theorem dX9_write_28 : decode cX9_write 28 = .ok (.ifCond .eq 5, 3) := by decide +kernel
theorem dX9_write_31 : decode cX9_write 31 = .ok (.iconst 1, 1) := by decide +kernel
theorem dX9_write_32 : decode cX9_write 32 = .ok (.ireturn, 1) := by decide +kernel
theorem dX9_write_33 : decode cX9_write 33 = .ok (.aload_n 0, 1) := by decide +kernel
theorem dX9_write_34 : decode cX9_write 34 = .ok (.getfield 94, 3) := by decide +kernel
theorem dX9_write_37 : decode cX9_write 37 = .ok (.sipush 400, 3) := by decide +kernel
theorem dX9_write_40 : decode cX9_write 40 = .ok (.if_icmp .lt 5, 3) := by decide +kernel
theorem dX9_write_43 : decode cX9_write 43 = .ok (.iconst 0, 1) := by decide +kernel
theorem dX9_write_44 : decode cX9_write 44 = .ok (.ireturn, 1) := by decide +kernel
theorem dX9_write_45 : decode cX9_write 45 = .ok (.aload_n 0, 1) := by decide +kernel
theorem dX9_write_46 : decode cX9_write 46 = .ok (.getfield 28, 3) := by decide +kernel
theorem dX9_write_49 : decode cX9_write 49 = .ok (.iconst 0, 1) := by decide +kernel
theorem dX9_write_50 : decode cX9_write 50 = .ok (.aload_n 0, 1) := by decide +kernel
theorem dX9_write_51 : decode cX9_write 51 = .ok (.getfield 78, 3) := by decide +kernel
theorem dX9_write_54 : decode cX9_write 54 = .ok (.aload_n 0, 1) := by decide +kernel
theorem dX9_write_55 : decode cX9_write 55 = .ok (.getfield 94, 3) := by decide +kernel
theorem dX9_write_58 : decode cX9_write 58 = .ok (.iconst 1, 1) := by decide +kernel
theorem dX9_write_59 : decode cX9_write 59 = .ok (.iadd, 1) := by decide +kernel
theorem dX9_write_60 : decode cX9_write 60 = .ok (.bipush 32, 2) := by decide +kernel
theorem dX9_write_62 : decode cX9_write 62 = .ok (.imul, 1) := by decide +kernel
theorem dX9_write_63 : decode cX9_write 63 = .ok (.bipush 32, 2) := by decide +kernel
theorem dX9_write_65 : decode cX9_write 65 = .ok (.invokestatic 85, 3) := by decide +kernel
theorem dX9_write_68 : decode cX9_write 68 = .ok (.aload_n 0, 1) := by decide +kernel
theorem dX9_write_69 : decode cX9_write 69 = .ok (.iload_n 1, 1) := by decide +kernel
theorem dX9_write_70 : decode cX9_write 70 = .ok (.aload_n 0, 1) := by decide +kernel
theorem dX9_write_71 : decode cX9_write 71 = .ok (.getfield 94, 3) := by decide +kernel
theorem dX9_write_74 : decode cX9_write 74 = .ok (.iconst 1, 1) := by decide +kernel
theorem dX9_write_75 : decode cX9_write 75 = .ok (.iadd, 1) := by decide +kernel
theorem dX9_write_76 : decode cX9_write 76 = .ok (.invokevirtual 97, 3) := by decide +kernel
theorem dX9_write_79 : decode cX9_write 79 = .ok (.iconst 1, 1) := by decide +kernel
theorem dX9_write_80 : decode cX9_write 80 = .ok (.ireturn, 1) := by decide +kernel
theorem dX9_isDraftAs_0 : decode cX9_isDraftAs 0 = .ok (.iconst 0, 1) := by decide +kernel
theorem dX9_isDraftAs_1 : decode cX9_isDraftAs 1 = .ok (.istore_n 2, 1) := by decide +kernel
theorem dX9_isDraftAs_2 : decode cX9_isDraftAs 2 = .ok (.iload_n 2, 1) := by decide +kernel
theorem dX9_isDraftAs_3 : decode cX9_isDraftAs 3 = .ok (.bipush 32, 2) := by decide +kernel
theorem dX9_isDraftAs_5 : decode cX9_isDraftAs 5 = .ok (.if_icmp .ge 31, 3) := by decide +kernel
theorem dX9_isDraftAs_8 : decode cX9_isDraftAs 8 = .ok (.aload_n 0, 1) := by decide +kernel
theorem dX9_isDraftAs_9 : decode cX9_isDraftAs 9 = .ok (.getfield 28, 3) := by decide +kernel
theorem dX9_isDraftAs_12 : decode cX9_isDraftAs 12 = .ok (.iload_n 2, 1) := by decide +kernel
theorem dX9_isDraftAs_13 : decode cX9_isDraftAs 13 = .ok (.iaload, 1) := by decide +kernel
theorem dX9_isDraftAs_14 : decode cX9_isDraftAs 14 = .ok (.aload_n 0, 1) := by decide +kernel
theorem dX9_isDraftAs_15 : decode cX9_isDraftAs 15 = .ok (.getfield 78, 3) := by decide +kernel
theorem dX9_isDraftAs_18 : decode cX9_isDraftAs 18 = .ok (.iload_n 1, 1) := by decide +kernel
theorem dX9_isDraftAs_19 : decode cX9_isDraftAs 19 = .ok (.bipush 32, 2) := by decide +kernel
theorem dX9_isDraftAs_21 : decode cX9_isDraftAs 21 = .ok (.imul, 1) := by decide +kernel
theorem dX9_isDraftAs_22 : decode cX9_isDraftAs 22 = .ok (.iload_n 2, 1) := by decide +kernel
theorem dX9_isDraftAs_23 : decode cX9_isDraftAs 23 = .ok (.iadd, 1) := by decide +kernel
theorem dX9_isDraftAs_24 : decode cX9_isDraftAs 24 = .ok (.iaload, 1) := by decide +kernel
theorem dX9_isDraftAs_25 : decode cX9_isDraftAs 25 = .ok (.if_icmp .eq 5, 3) := by decide +kernel
theorem dX9_isDraftAs_28 : decode cX9_isDraftAs 28 = .ok (.iconst 0, 1) := by decide +kernel
theorem dX9_isDraftAs_29 : decode cX9_isDraftAs 29 = .ok (.ireturn, 1) := by decide +kernel
theorem dX9_isDraftAs_30 : decode cX9_isDraftAs 30 = .ok (.iinc 2 1, 3) := by decide +kernel
theorem dX9_isDraftAs_33 : decode cX9_isDraftAs 33 = .ok (.goto (-31), 3) := by decide +kernel
theorem dX9_isDraftAs_36 : decode cX9_isDraftAs 36 = .ok (.iconst 1, 1) := by decide +kernel
theorem dX9_isDraftAs_37 : decode cX9_isDraftAs 37 = .ok (.ireturn, 1) := by decide +kernel
theorem dX9_beginTick_0 : decode cX9_beginTick 0 = .ok (.aload_n 0, 1) := by decide +kernel
theorem dX9_beginTick_1 : decode cX9_beginTick 1 = .ok (.dup, 1) := by decide +kernel
theorem dX9_beginTick_2 : decode cX9_beginTick 2 = .ok (.getfield 57, 3) := by decide +kernel
theorem dX9_beginTick_5 : decode cX9_beginTick 5 = .ok (.iconst 1, 1) := by decide +kernel
theorem dX9_beginTick_6 : decode cX9_beginTick 6 = .ok (.iadd, 1) := by decide +kernel
theorem dX9_beginTick_7 : decode cX9_beginTick 7 = .ok (.putfield 57, 3) := by decide +kernel
theorem dX9_beginTick_10 : decode cX9_beginTick 10 = .ok (.iconst 0, 1) := by decide +kernel
theorem dX9_beginTick_11 : decode cX9_beginTick 11 = .ok (.istore_n 1, 1) := by decide +kernel
theorem dX9_beginTick_12 : decode cX9_beginTick 12 = .ok (.iload_n 1, 1) := by decide +kernel
theorem dX9_beginTick_13 : decode cX9_beginTick 13 = .ok (.aload_n 0, 1) := by decide +kernel
theorem dX9_beginTick_14 : decode cX9_beginTick 14 = .ok (.getfield 31, 3) := by decide +kernel
theorem dX9_beginTick_17 : decode cX9_beginTick 17 = .ok (.if_icmp .ge 53, 3) := by decide +kernel
theorem dX9_beginTick_20 : decode cX9_beginTick 20 = .ok (.aload_n 0, 1) := by decide +kernel
theorem dX9_beginTick_21 : decode cX9_beginTick 21 = .ok (.iload_n 1, 1) := by decide +kernel
theorem dX9_beginTick_22 : decode cX9_beginTick 22 = .ok (.bipush 23, 2) := by decide +kernel
theorem dX9_beginTick_24 : decode cX9_beginTick 24 = .ok (.invokevirtual 63, 3) := by decide +kernel
theorem dX9_beginTick_27 : decode cX9_beginTick 27 = .ok (.iconst 4, 1) := by decide +kernel
theorem dX9_beginTick_28 : decode cX9_beginTick 28 = .ok (.if_icmp .ne 36, 3) := by decide +kernel
theorem dX9_beginTick_31 : decode cX9_beginTick 31 = .ok (.aload_n 0, 1) := by decide +kernel
theorem dX9_beginTick_32 : decode cX9_beginTick 32 = .ok (.iload_n 1, 1) := by decide +kernel
theorem dX9_beginTick_33 : decode cX9_beginTick 33 = .ok (.invokevirtual 100, 3) := by decide +kernel
theorem dX9_beginTick_36 : decode cX9_beginTick 36 = .ok (.ifCond .ne 28, 3) := by decide +kernel
theorem dX9_beginTick_39 : decode cX9_beginTick 39 = .ok (.aload_n 0, 1) := by decide +kernel
theorem dX9_beginTick_40 : decode cX9_beginTick 40 = .ok (.getfield 57, 3) := by decide +kernel
theorem dX9_beginTick_43 : decode cX9_beginTick 43 = .ok (.aload_n 0, 1) := by decide +kernel
theorem dX9_beginTick_44 : decode cX9_beginTick 44 = .ok (.getfield 24, 3) := by decide +kernel
theorem dX9_beginTick_47 : decode cX9_beginTick 47 = .ok (.iload_n 1, 1) := by decide +kernel
theorem dX9_beginTick_48 : decode cX9_beginTick 48 = .ok (.iaload, 1) := by decide +kernel
theorem dX9_beginTick_49 : decode cX9_beginTick 49 = .ok (.isub, 1) := by decide +kernel
theorem dX9_beginTick_50 : decode cX9_beginTick 50 = .ok (.bipush 20, 2) := by decide +kernel
theorem dX9_beginTick_52 : decode cX9_beginTick 52 = .ok (.if_icmp .le 12, 3) := by decide +kernel
theorem dX9_beginTick_55 : decode cX9_beginTick 55 = .ok (.aload_n 0, 1) := by decide +kernel
theorem dX9_beginTick_56 : decode cX9_beginTick 56 = .ok (.iload_n 1, 1) := by decide +kernel
theorem dX9_beginTick_57 : decode cX9_beginTick 57 = .ok (.bipush 27, 2) := by decide +kernel
theorem dX9_beginTick_59 : decode cX9_beginTick 59 = .ok (.iconst 0, 1) := by decide +kernel
theorem dX9_beginTick_60 : decode cX9_beginTick 60 = .ok (.invokevirtual 103, 3) := by decide +kernel
theorem dX9_beginTick_63 : decode cX9_beginTick 63 = .ok (.pop, 1) := by decide +kernel
theorem dX9_beginTick_64 : decode cX9_beginTick 64 = .ok (.iinc 1 1, 3) := by decide +kernel
theorem dX9_beginTick_67 : decode cX9_beginTick 67 = .ok (.goto (-55), 3) := by decide +kernel
theorem dX9_beginTick_70 : decode cX9_beginTick 70 = .ok (.return_, 1) := by decide +kernel
theorem dX10_read_0 : decode cX10_read 0 = .ok (.iload_n 1, 1) := by decide +kernel
theorem dX10_read_1 : decode cX10_read 1 = .ok (.ifCond .lt 19, 3) := by decide +kernel
theorem dX10_read_4 : decode cX10_read 4 = .ok (.iload_n 1, 1) := by decide +kernel
theorem dX10_read_5 : decode cX10_read 5 = .ok (.bipush 60, 2) := by decide +kernel
theorem dX10_read_7 : decode cX10_read 7 = .ok (.if_icmp .ge 13, 3) := by decide +kernel
theorem dX10_read_10 : decode cX10_read 10 = .ok (.iload_n 2, 1) := by decide +kernel
theorem dX10_read_11 : decode cX10_read 11 = .ok (.ifCond .lt 9, 3) := by decide +kernel
theorem dX10_read_14 : decode cX10_read 14 = .ok (.iload_n 2, 1) := by decide +kernel
theorem dX10_read_15 : decode cX10_read 15 = .ok (.bipush 32, 2) := by decide +kernel
theorem dX10_read_17 : decode cX10_read 17 = .ok (.if_icmp .lt 5, 3) := by decide +kernel
theorem dX10_read_20 : decode cX10_read 20 = .ok (.iconst (-1), 1) := by decide +kernel
theorem dX10_read_21 : decode cX10_read 21 = .ok (.ireturn, 1) := by decide +kernel
theorem dX10_read_22 : decode cX10_read 22 = .ok (.aload_n 0, 1) := by decide +kernel
theorem dX10_read_23 : decode cX10_read 23 = .ok (.getfield 9, 3) := by decide +kernel
theorem dX10_read_26 : decode cX10_read 26 = .ok (.aload_n 0, 1) := by decide +kernel
theorem dX10_read_27 : decode cX10_read 27 = .ok (.getfield 15, 3) := by decide +kernel
theorem dX10_read_30 : decode cX10_read 30 = .ok (.iload_n 1, 1) := by decide +kernel
theorem dX10_read_31 : decode cX10_read 31 = .ok (.iaload, 1) := by decide +kernel
theorem dX10_read_32 : decode cX10_read 32 = .ok (.bipush 32, 2) := by decide +kernel
theorem dX10_read_34 : decode cX10_read 34 = .ok (.imul, 1) := by decide +kernel
theorem dX10_read_35 : decode cX10_read 35 = .ok (.iload_n 2, 1) := by decide +kernel
theorem dX10_read_36 : decode cX10_read 36 = .ok (.iadd, 1) := by decide +kernel
theorem dX10_read_37 : decode cX10_read 37 = .ok (.iaload, 1) := by decide +kernel
theorem dX10_read_38 : decode cX10_read 38 = .ok (.ireturn, 1) := by decide +kernel
theorem dX10_latestOf_0 : decode cX10_latestOf 0 = .ok (.iload_n 1, 1) := by decide +kernel
theorem dX10_latestOf_1 : decode cX10_latestOf 1 = .ok (.ifCond .lt 9, 3) := by decide +kernel
theorem dX10_latestOf_4 : decode cX10_latestOf 4 = .ok (.iload_n 1, 1) := by decide +kernel
theorem dX10_latestOf_5 : decode cX10_latestOf 5 = .ok (.bipush 60, 2) := by decide +kernel
theorem dX10_latestOf_7 : decode cX10_latestOf 7 = .ok (.if_icmp .lt 7, 3) := by decide +kernel
theorem dX10_latestOf_10 : decode cX10_latestOf 10 = .ok (.iconst 0, 1) := by decide +kernel
theorem dX10_latestOf_11 : decode cX10_latestOf 11 = .ok (.goto 9, 3) := by decide +kernel
theorem dX10_latestOf_14 : decode cX10_latestOf 14 = .ok (.aload_n 0, 1) := by decide +kernel
theorem dX10_latestOf_15 : decode cX10_latestOf 15 = .ok (.getfield 15, 3) := by decide +kernel
theorem dX10_latestOf_18 : decode cX10_latestOf 18 = .ok (.iload_n 1, 1) := by decide +kernel
theorem dX10_latestOf_19 : decode cX10_latestOf 19 = .ok (.iaload, 1) := by decide +kernel
theorem dX10_latestOf_20 : decode cX10_latestOf 20 = .ok (.ireturn, 1) := by decide +kernel
theorem dX10_objectAt_0 : decode cX10_objectAt 0 = .ok (.iload_n 1, 1) := by decide +kernel
theorem dX10_objectAt_1 : decode cX10_objectAt 1 = .ok (.iconst 1, 1) := by decide +kernel
theorem dX10_objectAt_2 : decode cX10_objectAt 2 = .ok (.if_icmp .lt 10, 3) := by decide +kernel
theorem dX10_objectAt_5 : decode cX10_objectAt 5 = .ok (.iload_n 1, 1) := by decide +kernel
theorem dX10_objectAt_6 : decode cX10_objectAt 6 = .ok (.sipush 400, 3) := by decide +kernel
theorem dX10_objectAt_9 : decode cX10_objectAt 9 = .ok (.if_icmp .le 7, 3) := by decide +kernel
theorem dX10_objectAt_12 : decode cX10_objectAt 12 = .ok (.iconst (-1), 1) := by decide +kernel
theorem dX10_objectAt_13 : decode cX10_objectAt 13 = .ok (.goto 15, 3) := by decide +kernel
theorem dX10_objectAt_16 : decode cX10_objectAt 16 = .ok (.aload_n 0, 1) := by decide +kernel
theorem dX10_objectAt_17 : decode cX10_objectAt 17 = .ok (.getfield 9, 3) := by decide +kernel
theorem dX10_objectAt_20 : decode cX10_objectAt 20 = .ok (.iload_n 1, 1) := by decide +kernel
theorem dX10_objectAt_21 : decode cX10_objectAt 21 = .ok (.bipush 32, 2) := by decide +kernel
theorem dX10_objectAt_23 : decode cX10_objectAt 23 = .ok (.imul, 1) := by decide +kernel
theorem dX10_objectAt_24 : decode cX10_objectAt 24 = .ok (.bipush 22, 2) := by decide +kernel
theorem dX10_objectAt_26 : decode cX10_objectAt 26 = .ok (.iadd, 1) := by decide +kernel
theorem dX10_objectAt_27 : decode cX10_objectAt 27 = .ok (.iaload, 1) := by decide +kernel
theorem dX10_objectAt_28 : decode cX10_objectAt 28 = .ok (.ireturn, 1) := by decide +kernel
theorem dX10_takeIn_0 : decode cX10_takeIn 0 = .ok (.iload_n 1, 1) := by decide +kernel
theorem dX10_takeIn_1 : decode cX10_takeIn 1 = .ok (.ifCond .lt 21, 3) := by decide +kernel
theorem dX10_takeIn_4 : decode cX10_takeIn 4 = .ok (.iload_n 1, 1) := by decide +kernel
theorem dX10_takeIn_5 : decode cX10_takeIn 5 = .ok (.bipush 60, 2) := by decide +kernel
theorem dX10_takeIn_7 : decode cX10_takeIn 7 = .ok (.if_icmp .ge 15, 3) := by decide +kernel
theorem dX10_takeIn_10 : decode cX10_takeIn 10 = .ok (.iload_n 2, 1) := by decide +kernel
theorem dX10_takeIn_11 : decode cX10_takeIn 11 = .ok (.iconst 1, 1) := by decide +kernel
theorem dX10_takeIn_12 : decode cX10_takeIn 12 = .ok (.if_icmp .lt 10, 3) := by decide +kernel
theorem dX10_takeIn_15 : decode cX10_takeIn 15 = .ok (.iload_n 2, 1) := by decide +kernel
theorem dX10_takeIn_16 : decode cX10_takeIn 16 = .ok (.sipush 400, 3) := by decide +kernel
theorem dX10_takeIn_19 : decode cX10_takeIn 19 = .ok (.if_icmp .le 4, 3) := by decide +kernel
theorem dX10_takeIn_22 : decode cX10_takeIn 22 = .ok (.return_, 1) := by decide +kernel
theorem dX10_takeIn_23 : decode cX10_takeIn 23 = .ok (.aload_n 0, 1) := by decide +kernel
theorem dX10_takeIn_24 : decode cX10_takeIn 24 = .ok (.getfield 15, 3) := by decide +kernel
theorem dX10_takeIn_27 : decode cX10_takeIn 27 = .ok (.iload_n 1, 1) := by decide +kernel
theorem dX10_takeIn_28 : decode cX10_takeIn 28 = .ok (.iload_n 2, 1) := by decide +kernel
theorem dX10_takeIn_29 : decode cX10_takeIn 29 = .ok (.iastore, 1) := by decide +kernel
theorem dX10_takeIn_30 : decode cX10_takeIn 30 = .ok (.aload_n 0, 1) := by decide +kernel
theorem dX10_takeIn_31 : decode cX10_takeIn 31 = .ok (.iload_n 1, 1) := by decide +kernel
theorem dX10_takeIn_32 : decode cX10_takeIn 32 = .ok (.aload_n 0, 1) := by decide +kernel
theorem dX10_takeIn_33 : decode cX10_takeIn 33 = .ok (.getfield 18, 3) := by decide +kernel
theorem dX10_takeIn_36 : decode cX10_takeIn 36 = .ok (.if_icmp .lt 9, 3) := by decide +kernel
theorem dX10_takeIn_39 : decode cX10_takeIn 39 = .ok (.iload_n 1, 1) := by decide +kernel
theorem dX10_takeIn_40 : decode cX10_takeIn 40 = .ok (.iconst 1, 1) := by decide +kernel
theorem dX10_takeIn_41 : decode cX10_takeIn 41 = .ok (.iadd, 1) := by decide +kernel
theorem dX10_takeIn_42 : decode cX10_takeIn 42 = .ok (.goto 7, 3) := by decide +kernel
theorem dX10_takeIn_45 : decode cX10_takeIn 45 = .ok (.aload_n 0, 1) := by decide +kernel
theorem dX10_takeIn_46 : decode cX10_takeIn 46 = .ok (.getfield 18, 3) := by decide +kernel
theorem dX10_takeIn_49 : decode cX10_takeIn 49 = .ok (.putfield 18, 3) := by decide +kernel
theorem dX10_takeIn_52 : decode cX10_takeIn 52 = .ok (.aload_n 0, 1) := by decide +kernel
theorem dX10_takeIn_53 : decode cX10_takeIn 53 = .ok (.iload_n 2, 1) := by decide +kernel
theorem dX10_takeIn_54 : decode cX10_takeIn 54 = .ok (.putfield 22, 3) := by decide +kernel
theorem dX10_takeIn_57 : decode cX10_takeIn 57 = .ok (.return_, 1) := by decide +kernel
theorem dX10_takeAll_0 : decode cX10_takeAll 0 = .ok (.aload_n 1, 1) := by decide +kernel
theorem dX10_takeAll_1 : decode cX10_takeAll 1 = .ok (.getfield 15, 3) := by decide +kernel
theorem dX10_takeAll_4 : decode cX10_takeAll 4 = .ok (.iconst 0, 1) := by decide +kernel
theorem dX10_takeAll_5 : decode cX10_takeAll 5 = .ok (.aload_n 0, 1) := by decide +kernel
theorem dX10_takeAll_6 : decode cX10_takeAll 6 = .ok (.getfield 15, 3) := by decide +kernel
theorem dX10_takeAll_9 : decode cX10_takeAll 9 = .ok (.iconst 0, 1) := by decide +kernel
theorem dX10_takeAll_10 : decode cX10_takeAll 10 = .ok (.bipush 60, 2) := by decide +kernel
theorem dX10_takeAll_12 : decode cX10_takeAll 12 = .ok (.invokestatic 25, 3) := by decide +kernel
theorem dX10_takeAll_15 : decode cX10_takeAll 15 = .ok (.aload_n 0, 1) := by decide +kernel
theorem dX10_takeAll_16 : decode cX10_takeAll 16 = .ok (.aload_n 1, 1) := by decide +kernel
theorem dX10_takeAll_17 : decode cX10_takeAll 17 = .ok (.getfield 18, 3) := by decide +kernel
theorem dX10_takeAll_20 : decode cX10_takeAll 20 = .ok (.putfield 18, 3) := by decide +kernel
theorem dX10_takeAll_23 : decode cX10_takeAll 23 = .ok (.aload_n 0, 1) := by decide +kernel
theorem dX10_takeAll_24 : decode cX10_takeAll 24 = .ok (.aload_n 1, 1) := by decide +kernel
theorem dX10_takeAll_25 : decode cX10_takeAll 25 = .ok (.getfield 22, 3) := by decide +kernel
theorem dX10_takeAll_28 : decode cX10_takeAll 28 = .ok (.putfield 22, 3) := by decide +kernel
theorem dX10_takeAll_31 : decode cX10_takeAll 31 = .ok (.return_, 1) := by decide +kernel
theorem dX10_isGone_0 : decode cX10_isGone 0 = .ok (.aload_n 0, 1) := by decide +kernel
theorem dX10_isGone_1 : decode cX10_isGone 1 = .ok (.iload_n 1, 1) := by decide +kernel
theorem dX10_isGone_2 : decode cX10_isGone 2 = .ok (.bipush 25, 2) := by decide +kernel
theorem dX10_isGone_4 : decode cX10_isGone 4 = .ok (.invokevirtual 31, 3) := by decide +kernel
theorem dX10_isGone_7 : decode cX10_isGone 7 = .ok (.iconst 4, 1) := by decide +kernel
theorem dX10_isGone_8 : decode cX10_isGone 8 = .ok (.if_icmp .ne 7, 3) := by decide +kernel
theorem dX10_isGone_11 : decode cX10_isGone 11 = .ok (.iconst 1, 1) := by decide +kernel
theorem dX10_isGone_12 : decode cX10_isGone 12 = .ok (.goto 4, 3) := by decide +kernel
theorem dX10_isGone_15 : decode cX10_isGone 15 = .ok (.iconst 0, 1) := by decide +kernel
theorem dX10_isGone_16 : decode cX10_isGone 16 = .ok (.ireturn, 1) := by decide +kernel
theorem dX10_isStaying_0 : decode cX10_isStaying 0 = .ok (.aload_n 0, 1) := by decide +kernel
theorem dX10_isStaying_1 : decode cX10_isStaying 1 = .ok (.iload_n 1, 1) := by decide +kernel
theorem dX10_isStaying_2 : decode cX10_isStaying 2 = .ok (.bipush 23, 2) := by decide +kernel
theorem dX10_isStaying_4 : decode cX10_isStaying 4 = .ok (.invokevirtual 31, 3) := by decide +kernel
theorem dX10_isStaying_7 : decode cX10_isStaying 7 = .ok (.iload_n 2, 1) := by decide +kernel
theorem dX10_isStaying_8 : decode cX10_isStaying 8 = .ok (.if_icmp .ne 17, 3) := by decide +kernel
theorem dX10_isStaying_11 : decode cX10_isStaying 11 = .ok (.aload_n 0, 1) := by decide +kernel
theorem dX10_isStaying_12 : decode cX10_isStaying 12 = .ok (.iload_n 1, 1) := by decide +kernel
theorem dX10_isStaying_13 : decode cX10_isStaying 13 = .ok (.bipush 25, 2) := by decide +kernel
theorem dX10_isStaying_15 : decode cX10_isStaying 15 = .ok (.invokevirtual 31, 3) := by decide +kernel
theorem dX10_isStaying_18 : decode cX10_isStaying 18 = .ok (.ifCond .ne 7, 3) := by decide +kernel
theorem dX10_isStaying_21 : decode cX10_isStaying 21 = .ok (.iconst 1, 1) := by decide +kernel
theorem dX10_isStaying_22 : decode cX10_isStaying 22 = .ok (.goto 4, 3) := by decide +kernel
theorem dX10_isStaying_25 : decode cX10_isStaying 25 = .ok (.iconst 0, 1) := by decide +kernel
theorem dX10_isStaying_26 : decode cX10_isStaying 26 = .ok (.ireturn, 1) := by decide +kernel
theorem dX10_isOwned_0 : decode cX10_isOwned 0 = .ok (.aload_n 0, 1) := by decide +kernel
theorem dX10_isOwned_1 : decode cX10_isOwned 1 = .ok (.iload_n 1, 1) := by decide +kernel
theorem dX10_isOwned_2 : decode cX10_isOwned 2 = .ok (.bipush 24, 2) := by decide +kernel
theorem dX10_isOwned_4 : decode cX10_isOwned 4 = .ok (.invokevirtual 31, 3) := by decide +kernel
theorem dX10_isOwned_7 : decode cX10_isOwned 7 = .ok (.iload_n 3, 1) := by decide +kernel
theorem dX10_isOwned_8 : decode cX10_isOwned 8 = .ok (.if_icmp .ne 28, 3) := by decide +kernel
theorem dX10_isOwned_11 : decode cX10_isOwned 11 = .ok (.aload_n 0, 1) := by decide +kernel
theorem dX10_isOwned_12 : decode cX10_isOwned 12 = .ok (.iload_n 1, 1) := by decide +kernel
theorem dX10_isOwned_13 : decode cX10_isOwned 13 = .ok (.bipush 23, 2) := by decide +kernel
theorem dX10_isOwned_15 : decode cX10_isOwned 15 = .ok (.invokevirtual 31, 3) := by decide +kernel
theorem dX10_isOwned_18 : decode cX10_isOwned 18 = .ok (.iload_n 2, 1) := by decide +kernel
theorem dX10_isOwned_19 : decode cX10_isOwned 19 = .ok (.if_icmp .ne 17, 3) := by decide +kernel
theorem dX10_isOwned_22 : decode cX10_isOwned 22 = .ok (.aload_n 0, 1) := by decide +kernel
theorem dX10_isOwned_23 : decode cX10_isOwned 23 = .ok (.iload_n 1, 1) := by decide +kernel
theorem dX10_isOwned_24 : decode cX10_isOwned 24 = .ok (.bipush 25, 2) := by decide +kernel
theorem dX10_isOwned_26 : decode cX10_isOwned 26 = .ok (.invokevirtual 31, 3) := by decide +kernel
theorem dX10_isOwned_29 : decode cX10_isOwned 29 = .ok (.ifCond .ne 7, 3) := by decide +kernel
theorem dX10_isOwned_32 : decode cX10_isOwned 32 = .ok (.iconst 1, 1) := by decide +kernel
theorem dX10_isOwned_33 : decode cX10_isOwned 33 = .ok (.goto 4, 3) := by decide +kernel
theorem dX10_isOwned_36 : decode cX10_isOwned 36 = .ok (.iconst 0, 1) := by decide +kernel
theorem dX10_isOwned_37 : decode cX10_isOwned 37 = .ok (.ireturn, 1) := by decide +kernel
theorem dX10_isKept_0 : decode cX10_isKept 0 = .ok (.aload_n 0, 1) := by decide +kernel
theorem dX10_isKept_1 : decode cX10_isKept 1 = .ok (.iload_n 1, 1) := by decide +kernel
theorem dX10_isKept_2 : decode cX10_isKept 2 = .ok (.bipush 26, 2) := by decide +kernel
theorem dX10_isKept_4 : decode cX10_isKept 4 = .ok (.invokevirtual 31, 3) := by decide +kernel
theorem dX10_isKept_7 : decode cX10_isKept 7 = .ok (.iconst 1, 1) := by decide +kernel
theorem dX10_isKept_8 : decode cX10_isKept 8 = .ok (.if_icmp .eq 14, 3) := by decide +kernel
theorem dX10_isKept_11 : decode cX10_isKept 11 = .ok (.aload_n 0, 1) := by decide +kernel
theorem dX10_isKept_12 : decode cX10_isKept 12 = .ok (.iload_n 1, 1) := by decide +kernel
theorem dX10_isKept_13 : decode cX10_isKept 13 = .ok (.bipush 28, 2) := by decide +kernel
theorem dX10_isKept_15 : decode cX10_isKept 15 = .ok (.invokevirtual 31, 3) := by decide +kernel
theorem dX10_isKept_18 : decode cX10_isKept 18 = .ok (.iconst (-1), 1) := by decide +kernel
theorem dX10_isKept_19 : decode cX10_isKept 19 = .ok (.if_icmp .eq 7, 3) := by decide +kernel
theorem dX10_isKept_22 : decode cX10_isKept 22 = .ok (.iconst 1, 1) := by decide +kernel
theorem dX10_isKept_23 : decode cX10_isKept 23 = .ok (.goto 4, 3) := by decide +kernel
theorem dX10_isKept_26 : decode cX10_isKept 26 = .ok (.iconst 0, 1) := by decide +kernel
theorem dX10_isKept_27 : decode cX10_isKept 27 = .ok (.ireturn, 1) := by decide +kernel
theorem dX10_newSetOf_0 : decode cX10_newSetOf 0 = .ok (.aload_n 0, 1) := by decide +kernel
theorem dX10_newSetOf_1 : decode cX10_newSetOf 1 = .ok (.iload_n 1, 1) := by decide +kernel
theorem dX10_newSetOf_2 : decode cX10_newSetOf 2 = .ok (.iconst 1, 1) := by decide +kernel
theorem dX10_newSetOf_3 : decode cX10_newSetOf 3 = .ok (.invokevirtual 31, 3) := by decide +kernel
theorem dX10_newSetOf_6 : decode cX10_newSetOf 6 = .ok (.istore_n 2, 1) := by decide +kernel
theorem dX10_newSetOf_7 : decode cX10_newSetOf 7 = .ok (.iconst 0, 1) := by decide +kernel
theorem dX10_newSetOf_8 : decode cX10_newSetOf 8 = .ok (.istore_n 3, 1) := by decide +kernel
theorem dX10_newSetOf_9 : decode cX10_newSetOf 9 = .ok (.iload_n 3, 1) := by decide +kernel
theorem dX10_newSetOf_10 : decode cX10_newSetOf 10 = .ok (.aload_n 0, 1) := by decide +kernel
theorem dX10_newSetOf_11 : decode cX10_newSetOf 11 = .ok (.getfield 18, 3) := by decide +kernel
theorem dX10_newSetOf_14 : decode cX10_newSetOf 14 = .ok (.if_icmp .ge 31, 3) := by decide +kernel
theorem dX10_newSetOf_17 : decode cX10_newSetOf 17 = .ok (.aload_n 0, 1) := by decide +kernel
theorem dX10_newSetOf_18 : decode cX10_newSetOf 18 = .ok (.iload_n 3, 1) := by decide +kernel
theorem dX10_newSetOf_19 : decode cX10_newSetOf 19 = .ok (.iconst 1, 1) := by decide +kernel
theorem dX10_newSetOf_20 : decode cX10_newSetOf 20 = .ok (.iload_n 1, 1) := by decide +kernel
theorem dX10_newSetOf_21 : decode cX10_newSetOf 21 = .ok (.invokevirtual 35, 3) := by decide +kernel
theorem dX10_newSetOf_24 : decode cX10_newSetOf 24 = .ok (.ifCond .eq 15, 3) := by decide +kernel
theorem dX10_newSetOf_27 : decode cX10_newSetOf 27 = .ok (.aload_n 0, 1) := by decide +kernel
theorem dX10_newSetOf_28 : decode cX10_newSetOf 28 = .ok (.iload_n 3, 1) := by decide +kernel
theorem dX10_newSetOf_29 : decode cX10_newSetOf 29 = .ok (.iconst 1, 1) := by decide +kernel
theorem dX10_newSetOf_30 : decode cX10_newSetOf 30 = .ok (.invokevirtual 31, 3) := by decide +kernel
theorem dX10_newSetOf_33 : decode cX10_newSetOf 33 = .ok (.iload_n 2, 1) := by decide +kernel
theorem dX10_newSetOf_34 : decode cX10_newSetOf 34 = .ok (.if_icmp .ne 5, 3) := by decide +kernel
theorem dX10_newSetOf_37 : decode cX10_newSetOf 37 = .ok (.iload_n 3, 1) := by decide +kernel
theorem dX10_newSetOf_38 : decode cX10_newSetOf 38 = .ok (.ireturn, 1) := by decide +kernel
theorem dX10_newSetOf_39 : decode cX10_newSetOf 39 = .ok (.iinc 3 1, 3) := by decide +kernel
theorem dX10_newSetOf_42 : decode cX10_newSetOf 42 = .ok (.goto (-33), 3) := by decide +kernel
theorem dX10_newSetOf_45 : decode cX10_newSetOf 45 = .ok (.iconst (-1), 1) := by decide +kernel
theorem dX10_newSetOf_46 : decode cX10_newSetOf 46 = .ok (.ireturn, 1) := by decide +kernel
theorem dX10_countRunning_0 : decode cX10_countRunning 0 = .ok (.iconst 0, 1) := by decide +kernel
theorem dX10_countRunning_1 : decode cX10_countRunning 1 = .ok (.istore_n 2, 1) := by decide +kernel
theorem dX10_countRunning_2 : decode cX10_countRunning 2 = .ok (.iconst 0, 1) := by decide +kernel
theorem dX10_countRunning_3 : decode cX10_countRunning 3 = .ok (.istore_n 3, 1) := by decide +kernel
theorem dX10_countRunning_4 : decode cX10_countRunning 4 = .ok (.iload_n 3, 1) := by decide +kernel
theorem dX10_countRunning_5 : decode cX10_countRunning 5 = .ok (.aload_n 0, 1) := by decide +kernel
theorem dX10_countRunning_6 : decode cX10_countRunning 6 = .ok (.getfield 18, 3) := by decide +kernel
theorem dX10_countRunning_9 : decode cX10_countRunning 9 = .ok (.if_icmp .ge 43, 3) := by decide +kernel
theorem dX10_countRunning_12 : decode cX10_countRunning 12 = .ok (.iload_n 1, 1) := by decide +kernel
theorem dX10_countRunning_13 : decode cX10_countRunning 13 = .ok (.iconst (-1), 1) := by decide +kernel
theorem dX10_countRunning_14 : decode cX10_countRunning 14 = .ok (.if_icmp .eq 38, 3) := by decide +kernel
theorem dX10_countRunning_17 : decode cX10_countRunning 17 = .ok (.iload_n 2, 1) := by decide +kernel
theorem dX10_countRunning_18 : decode cX10_countRunning 18 = .ok (.aload_n 0, 1) := by decide +kernel
theorem dX10_countRunning_19 : decode cX10_countRunning 19 = .ok (.iload_n 3, 1) := by decide +kernel
theorem dX10_countRunning_20 : decode cX10_countRunning 20 = .ok (.iconst 2, 1) := by decide +kernel
theorem dX10_countRunning_21 : decode cX10_countRunning 21 = .ok (.iload_n 1, 1) := by decide +kernel
theorem dX10_countRunning_22 : decode cX10_countRunning 22 = .ok (.invokevirtual 35, 3) := by decide +kernel
theorem dX10_countRunning_25 : decode cX10_countRunning 25 = .ok (.ifCond .eq 18, 3) := by decide +kernel
theorem dX10_countRunning_28 : decode cX10_countRunning 28 = .ok (.aload_n 0, 1) := by decide +kernel
theorem dX10_countRunning_29 : decode cX10_countRunning 29 = .ok (.iload_n 3, 1) := by decide +kernel
theorem dX10_countRunning_30 : decode cX10_countRunning 30 = .ok (.bipush 29, 2) := by decide +kernel
theorem dX10_countRunning_32 : decode cX10_countRunning 32 = .ok (.invokevirtual 31, 3) := by decide +kernel
theorem dX10_countRunning_35 : decode cX10_countRunning 35 = .ok (.iconst 1, 1) := by decide +kernel
theorem dX10_countRunning_36 : decode cX10_countRunning 36 = .ok (.if_icmp .ne 7, 3) := by decide +kernel
theorem dX10_countRunning_39 : decode cX10_countRunning 39 = .ok (.iconst 1, 1) := by decide +kernel
theorem dX10_countRunning_40 : decode cX10_countRunning 40 = .ok (.goto 4, 3) := by decide +kernel
theorem dX10_countRunning_43 : decode cX10_countRunning 43 = .ok (.iconst 0, 1) := by decide +kernel
theorem dX10_countRunning_44 : decode cX10_countRunning 44 = .ok (.iadd, 1) := by decide +kernel
theorem dX10_countRunning_45 : decode cX10_countRunning 45 = .ok (.istore_n 2, 1) := by decide +kernel
theorem dX10_countRunning_46 : decode cX10_countRunning 46 = .ok (.iinc 3 1, 3) := by decide +kernel
theorem dX10_countRunning_49 : decode cX10_countRunning 49 = .ok (.goto (-45), 3) := by decide +kernel
theorem dX10_countRunning_52 : decode cX10_countRunning 52 = .ok (.iload_n 2, 1) := by decide +kernel
theorem dX10_countRunning_53 : decode cX10_countRunning 53 = .ok (.ireturn, 1) := by decide +kernel
theorem dX10_countRunningOfAll_0 : decode cX10_countRunningOfAll 0 = .ok (.iconst 0, 1) := by decide +kernel
theorem dX10_countRunningOfAll_1 : decode cX10_countRunningOfAll 1 = .ok (.istore_n 2, 1) := by decide +kernel
theorem dX10_countRunningOfAll_2 : decode cX10_countRunningOfAll 2 = .ok (.iconst 0, 1) := by decide +kernel
theorem dX10_countRunningOfAll_3 : decode cX10_countRunningOfAll 3 = .ok (.istore_n 3, 1) := by decide +kernel
theorem dX10_countRunningOfAll_4 : decode cX10_countRunningOfAll 4 = .ok (.iload_n 3, 1) := by decide +kernel
theorem dX10_countRunningOfAll_5 : decode cX10_countRunningOfAll 5 = .ok (.aload_n 0, 1) := by decide +kernel
theorem dX10_countRunningOfAll_6 : decode cX10_countRunningOfAll 6 = .ok (.getfield 18, 3) := by decide +kernel
theorem dX10_countRunningOfAll_9 : decode cX10_countRunningOfAll 9 = .ok (.if_icmp .ge 31, 3) := by decide +kernel
theorem dX10_countRunningOfAll_12 : decode cX10_countRunningOfAll 12 = .ok (.iload_n 2, 1) := by decide +kernel
theorem dX10_countRunningOfAll_13 : decode cX10_countRunningOfAll 13 = .ok (.aload_n 0, 1) := by decide +kernel
theorem dX10_countRunningOfAll_14 : decode cX10_countRunningOfAll 14 = .ok (.iload_n 3, 1) := by decide +kernel
theorem dX10_countRunningOfAll_15 : decode cX10_countRunningOfAll 15 = .ok (.iconst 1, 1) := by decide +kernel
theorem dX10_countRunningOfAll_16 : decode cX10_countRunningOfAll 16 = .ok (.iload_n 1, 1) := by decide +kernel
theorem dX10_countRunningOfAll_17 : decode cX10_countRunningOfAll 17 = .ok (.invokevirtual 35, 3) := by decide +kernel
theorem dX10_countRunningOfAll_20 : decode cX10_countRunningOfAll 20 = .ok (.ifCond .eq 11, 3) := by decide +kernel
theorem dX10_countRunningOfAll_23 : decode cX10_countRunningOfAll 23 = .ok (.aload_n 0, 1) := by decide +kernel
theorem dX10_countRunningOfAll_24 : decode cX10_countRunningOfAll 24 = .ok (.iload_n 3, 1) := by decide +kernel
theorem dX10_countRunningOfAll_25 : decode cX10_countRunningOfAll 25 = .ok (.invokevirtual 39, 3) := by decide +kernel
theorem dX10_countRunningOfAll_28 : decode cX10_countRunningOfAll 28 = .ok (.goto 4, 3) := by decide +kernel
theorem dX10_countRunningOfAll_31 : decode cX10_countRunningOfAll 31 = .ok (.iconst 0, 1) := by decide +kernel
theorem dX10_countRunningOfAll_32 : decode cX10_countRunningOfAll 32 = .ok (.iadd, 1) := by decide +kernel
theorem dX10_countRunningOfAll_33 : decode cX10_countRunningOfAll 33 = .ok (.istore_n 2, 1) := by decide +kernel
theorem dX10_countRunningOfAll_34 : decode cX10_countRunningOfAll 34 = .ok (.iinc 3 1, 3) := by decide +kernel
theorem dX10_countRunningOfAll_37 : decode cX10_countRunningOfAll 37 = .ok (.goto (-33), 3) := by decide +kernel
theorem dX10_countRunningOfAll_40 : decode cX10_countRunningOfAll 40 = .ok (.iload_n 2, 1) := by decide +kernel
theorem dX10_countRunningOfAll_41 : decode cX10_countRunningOfAll 41 = .ok (.ireturn, 1) := by decide +kernel
theorem dX10_needOf_0 : decode cX10_needOf 0 = .ok (.iconst 1, 1) := by decide +kernel
theorem dX10_needOf_1 : decode cX10_needOf 1 = .ok (.aload_n 0, 1) := by decide +kernel
theorem dX10_needOf_2 : decode cX10_needOf 2 = .ok (.iload_n 1, 1) := by decide +kernel
theorem dX10_needOf_3 : decode cX10_needOf 3 = .ok (.iconst 1, 1) := by decide +kernel
theorem dX10_needOf_4 : decode cX10_needOf 4 = .ok (.invokevirtual 31, 3) := by decide +kernel
theorem dX10_needOf_7 : decode cX10_needOf 7 = .ok (.iconst 3, 1) := by decide +kernel
theorem dX10_needOf_8 : decode cX10_needOf 8 = .ok (.irem, 1) := by decide +kernel
theorem dX10_needOf_9 : decode cX10_needOf 9 = .ok (.iadd, 1) := by decide +kernel
theorem dX10_needOf_10 : decode cX10_needOf 10 = .ok (.ireturn, 1) := by decide +kernel
theorem dX11_make_0 : decode cX11_make 0 = .ok (.iload_n 1, 1) := by decide +kernel
theorem dX11_make_1 : decode cX11_make 1 = .ok (.invokestatic 54, 3) := by decide +kernel
theorem dX11_make_4 : decode cX11_make 4 = .ok (.ifCond .eq 10, 3) := by decide +kernel
theorem dX11_make_7 : decode cX11_make 7 = .ok (.iload_n 2, 1) := by decide +kernel
theorem dX11_make_8 : decode cX11_make 8 = .ok (.invokestatic 58, 3) := by decide +kernel
theorem dX11_make_11 : decode cX11_make 11 = .ok (.ifCond .ne 13, 3) := by decide +kernel
theorem dX11_make_14 : decode cX11_make 14 = .ok (.new 61, 3) := by decide +kernel
theorem dX11_make_17 : decode cX11_make 17 = .ok (.dup, 1) := by decide +kernel
theorem dX11_make_18 : decode cX11_make 18 = .ok (.ldc 63, 2) := by decide +kernel
theorem dX11_make_20 : decode cX11_make 20 = .ok (.invokespecial 65, 3) := by decide +kernel
theorem dX11_make_23 : decode cX11_make 23 = .ok (.athrow, 1) := by decide +kernel
theorem dX11_make_24 : decode cX11_make 24 = .ok (.aload_n 0, 1) := by decide +kernel
theorem dX11_make_25 : decode cX11_make 25 = .ok (.getfield 10, 3) := by decide +kernel
theorem dX11_make_28 : decode cX11_make 28 = .ok (.iload_n 1, 1) := by decide +kernel
theorem dX11_make_29 : decode cX11_make 29 = .ok (.iload_n 2, 1) := by decide +kernel
theorem dX11_make_30 : decode cX11_make 30 = .ok (.iconst (-1), 1) := by decide +kernel
theorem dX11_make_31 : decode cX11_make 31 = .ok (.getstatic 68, 3) := by decide +kernel
theorem dX11_make_34 : decode cX11_make 34 = .ok (.iconst 1, 1) := by decide +kernel
theorem dX11_make_35 : decode cX11_make 35 = .ok (.iaload, 1) := by decide +kernel
theorem dX11_make_36 : decode cX11_make 36 = .ok (.invokevirtual 71, 3) := by decide +kernel
theorem dX11_make_39 : decode cX11_make 39 = .ok (.istore_n 3, 1) := by decide +kernel
theorem dX11_make_40 : decode cX11_make 40 = .ok (.iload_n 3, 1) := by decide +kernel
theorem dX11_make_41 : decode cX11_make 41 = .ok (.iconst (-1), 1) := by decide +kernel
theorem dX11_make_42 : decode cX11_make 42 = .ok (.if_icmp .ne 13, 3) := by decide +kernel
theorem dX11_make_45 : decode cX11_make 45 = .ok (.new 75, 3) := by decide +kernel
theorem dX11_make_48 : decode cX11_make 48 = .ok (.dup, 1) := by decide +kernel
theorem dX11_make_49 : decode cX11_make 49 = .ok (.ldc 77, 2) := by decide +kernel
theorem dX11_make_51 : decode cX11_make 51 = .ok (.invokespecial 79, 3) := by decide +kernel
theorem dX11_make_54 : decode cX11_make 54 = .ok (.athrow, 1) := by decide +kernel
theorem dX11_make_55 : decode cX11_make 55 = .ok (.iload_n 3, 1) := by decide +kernel
theorem dX11_make_56 : decode cX11_make 56 = .ok (.ireturn, 1) := by decide +kernel
theorem dX11_apply_0 : decode cX11_apply 0 = .ok (.aload_n 0, 1) := by decide +kernel
theorem dX11_apply_1 : decode cX11_apply 1 = .ok (.iload_n 2, 1) := by decide +kernel
theorem dX11_apply_2 : decode cX11_apply 2 = .ok (.invokevirtual 80, 3) := by decide +kernel
theorem dX11_apply_5 : decode cX11_apply 5 = .ok (.iload_n 1, 1) := by decide +kernel
theorem dX11_apply_6 : decode cX11_apply 6 = .ok (.invokestatic 54, 3) := by decide +kernel
theorem dX11_apply_9 : decode cX11_apply 9 = .ok (.ifCond .eq 29, 3) := by decide +kernel
theorem dX11_apply_12 : decode cX11_apply 12 = .ok (.aload_n 0, 1) := by decide +kernel
theorem dX11_apply_13 : decode cX11_apply 13 = .ok (.getfield 10, 3) := by decide +kernel
theorem dX11_apply_16 : decode cX11_apply 16 = .ok (.iload_n 2, 1) := by decide +kernel
theorem dX11_apply_17 : decode cX11_apply 17 = .ok (.bipush 23, 2) := by decide +kernel
theorem dX11_apply_19 : decode cX11_apply 19 = .ok (.invokevirtual 84, 3) := by decide +kernel
theorem dX11_apply_22 : decode cX11_apply 22 = .ok (.iload_n 3, 1) := by decide +kernel
theorem dX11_apply_23 : decode cX11_apply 23 = .ok (.invokestatic 88, 3) := by decide +kernel
theorem dX11_apply_26 : decode cX11_apply 26 = .ok (.ifCond .eq 12, 3) := by decide +kernel
theorem dX11_apply_29 : decode cX11_apply 29 = .ok (.iload_n 3, 1) := by decide +kernel
theorem dX11_apply_30 : decode cX11_apply 30 = .ok (.iload 4, 2) := by decide +kernel
theorem dX11_apply_32 : decode cX11_apply 32 = .ok (.invokestatic 92, 3) := by decide +kernel
theorem dX11_apply_35 : decode cX11_apply 35 = .ok (.ifCond .ne 13, 3) := by decide +kernel
theorem dX11_apply_38 : decode cX11_apply 38 = .ok (.new 61, 3) := by decide +kernel
theorem dX11_apply_41 : decode cX11_apply 41 = .ok (.dup, 1) := by decide +kernel
theorem dX11_apply_42 : decode cX11_apply 42 = .ok (.ldc 95, 2) := by decide +kernel
theorem dX11_apply_44 : decode cX11_apply 44 = .ok (.invokespecial 65, 3) := by decide +kernel
theorem dX11_apply_47 : decode cX11_apply 47 = .ok (.athrow, 1) := by decide +kernel
theorem dX11_apply_48 : decode cX11_apply 48 = .ok (.aload_n 0, 1) := by decide +kernel
theorem dX11_apply_49 : decode cX11_apply 49 = .ok (.getfield 10, 3) := by decide +kernel
theorem dX11_apply_52 : decode cX11_apply 52 = .ok (.iload_n 2, 1) := by decide +kernel
theorem dX11_apply_53 : decode cX11_apply 53 = .ok (.invokevirtual 97, 3) := by decide +kernel
theorem dX11_apply_56 : decode cX11_apply 56 = .ok (.ifCond .ne 22, 3) := by decide +kernel
theorem dX11_apply_59 : decode cX11_apply 59 = .ok (.iload 5, 2) := by decide +kernel
theorem dX11_apply_61 : decode cX11_apply 61 = .ok (.iconst (-1), 1) := by decide +kernel
theorem dX11_apply_62 : decode cX11_apply 62 = .ok (.if_icmp .eq 26, 3) := by decide +kernel
theorem dX11_apply_65 : decode cX11_apply 65 = .ok (.iload 5, 2) := by decide +kernel
theorem dX11_apply_67 : decode cX11_apply 67 = .ok (.aload_n 0, 1) := by decide +kernel
theorem dX11_apply_68 : decode cX11_apply 68 = .ok (.getfield 10, 3) := by decide +kernel
theorem dX11_apply_71 : decode cX11_apply 71 = .ok (.iload_n 2, 1) := by decide +kernel
theorem dX11_apply_72 : decode cX11_apply 72 = .ok (.invokevirtual 100, 3) := by decide +kernel
theorem dX11_apply_75 : decode cX11_apply 75 = .ok (.if_icmp .eq 13, 3) := by decide +kernel
theorem dX11_apply_78 : decode cX11_apply 78 = .ok (.new 75, 3) := by decide +kernel
theorem dX11_apply_81 : decode cX11_apply 81 = .ok (.dup, 1) := by decide +kernel
theorem dX11_apply_82 : decode cX11_apply 82 = .ok (.ldc 104, 2) := by decide +kernel
theorem dX11_apply_84 : decode cX11_apply 84 = .ok (.invokespecial 79, 3) := by decide +kernel
theorem dX11_apply_87 : decode cX11_apply 87 = .ok (.athrow, 1) := by decide +kernel
theorem dX11_apply_88 : decode cX11_apply 88 = .ok (.iload 6, 2) := by decide +kernel
theorem dX11_apply_90 : decode cX11_apply 90 = .ok (.ifCond .ne 29, 3) := by decide +kernel
theorem dX11_apply_93 : decode cX11_apply 93 = .ok (.aload_n 0, 1) := by decide +kernel
theorem dX11_apply_94 : decode cX11_apply 94 = .ok (.getfield 10, 3) := by decide +kernel
theorem dX11_apply_97 : decode cX11_apply 97 = .ok (.iload_n 2, 1) := by decide +kernel
theorem dX11_apply_98 : decode cX11_apply 98 = .ok (.bipush 11, 2) := by decide +kernel
theorem dX11_apply_100 : decode cX11_apply 100 = .ok (.iload_n 3, 1) := by decide +kernel
theorem dX11_apply_101 : decode cX11_apply 101 = .ok (.iadd, 1) := by decide +kernel
theorem dX11_apply_102 : decode cX11_apply 102 = .ok (.invokevirtual 84, 3) := by decide +kernel
theorem dX11_apply_105 : decode cX11_apply 105 = .ok (.iload_n 1, 1) := by decide +kernel
theorem dX11_apply_106 : decode cX11_apply 106 = .ok (.if_icmp .eq 13, 3) := by decide +kernel
theorem dX11_apply_109 : decode cX11_apply 109 = .ok (.new 75, 3) := by decide +kernel
theorem dX11_apply_112 : decode cX11_apply 112 = .ok (.dup, 1) := by decide +kernel
theorem dX11_apply_113 : decode cX11_apply 113 = .ok (.ldc 106, 2) := by decide +kernel
theorem dX11_apply_115 : decode cX11_apply 115 = .ok (.invokespecial 79, 3) := by decide +kernel
theorem dX11_apply_118 : decode cX11_apply 118 = .ok (.athrow, 1) := by decide +kernel
theorem dX11_apply_119 : decode cX11_apply 119 = .ok (.aload_n 0, 1) := by decide +kernel
theorem dX11_apply_120 : decode cX11_apply 120 = .ok (.getfield 10, 3) := by decide +kernel
theorem dX11_apply_123 : decode cX11_apply 123 = .ok (.iload_n 1, 1) := by decide +kernel
theorem dX11_apply_124 : decode cX11_apply 124 = .ok (.iload_n 2, 1) := by decide +kernel
theorem dX11_apply_125 : decode cX11_apply 125 = .ok (.iload_n 3, 1) := by decide +kernel
theorem dX11_apply_126 : decode cX11_apply 126 = .ok (.iload 4, 2) := by decide +kernel
theorem dX11_apply_128 : decode cX11_apply 128 = .ok (.invokevirtual 108, 3) := by decide +kernel
theorem dX11_apply_131 : decode cX11_apply 131 = .ok (.ifCond .ne 13, 3) := by decide +kernel
theorem dX11_apply_134 : decode cX11_apply 134 = .ok (.new 75, 3) := by decide +kernel
theorem dX11_apply_137 : decode cX11_apply 137 = .ok (.dup, 1) := by decide +kernel
theorem dX11_apply_138 : decode cX11_apply 138 = .ok (.ldc 112, 2) := by decide +kernel
theorem dX11_apply_140 : decode cX11_apply 140 = .ok (.invokespecial 79, 3) := by decide +kernel
theorem dX11_apply_143 : decode cX11_apply 143 = .ok (.athrow, 1) := by decide +kernel
theorem dX11_apply_144 : decode cX11_apply 144 = .ok (.aload_n 0, 1) := by decide +kernel
theorem dX11_apply_145 : decode cX11_apply 145 = .ok (.getfield 10, 3) := by decide +kernel
theorem dX11_apply_148 : decode cX11_apply 148 = .ok (.iload_n 2, 1) := by decide +kernel
theorem dX11_apply_149 : decode cX11_apply 149 = .ok (.invokevirtual 100, 3) := by decide +kernel
theorem dX11_apply_152 : decode cX11_apply 152 = .ok (.ireturn, 1) := by decide +kernel
theorem dX11_applyBudget_0 : decode cX11_applyBudget 0 = .ok (.aload_n 0, 1) := by decide +kernel
theorem dX11_applyBudget_1 : decode cX11_applyBudget 1 = .ok (.iload_n 2, 1) := by decide +kernel
theorem dX11_applyBudget_2 : decode cX11_applyBudget 2 = .ok (.invokevirtual 80, 3) := by decide +kernel
theorem dX11_applyBudget_5 : decode cX11_applyBudget 5 = .ok (.iload_n 3, 1) := by decide +kernel
theorem dX11_applyBudget_6 : decode cX11_applyBudget 6 = .ok (.bipush 10, 2) := by decide +kernel
theorem dX11_applyBudget_8 : decode cX11_applyBudget 8 = .ok (.invokestatic 114, 3) := by decide +kernel
theorem dX11_applyBudget_11 : decode cX11_applyBudget 11 = .ok (.istore 5, 2) := by decide +kernel
theorem dX11_applyBudget_13 : decode cX11_applyBudget 13 = .ok (.iload_n 3, 1) := by decide +kernel
theorem dX11_applyBudget_14 : decode cX11_applyBudget 14 = .ok (.bipush 10, 2) := by decide +kernel
theorem dX11_applyBudget_16 : decode cX11_applyBudget 16 = .ok (.invokestatic 119, 3) := by decide +kernel
theorem dX11_applyBudget_19 : decode cX11_applyBudget 19 = .ok (.istore 6, 2) := by decide +kernel
theorem dX11_applyBudget_21 : decode cX11_applyBudget 21 = .ok (.iload_n 1, 1) := by decide +kernel
theorem dX11_applyBudget_22 : decode cX11_applyBudget 22 = .ok (.invokestatic 54, 3) := by decide +kernel
theorem dX11_applyBudget_25 : decode cX11_applyBudget 25 = .ok (.ifCond .eq 34, 3) := by decide +kernel
theorem dX11_applyBudget_28 : decode cX11_applyBudget 28 = .ok (.aload_n 0, 1) := by decide +kernel
theorem dX11_applyBudget_29 : decode cX11_applyBudget 29 = .ok (.getfield 10, 3) := by decide +kernel
theorem dX11_applyBudget_32 : decode cX11_applyBudget 32 = .ok (.iload_n 2, 1) := by decide +kernel
theorem dX11_applyBudget_33 : decode cX11_applyBudget 33 = .ok (.bipush 23, 2) := by decide +kernel
theorem dX11_applyBudget_35 : decode cX11_applyBudget 35 = .ok (.invokevirtual 84, 3) := by decide +kernel
theorem dX11_applyBudget_38 : decode cX11_applyBudget 38 = .ok (.ifCond .ne 21, 3) := by decide +kernel
theorem dX11_applyBudget_41 : decode cX11_applyBudget 41 = .ok (.iconst 2, 1) := by decide +kernel
theorem dX11_applyBudget_42 : decode cX11_applyBudget 42 = .ok (.iload 5, 2) := by decide +kernel
theorem dX11_applyBudget_44 : decode cX11_applyBudget 44 = .ok (.invokestatic 92, 3) := by decide +kernel
theorem dX11_applyBudget_47 : decode cX11_applyBudget 47 = .ok (.ifCond .eq 12, 3) := by decide +kernel
theorem dX11_applyBudget_50 : decode cX11_applyBudget 50 = .ok (.iconst 3, 1) := by decide +kernel
theorem dX11_applyBudget_51 : decode cX11_applyBudget 51 = .ok (.iload 6, 2) := by decide +kernel
theorem dX11_applyBudget_53 : decode cX11_applyBudget 53 = .ok (.invokestatic 92, 3) := by decide +kernel
theorem dX11_applyBudget_56 : decode cX11_applyBudget 56 = .ok (.ifCond .ne 13, 3) := by decide +kernel
theorem dX11_applyBudget_59 : decode cX11_applyBudget 59 = .ok (.new 61, 3) := by decide +kernel
theorem dX11_applyBudget_62 : decode cX11_applyBudget 62 = .ok (.dup, 1) := by decide +kernel
theorem dX11_applyBudget_63 : decode cX11_applyBudget 63 = .ok (.ldc 122, 2) := by decide +kernel
theorem dX11_applyBudget_65 : decode cX11_applyBudget 65 = .ok (.invokespecial 65, 3) := by decide +kernel
theorem dX11_applyBudget_68 : decode cX11_applyBudget 68 = .ok (.athrow, 1) := by decide +kernel
theorem dX11_applyBudget_69 : decode cX11_applyBudget 69 = .ok (.aload_n 0, 1) := by decide +kernel
theorem dX11_applyBudget_70 : decode cX11_applyBudget 70 = .ok (.getfield 10, 3) := by decide +kernel
theorem dX11_applyBudget_73 : decode cX11_applyBudget 73 = .ok (.iload_n 2, 1) := by decide +kernel
theorem dX11_applyBudget_74 : decode cX11_applyBudget 74 = .ok (.bipush 13, 2) := by decide +kernel
theorem dX11_applyBudget_76 : decode cX11_applyBudget 76 = .ok (.invokevirtual 84, 3) := by decide +kernel
theorem dX11_applyBudget_79 : decode cX11_applyBudget 79 = .ok (.iload_n 1, 1) := by decide +kernel
theorem dX11_applyBudget_80 : decode cX11_applyBudget 80 = .ok (.if_icmp .ne 21, 3) := by decide +kernel
theorem dX11_applyBudget_83 : decode cX11_applyBudget 83 = .ok (.aload_n 0, 1) := by decide +kernel
theorem dX11_applyBudget_84 : decode cX11_applyBudget 84 = .ok (.getfield 10, 3) := by decide +kernel
theorem dX11_applyBudget_87 : decode cX11_applyBudget 87 = .ok (.iload_n 2, 1) := by decide +kernel
theorem dX11_applyBudget_88 : decode cX11_applyBudget 88 = .ok (.bipush 14, 2) := by decide +kernel
theorem dX11_applyBudget_90 : decode cX11_applyBudget 90 = .ok (.invokevirtual 84, 3) := by decide +kernel
theorem dX11_applyBudget_93 : decode cX11_applyBudget 93 = .ok (.iload_n 1, 1) := by decide +kernel
theorem dX11_applyBudget_94 : decode cX11_applyBudget 94 = .ok (.if_icmp .ne 7, 3) := by decide +kernel
theorem dX11_applyBudget_97 : decode cX11_applyBudget 97 = .ok (.iconst 1, 1) := by decide +kernel
theorem dX11_applyBudget_98 : decode cX11_applyBudget 98 = .ok (.goto 4, 3) := by decide +kernel
theorem dX11_applyBudget_101 : decode cX11_applyBudget 101 = .ok (.iconst 0, 1) := by decide +kernel
theorem dX11_applyBudget_102 : decode cX11_applyBudget 102 = .ok (.istore 7, 2) := by decide +kernel
theorem dX11_applyBudget_104 : decode cX11_applyBudget 104 = .ok (.aload_n 0, 1) := by decide +kernel
theorem dX11_applyBudget_105 : decode cX11_applyBudget 105 = .ok (.getfield 10, 3) := by decide +kernel
theorem dX11_applyBudget_108 : decode cX11_applyBudget 108 = .ok (.iload_n 2, 1) := by decide +kernel
theorem dX11_applyBudget_109 : decode cX11_applyBudget 109 = .ok (.invokevirtual 97, 3) := by decide +kernel
theorem dX11_applyBudget_112 : decode cX11_applyBudget 112 = .ok (.ifCond .ne 13, 3) := by decide +kernel
theorem dX11_applyBudget_115 : decode cX11_applyBudget 115 = .ok (.iload 4, 2) := by decide +kernel
theorem dX11_applyBudget_117 : decode cX11_applyBudget 117 = .ok (.ifCond .ne 18, 3) := by decide +kernel
theorem dX11_applyBudget_120 : decode cX11_applyBudget 120 = .ok (.iload 7, 2) := by decide +kernel
theorem dX11_applyBudget_122 : decode cX11_applyBudget 122 = .ok (.ifCond .ne 13, 3) := by decide +kernel
theorem dX11_applyBudget_125 : decode cX11_applyBudget 125 = .ok (.new 75, 3) := by decide +kernel
theorem dX11_applyBudget_128 : decode cX11_applyBudget 128 = .ok (.dup, 1) := by decide +kernel
theorem dX11_applyBudget_129 : decode cX11_applyBudget 129 = .ok (.ldc 124, 2) := by decide +kernel
theorem dX11_applyBudget_131 : decode cX11_applyBudget 131 = .ok (.invokespecial 79, 3) := by decide +kernel
theorem dX11_applyBudget_134 : decode cX11_applyBudget 134 = .ok (.athrow, 1) := by decide +kernel
theorem dX11_applyBudget_135 : decode cX11_applyBudget 135 = .ok (.aload_n 0, 1) := by decide +kernel
theorem dX11_applyBudget_136 : decode cX11_applyBudget 136 = .ok (.getfield 10, 3) := by decide +kernel
theorem dX11_applyBudget_139 : decode cX11_applyBudget 139 = .ok (.iload_n 1, 1) := by decide +kernel
theorem dX11_applyBudget_140 : decode cX11_applyBudget 140 = .ok (.iload_n 2, 1) := by decide +kernel
theorem dX11_applyBudget_141 : decode cX11_applyBudget 141 = .ok (.iload 5, 2) := by decide +kernel
theorem dX11_applyBudget_143 : decode cX11_applyBudget 143 = .ok (.iload 6, 2) := by decide +kernel
theorem dX11_applyBudget_145 : decode cX11_applyBudget 145 = .ok (.invokevirtual 126, 3) := by decide +kernel
theorem dX11_applyBudget_148 : decode cX11_applyBudget 148 = .ok (.ifCond .ne 13, 3) := by decide +kernel
theorem dX11_applyBudget_151 : decode cX11_applyBudget 151 = .ok (.new 75, 3) := by decide +kernel
theorem dX11_applyBudget_154 : decode cX11_applyBudget 154 = .ok (.dup, 1) := by decide +kernel
theorem dX11_applyBudget_155 : decode cX11_applyBudget 155 = .ok (.ldc 112, 2) := by decide +kernel
theorem dX11_applyBudget_157 : decode cX11_applyBudget 157 = .ok (.invokespecial 79, 3) := by decide +kernel
theorem dX11_applyBudget_160 : decode cX11_applyBudget 160 = .ok (.athrow, 1) := by decide +kernel
theorem dX11_applyBudget_161 : decode cX11_applyBudget 161 = .ok (.aload_n 0, 1) := by decide +kernel
theorem dX11_applyBudget_162 : decode cX11_applyBudget 162 = .ok (.getfield 10, 3) := by decide +kernel
theorem dX11_applyBudget_165 : decode cX11_applyBudget 165 = .ok (.iload_n 2, 1) := by decide +kernel
theorem dX11_applyBudget_166 : decode cX11_applyBudget 166 = .ok (.invokevirtual 100, 3) := by decide +kernel
theorem dX11_applyBudget_169 : decode cX11_applyBudget 169 = .ok (.ireturn, 1) := by decide +kernel
theorem dX11_delete_0 : decode cX11_delete 0 = .ok (.aload_n 0, 1) := by decide +kernel
theorem dX11_delete_1 : decode cX11_delete 1 = .ok (.iload_n 1, 1) := by decide +kernel
theorem dX11_delete_2 : decode cX11_delete 2 = .ok (.invokevirtual 80, 3) := by decide +kernel
theorem dX11_delete_5 : decode cX11_delete 5 = .ok (.iload_n 2, 1) := by decide +kernel
theorem dX11_delete_6 : decode cX11_delete 6 = .ok (.iconst 1, 1) := by decide +kernel
theorem dX11_delete_7 : decode cX11_delete 7 = .ok (.if_icmp .eq 23, 3) := by decide +kernel
theorem dX11_delete_10 : decode cX11_delete 10 = .ok (.iload_n 2, 1) := by decide +kernel
theorem dX11_delete_11 : decode cX11_delete 11 = .ok (.iconst 2, 1) := by decide +kernel
theorem dX11_delete_12 : decode cX11_delete 12 = .ok (.if_icmp .eq 18, 3) := by decide +kernel
theorem dX11_delete_15 : decode cX11_delete 15 = .ok (.iload_n 2, 1) := by decide +kernel
theorem dX11_delete_16 : decode cX11_delete 16 = .ok (.iconst 3, 1) := by decide +kernel
theorem dX11_delete_17 : decode cX11_delete 17 = .ok (.if_icmp .eq 13, 3) := by decide +kernel
theorem dX11_delete_20 : decode cX11_delete 20 = .ok (.new 61, 3) := by decide +kernel
theorem dX11_delete_23 : decode cX11_delete 23 = .ok (.dup, 1) := by decide +kernel
theorem dX11_delete_24 : decode cX11_delete 24 = .ok (.ldc 129, 2) := by decide +kernel
theorem dX11_delete_26 : decode cX11_delete 26 = .ok (.invokespecial 65, 3) := by decide +kernel
theorem dX11_delete_29 : decode cX11_delete 29 = .ok (.athrow, 1) := by decide +kernel
theorem dX11_delete_30 : decode cX11_delete 30 = .ok (.aload_n 0, 1) := by decide +kernel
theorem dX11_delete_31 : decode cX11_delete 31 = .ok (.getfield 10, 3) := by decide +kernel
theorem dX11_delete_34 : decode cX11_delete 34 = .ok (.iload_n 1, 1) := by decide +kernel
theorem dX11_delete_35 : decode cX11_delete 35 = .ok (.bipush 25, 2) := by decide +kernel
theorem dX11_delete_37 : decode cX11_delete 37 = .ok (.invokevirtual 84, 3) := by decide +kernel
theorem dX11_delete_40 : decode cX11_delete 40 = .ok (.ifCond .ne 15, 3) := by decide +kernel
theorem dX11_delete_43 : decode cX11_delete 43 = .ok (.aload_n 0, 1) := by decide +kernel
theorem dX11_delete_44 : decode cX11_delete 44 = .ok (.getfield 10, 3) := by decide +kernel
theorem dX11_delete_47 : decode cX11_delete 47 = .ok (.iload_n 1, 1) := by decide +kernel
theorem dX11_delete_48 : decode cX11_delete 48 = .ok (.iload_n 2, 1) := by decide +kernel
theorem dX11_delete_49 : decode cX11_delete 49 = .ok (.invokevirtual 131, 3) := by decide +kernel
theorem dX11_delete_52 : decode cX11_delete 52 = .ok (.ifCond .ne 13, 3) := by decide +kernel
theorem dX11_delete_55 : decode cX11_delete 55 = .ok (.new 75, 3) := by decide +kernel
theorem dX11_delete_58 : decode cX11_delete 58 = .ok (.dup, 1) := by decide +kernel
theorem dX11_delete_59 : decode cX11_delete 59 = .ok (.ldc 134, 2) := by decide +kernel
theorem dX11_delete_61 : decode cX11_delete 61 = .ok (.invokespecial 79, 3) := by decide +kernel
theorem dX11_delete_64 : decode cX11_delete 64 = .ok (.athrow, 1) := by decide +kernel
theorem dX11_delete_65 : decode cX11_delete 65 = .ok (.aload_n 0, 1) := by decide +kernel
theorem dX11_delete_66 : decode cX11_delete 66 = .ok (.getfield 10, 3) := by decide +kernel
theorem dX11_delete_69 : decode cX11_delete 69 = .ok (.iload_n 1, 1) := by decide +kernel
theorem dX11_delete_70 : decode cX11_delete 70 = .ok (.bipush 25, 2) := by decide +kernel
theorem dX11_delete_72 : decode cX11_delete 72 = .ok (.invokevirtual 84, 3) := by decide +kernel
theorem dX11_delete_75 : decode cX11_delete 75 = .ok (.ireturn, 1) := by decide +kernel
theorem dX11_hold_0 : decode cX11_hold 0 = .ok (.aload_n 0, 1) := by decide +kernel
theorem dX11_hold_1 : decode cX11_hold 1 = .ok (.iload_n 1, 1) := by decide +kernel
theorem dX11_hold_2 : decode cX11_hold 2 = .ok (.invokevirtual 80, 3) := by decide +kernel
theorem dX11_hold_5 : decode cX11_hold 5 = .ok (.aload_n 0, 1) := by decide +kernel
theorem dX11_hold_6 : decode cX11_hold 6 = .ok (.getfield 10, 3) := by decide +kernel
theorem dX11_hold_9 : decode cX11_hold 9 = .ok (.iload_n 1, 1) := by decide +kernel
theorem dX11_hold_10 : decode cX11_hold 10 = .ok (.bipush 26, 2) := by decide +kernel
theorem dX11_hold_12 : decode cX11_hold 12 = .ok (.invokevirtual 84, 3) := by decide +kernel
theorem dX11_hold_15 : decode cX11_hold 15 = .ok (.iconst 1, 1) := by decide +kernel
theorem dX11_hold_16 : decode cX11_hold 16 = .ok (.if_icmp .ne 7, 3) := by decide +kernel
theorem dX11_hold_19 : decode cX11_hold 19 = .ok (.iconst 1, 1) := by decide +kernel
theorem dX11_hold_20 : decode cX11_hold 20 = .ok (.goto 4, 3) := by decide +kernel
theorem dX11_hold_23 : decode cX11_hold 23 = .ok (.iconst 0, 1) := by decide +kernel
theorem dX11_hold_24 : decode cX11_hold 24 = .ok (.istore_n 3, 1) := by decide +kernel
theorem dX11_hold_25 : decode cX11_hold 25 = .ok (.aload_n 0, 1) := by decide +kernel
theorem dX11_hold_26 : decode cX11_hold 26 = .ok (.getfield 10, 3) := by decide +kernel
theorem dX11_hold_29 : decode cX11_hold 29 = .ok (.iload_n 1, 1) := by decide +kernel
theorem dX11_hold_30 : decode cX11_hold 30 = .ok (.invokevirtual 97, 3) := by decide +kernel
theorem dX11_hold_33 : decode cX11_hold 33 = .ok (.ifCond .ne 25, 3) := by decide +kernel
theorem dX11_hold_36 : decode cX11_hold 36 = .ok (.aload_n 0, 1) := by decide +kernel
theorem dX11_hold_37 : decode cX11_hold 37 = .ok (.getfield 10, 3) := by decide +kernel
theorem dX11_hold_40 : decode cX11_hold 40 = .ok (.iload_n 1, 1) := by decide +kernel
theorem dX11_hold_41 : decode cX11_hold 41 = .ok (.bipush 26, 2) := by decide +kernel
theorem dX11_hold_43 : decode cX11_hold 43 = .ok (.iload_n 2, 1) := by decide +kernel
theorem dX11_hold_44 : decode cX11_hold 44 = .ok (.ifCond .eq 7, 3) := by decide +kernel
theorem dX11_hold_47 : decode cX11_hold 47 = .ok (.iconst 1, 1) := by decide +kernel
theorem dX11_hold_48 : decode cX11_hold 48 = .ok (.goto 4, 3) := by decide +kernel
theorem dX11_hold_51 : decode cX11_hold 51 = .ok (.iconst 0, 1) := by decide +kernel
theorem dX11_hold_52 : decode cX11_hold 52 = .ok (.invokevirtual 136, 3) := by decide +kernel
theorem dX11_hold_55 : decode cX11_hold 55 = .ok (.ifCond .ne 13, 3) := by decide +kernel
theorem dX11_hold_58 : decode cX11_hold 58 = .ok (.new 75, 3) := by decide +kernel
theorem dX11_hold_61 : decode cX11_hold 61 = .ok (.dup, 1) := by decide +kernel
theorem dX11_hold_62 : decode cX11_hold 62 = .ok (.ldc 140, 2) := by decide +kernel
theorem dX11_hold_64 : decode cX11_hold 64 = .ok (.invokespecial 79, 3) := by decide +kernel
theorem dX11_hold_67 : decode cX11_hold 67 = .ok (.athrow, 1) := by decide +kernel
theorem dX11_hold_68 : decode cX11_hold 68 = .ok (.iload_n 3, 1) := by decide +kernel
theorem dX11_hold_69 : decode cX11_hold 69 = .ok (.ireturn, 1) := by decide +kernel
theorem dX11_finish_0 : decode cX11_finish 0 = .ok (.aload_n 0, 1) := by decide +kernel
theorem dX11_finish_1 : decode cX11_finish 1 = .ok (.iload_n 1, 1) := by decide +kernel
theorem dX11_finish_2 : decode cX11_finish 2 = .ok (.invokevirtual 80, 3) := by decide +kernel
theorem dX11_finish_5 : decode cX11_finish 5 = .ok (.aload_n 0, 1) := by decide +kernel
theorem dX11_finish_6 : decode cX11_finish 6 = .ok (.iload_n 1, 1) := by decide +kernel
theorem dX11_finish_7 : decode cX11_finish 7 = .ok (.iconst 2, 1) := by decide +kernel
theorem dX11_finish_8 : decode cX11_finish 8 = .ok (.invokevirtual 142, 3) := by decide +kernel
theorem dX11_finish_11 : decode cX11_finish 11 = .ok (.aload_n 0, 1) := by decide +kernel
theorem dX11_finish_12 : decode cX11_finish 12 = .ok (.getfield 10, 3) := by decide +kernel
theorem dX11_finish_15 : decode cX11_finish 15 = .ok (.iload_n 1, 1) := by decide +kernel
theorem dX11_finish_16 : decode cX11_finish 16 = .ok (.invokevirtual 97, 3) := by decide +kernel
theorem dX11_finish_19 : decode cX11_finish 19 = .ok (.ifCond .ne 21, 3) := by decide +kernel
theorem dX11_finish_22 : decode cX11_finish 22 = .ok (.aload_n 0, 1) := by decide +kernel
theorem dX11_finish_23 : decode cX11_finish 23 = .ok (.getfield 10, 3) := by decide +kernel
theorem dX11_finish_26 : decode cX11_finish 26 = .ok (.iload_n 1, 1) := by decide +kernel
theorem dX11_finish_27 : decode cX11_finish 27 = .ok (.bipush 29, 2) := by decide +kernel
theorem dX11_finish_29 : decode cX11_finish 29 = .ok (.invokevirtual 84, 3) := by decide +kernel
theorem dX11_finish_32 : decode cX11_finish 32 = .ok (.iconst 1, 1) := by decide +kernel
theorem dX11_finish_33 : decode cX11_finish 33 = .ok (.if_icmp .ne 7, 3) := by decide +kernel
theorem dX11_finish_36 : decode cX11_finish 36 = .ok (.iconst 1, 1) := by decide +kernel
theorem dX11_finish_37 : decode cX11_finish 37 = .ok (.goto 4, 3) := by decide +kernel
theorem dX11_finish_40 : decode cX11_finish 40 = .ok (.iconst 0, 1) := by decide +kernel
theorem dX11_finish_41 : decode cX11_finish 41 = .ok (.istore_n 3, 1) := by decide +kernel
theorem dX11_finish_42 : decode cX11_finish 42 = .ok (.iload_n 3, 1) := by decide +kernel
theorem dX11_finish_43 : decode cX11_finish 43 = .ok (.ifCond .eq 25, 3) := by decide +kernel
theorem dX11_finish_46 : decode cX11_finish 46 = .ok (.aload_n 0, 1) := by decide +kernel
theorem dX11_finish_47 : decode cX11_finish 47 = .ok (.getfield 10, 3) := by decide +kernel
theorem dX11_finish_50 : decode cX11_finish 50 = .ok (.iload_n 1, 1) := by decide +kernel
theorem dX11_finish_51 : decode cX11_finish 51 = .ok (.bipush 29, 2) := by decide +kernel
theorem dX11_finish_53 : decode cX11_finish 53 = .ok (.iload_n 2, 1) := by decide +kernel
theorem dX11_finish_54 : decode cX11_finish 54 = .ok (.ifCond .eq 7, 3) := by decide +kernel
theorem dX11_finish_57 : decode cX11_finish 57 = .ok (.iconst 2, 1) := by decide +kernel
theorem dX11_finish_58 : decode cX11_finish 58 = .ok (.goto 4, 3) := by decide +kernel
theorem dX11_finish_61 : decode cX11_finish 61 = .ok (.iconst 3, 1) := by decide +kernel
theorem dX11_finish_62 : decode cX11_finish 62 = .ok (.invokevirtual 136, 3) := by decide +kernel
theorem dX11_finish_65 : decode cX11_finish 65 = .ok (.ifCond .ne 13, 3) := by decide +kernel
theorem dX11_finish_68 : decode cX11_finish 68 = .ok (.new 75, 3) := by decide +kernel
theorem dX11_finish_71 : decode cX11_finish 71 = .ok (.dup, 1) := by decide +kernel
theorem dX11_finish_72 : decode cX11_finish 72 = .ok (.ldc 146, 2) := by decide +kernel
theorem dX11_finish_74 : decode cX11_finish 74 = .ok (.invokespecial 79, 3) := by decide +kernel
theorem dX11_finish_77 : decode cX11_finish 77 = .ok (.athrow, 1) := by decide +kernel
theorem dX11_finish_78 : decode cX11_finish 78 = .ok (.aload_n 0, 1) := by decide +kernel
theorem dX11_finish_79 : decode cX11_finish 79 = .ok (.getfield 10, 3) := by decide +kernel
theorem dX11_finish_82 : decode cX11_finish 82 = .ok (.iload_n 1, 1) := by decide +kernel
theorem dX11_finish_83 : decode cX11_finish 83 = .ok (.invokevirtual 100, 3) := by decide +kernel
theorem dX11_finish_86 : decode cX11_finish 86 = .ok (.ireturn, 1) := by decide +kernel
theorem dX11_rule_0 : decode cX11_rule 0 = .ok (.iload_n 1, 1) := by decide +kernel
theorem dX11_rule_1 : decode cX11_rule 1 = .ok (.iload_n 2, 1) := by decide +kernel
theorem dX11_rule_2 : decode cX11_rule 2 = .ok (.invokestatic 88, 3) := by decide +kernel
theorem dX11_rule_5 : decode cX11_rule 5 = .ok (.ifCond .eq 28, 3) := by decide +kernel
theorem dX11_rule_8 : decode cX11_rule 8 = .ok (.iload_n 1, 1) := by decide +kernel
theorem dX11_rule_9 : decode cX11_rule 9 = .ok (.iload 5, 2) := by decide +kernel
theorem dX11_rule_11 : decode cX11_rule 11 = .ok (.invokestatic 88, 3) := by decide +kernel
theorem dX11_rule_14 : decode cX11_rule 14 = .ok (.ifCond .eq 19, 3) := by decide +kernel
theorem dX11_rule_17 : decode cX11_rule 17 = .ok (.iload_n 3, 1) := by decide +kernel
theorem dX11_rule_18 : decode cX11_rule 18 = .ok (.iload 4, 2) := by decide +kernel
theorem dX11_rule_20 : decode cX11_rule 20 = .ok (.if_icmp .gt 13, 3) := by decide +kernel
theorem dX11_rule_23 : decode cX11_rule 23 = .ok (.iload 5, 2) := by decide +kernel
theorem dX11_rule_25 : decode cX11_rule 25 = .ok (.iload 6, 2) := by decide +kernel
theorem dX11_rule_27 : decode cX11_rule 27 = .ok (.invokestatic 92, 3) := by decide +kernel
theorem dX11_rule_30 : decode cX11_rule 30 = .ok (.ifCond .ne 13, 3) := by decide +kernel
theorem dX11_rule_33 : decode cX11_rule 33 = .ok (.new 61, 3) := by decide +kernel
theorem dX11_rule_36 : decode cX11_rule 36 = .ok (.dup, 1) := by decide +kernel
theorem dX11_rule_37 : decode cX11_rule 37 = .ok (.ldc 148, 2) := by decide +kernel
theorem dX11_rule_39 : decode cX11_rule 39 = .ok (.invokespecial 65, 3) := by decide +kernel
theorem dX11_rule_42 : decode cX11_rule 42 = .ok (.athrow, 1) := by decide +kernel
theorem dX11_rule_43 : decode cX11_rule 43 = .ok (.aload_n 0, 1) := by decide +kernel
theorem dX11_rule_44 : decode cX11_rule 44 = .ok (.getfield 10, 3) := by decide +kernel
theorem dX11_rule_47 : decode cX11_rule 47 = .ok (.getfield 150, 3) := by decide +kernel
theorem dX11_rule_50 : decode cX11_rule 50 = .ok (.iload_n 1, 1) := by decide +kernel
theorem dX11_rule_51 : decode cX11_rule 51 = .ok (.iload_n 2, 1) := by decide +kernel
theorem dX11_rule_52 : decode cX11_rule 52 = .ok (.iload_n 3, 1) := by decide +kernel
theorem dX11_rule_53 : decode cX11_rule 53 = .ok (.iload 4, 2) := by decide +kernel
theorem dX11_rule_55 : decode cX11_rule 55 = .ok (.iload 5, 2) := by decide +kernel
theorem dX11_rule_57 : decode cX11_rule 57 = .ok (.iload 6, 2) := by decide +kernel
theorem dX11_rule_59 : decode cX11_rule 59 = .ok (.invokevirtual 154, 3) := by decide +kernel
theorem dX11_rule_62 : decode cX11_rule 62 = .ok (.ifCond .ne 13, 3) := by decide +kernel
theorem dX11_rule_65 : decode cX11_rule 65 = .ok (.new 75, 3) := by decide +kernel
theorem dX11_rule_68 : decode cX11_rule 68 = .ok (.dup, 1) := by decide +kernel
theorem dX11_rule_69 : decode cX11_rule 69 = .ok (.ldc 160, 2) := by decide +kernel
theorem dX11_rule_71 : decode cX11_rule 71 = .ok (.invokespecial 79, 3) := by decide +kernel
theorem dX11_rule_74 : decode cX11_rule 74 = .ok (.athrow, 1) := by decide +kernel
theorem dX11_rule_75 : decode cX11_rule 75 = .ok (.aload_n 0, 1) := by decide +kernel
theorem dX11_rule_76 : decode cX11_rule 76 = .ok (.getfield 10, 3) := by decide +kernel
theorem dX11_rule_79 : decode cX11_rule 79 = .ok (.getfield 150, 3) := by decide +kernel
theorem dX11_rule_82 : decode cX11_rule 82 = .ok (.getfield 162, 3) := by decide +kernel
theorem dX11_rule_85 : decode cX11_rule 85 = .ok (.ireturn, 1) := by decide +kernel
theorem dX11_check_0 : decode cX11_check 0 = .ok (.iload_n 1, 1) := by decide +kernel
theorem dX11_check_1 : decode cX11_check 1 = .ok (.iload_n 2, 1) := by decide +kernel
theorem dX11_check_2 : decode cX11_check 2 = .ok (.invokestatic 88, 3) := by decide +kernel
theorem dX11_check_5 : decode cX11_check 5 = .ok (.ifCond .ne 13, 3) := by decide +kernel
theorem dX11_check_8 : decode cX11_check 8 = .ok (.new 61, 3) := by decide +kernel
theorem dX11_check_11 : decode cX11_check 11 = .ok (.dup, 1) := by decide +kernel
theorem dX11_check_12 : decode cX11_check 12 = .ok (.ldc 166, 2) := by decide +kernel
theorem dX11_check_14 : decode cX11_check 14 = .ok (.invokespecial 65, 3) := by decide +kernel
theorem dX11_check_17 : decode cX11_check 17 = .ok (.athrow, 1) := by decide +kernel
theorem dX11_check_18 : decode cX11_check 18 = .ok (.aload_n 0, 1) := by decide +kernel
theorem dX11_check_19 : decode cX11_check 19 = .ok (.getfield 10, 3) := by decide +kernel
theorem dX11_check_22 : decode cX11_check 22 = .ok (.getfield 150, 3) := by decide +kernel
theorem dX11_check_25 : decode cX11_check 25 = .ok (.iload_n 1, 1) := by decide +kernel
theorem dX11_check_26 : decode cX11_check 26 = .ok (.iload_n 2, 1) := by decide +kernel
theorem dX11_check_27 : decode cX11_check 27 = .ok (.iload_n 3, 1) := by decide +kernel
theorem dX11_check_28 : decode cX11_check 28 = .ok (.invokevirtual 168, 3) := by decide +kernel
theorem dX11_check_31 : decode cX11_check 31 = .ok (.ifCond .ne 13, 3) := by decide +kernel
theorem dX11_check_34 : decode cX11_check 34 = .ok (.new 75, 3) := by decide +kernel
theorem dX11_check_37 : decode cX11_check 37 = .ok (.dup, 1) := by decide +kernel
theorem dX11_check_38 : decode cX11_check 38 = .ok (.ldc 171, 2) := by decide +kernel
theorem dX11_check_40 : decode cX11_check 40 = .ok (.invokespecial 79, 3) := by decide +kernel
theorem dX11_check_43 : decode cX11_check 43 = .ok (.athrow, 1) := by decide +kernel
theorem dX11_check_44 : decode cX11_check 44 = .ok (.aload_n 0, 1) := by decide +kernel
theorem dX11_check_45 : decode cX11_check 45 = .ok (.getfield 10, 3) := by decide +kernel
theorem dX11_check_48 : decode cX11_check 48 = .ok (.getfield 150, 3) := by decide +kernel
theorem dX11_check_51 : decode cX11_check 51 = .ok (.getfield 173, 3) := by decide +kernel
theorem dX11_check_54 : decode cX11_check 54 = .ok (.ireturn, 1) := by decide +kernel
theorem dX11_quota_0 : decode cX11_quota 0 = .ok (.iload_n 1, 1) := by decide +kernel
theorem dX11_quota_1 : decode cX11_quota 1 = .ok (.ifCond .lt 9, 3) := by decide +kernel
theorem dX11_quota_4 : decode cX11_quota 4 = .ok (.iload_n 1, 1) := by decide +kernel
theorem dX11_quota_5 : decode cX11_quota 5 = .ok (.bipush 60, 2) := by decide +kernel
theorem dX11_quota_7 : decode cX11_quota 7 = .ok (.if_icmp .le 13, 3) := by decide +kernel
theorem dX11_quota_10 : decode cX11_quota 10 = .ok (.new 61, 3) := by decide +kernel
theorem dX11_quota_13 : decode cX11_quota 13 = .ok (.dup, 1) := by decide +kernel
theorem dX11_quota_14 : decode cX11_quota 14 = .ok (.ldc 180, 2) := by decide +kernel
theorem dX11_quota_16 : decode cX11_quota 16 = .ok (.invokespecial 65, 3) := by decide +kernel
theorem dX11_quota_19 : decode cX11_quota 19 = .ok (.athrow, 1) := by decide +kernel
theorem dX11_quota_20 : decode cX11_quota 20 = .ok (.aload_n 0, 1) := by decide +kernel
theorem dX11_quota_21 : decode cX11_quota 21 = .ok (.getfield 10, 3) := by decide +kernel
theorem dX11_quota_24 : decode cX11_quota 24 = .ok (.getfield 150, 3) := by decide +kernel
theorem dX11_quota_27 : decode cX11_quota 27 = .ok (.getfield 182, 3) := by decide +kernel
theorem dX11_quota_30 : decode cX11_quota 30 = .ok (.istore_n 2, 1) := by decide +kernel
theorem dX11_quota_31 : decode cX11_quota 31 = .ok (.aload_n 0, 1) := by decide +kernel
theorem dX11_quota_32 : decode cX11_quota 32 = .ok (.getfield 10, 3) := by decide +kernel
theorem dX11_quota_35 : decode cX11_quota 35 = .ok (.getfield 150, 3) := by decide +kernel
theorem dX11_quota_38 : decode cX11_quota 38 = .ok (.iload_n 1, 1) := by decide +kernel
theorem dX11_quota_39 : decode cX11_quota 39 = .ok (.putfield 182, 3) := by decide +kernel
theorem dX11_quota_42 : decode cX11_quota 42 = .ok (.iload_n 2, 1) := by decide +kernel
theorem dX11_quota_43 : decode cX11_quota 43 = .ok (.ireturn, 1) := by decide +kernel
theorem dX11_see_0 : decode cX11_see 0 = .ok (.aload_n 0, 1) := by decide +kernel
theorem dX11_see_1 : decode cX11_see 1 = .ok (.iload_n 1, 1) := by decide +kernel
theorem dX11_see_2 : decode cX11_see 2 = .ok (.invokevirtual 185, 3) := by decide +kernel
theorem dX11_see_5 : decode cX11_see 5 = .ok (.astore_n 3, 1) := by decide +kernel
theorem dX11_see_6 : decode cX11_see 6 = .ok (.aload_n 3, 1) := by decide +kernel
theorem dX11_see_7 : decode cX11_see 7 = .ok (.ifnull 15, 3) := by decide +kernel
theorem dX11_see_10 : decode cX11_see 10 = .ok (.iload_n 2, 1) := by decide +kernel
theorem dX11_see_11 : decode cX11_see 11 = .ok (.iconst 1, 1) := by decide +kernel
theorem dX11_see_12 : decode cX11_see 12 = .ok (.if_icmp .lt 10, 3) := by decide +kernel
theorem dX11_see_15 : decode cX11_see 15 = .ok (.iload_n 2, 1) := by decide +kernel
theorem dX11_see_16 : decode cX11_see 16 = .ok (.sipush 400, 3) := by decide +kernel
theorem dX11_see_19 : decode cX11_see 19 = .ok (.if_icmp .le 13, 3) := by decide +kernel
theorem dX11_see_22 : decode cX11_see 22 = .ok (.new 61, 3) := by decide +kernel
theorem dX11_see_25 : decode cX11_see 25 = .ok (.dup, 1) := by decide +kernel
theorem dX11_see_26 : decode cX11_see 26 = .ok (.ldc 189, 2) := by decide +kernel
theorem dX11_see_28 : decode cX11_see 28 = .ok (.invokespecial 65, 3) := by decide +kernel
theorem dX11_see_31 : decode cX11_see 31 = .ok (.athrow, 1) := by decide +kernel
theorem dX11_see_32 : decode cX11_see 32 = .ok (.aload_n 3, 1) := by decide +kernel
theorem dX11_see_33 : decode cX11_see 33 = .ok (.iload_n 2, 1) := by decide +kernel
theorem dX11_see_34 : decode cX11_see 34 = .ok (.invokevirtual 191, 3) := by decide +kernel
theorem dX11_see_37 : decode cX11_see 37 = .ok (.ireturn, 1) := by decide +kernel
theorem dX11_work_0 : decode cX11_work 0 = .ok (.aload_n 0, 1) := by decide +kernel
theorem dX11_work_1 : decode cX11_work 1 = .ok (.iload_n 1, 1) := by decide +kernel
theorem dX11_work_2 : decode cX11_work 2 = .ok (.invokevirtual 185, 3) := by decide +kernel
theorem dX11_work_5 : decode cX11_work 5 = .ok (.astore_n 2, 1) := by decide +kernel
theorem dX11_work_6 : decode cX11_work 6 = .ok (.aload_n 2, 1) := by decide +kernel
theorem dX11_work_7 : decode cX11_work 7 = .ok (.ifnonnull 13, 3) := by decide +kernel
theorem dX11_work_10 : decode cX11_work 10 = .ok (.new 61, 3) := by decide +kernel
theorem dX11_work_13 : decode cX11_work 13 = .ok (.dup, 1) := by decide +kernel
theorem dX11_work_14 : decode cX11_work 14 = .ok (.ldc 194, 2) := by decide +kernel
theorem dX11_work_16 : decode cX11_work 16 = .ok (.invokespecial 65, 3) := by decide +kernel
theorem dX11_work_19 : decode cX11_work 19 = .ok (.athrow, 1) := by decide +kernel
theorem dX11_work_20 : decode cX11_work 20 = .ok (.aload_n 2, 1) := by decide +kernel
theorem dX11_work_21 : decode cX11_work 21 = .ok (.invokevirtual 196, 3) := by decide +kernel
theorem dX11_work_24 : decode cX11_work 24 = .ok (.ireturn, 1) := by decide +kernel
theorem dX11_turn_0 : decode cX11_turn 0 = .ok (.iload_n 1, 1) := by decide +kernel
theorem dX11_turn_1 : decode cX11_turn 1 = .ok (.iconst 1, 1) := by decide +kernel
theorem dX11_turn_2 : decode cX11_turn 2 = .ok (.if_icmp .lt 9, 3) := by decide +kernel
theorem dX11_turn_5 : decode cX11_turn 5 = .ok (.iload_n 1, 1) := by decide +kernel
theorem dX11_turn_6 : decode cX11_turn 6 = .ok (.bipush 10, 2) := by decide +kernel
theorem dX11_turn_8 : decode cX11_turn 8 = .ok (.if_icmp .le 13, 3) := by decide +kernel
theorem dX11_turn_11 : decode cX11_turn 11 = .ok (.new 61, 3) := by decide +kernel
theorem dX11_turn_14 : decode cX11_turn 14 = .ok (.dup, 1) := by decide +kernel
theorem dX11_turn_15 : decode cX11_turn 15 = .ok (.ldc 199, 2) := by decide +kernel
theorem dX11_turn_17 : decode cX11_turn 17 = .ok (.invokespecial 65, 3) := by decide +kernel
theorem dX11_turn_20 : decode cX11_turn 20 = .ok (.athrow, 1) := by decide +kernel
theorem dX11_turn_21 : decode cX11_turn 21 = .ok (.aload_n 0, 1) := by decide +kernel
theorem dX11_turn_22 : decode cX11_turn 22 = .ok (.getfield 10, 3) := by decide +kernel
theorem dX11_turn_25 : decode cX11_turn 25 = .ok (.getfield 201, 3) := by decide +kernel
theorem dX11_turn_28 : decode cX11_turn 28 = .ok (.istore_n 2, 1) := by decide +kernel
theorem dX11_turn_29 : decode cX11_turn 29 = .ok (.iconst 0, 1) := by decide +kernel
theorem dX11_turn_30 : decode cX11_turn 30 = .ok (.istore_n 3, 1) := by decide +kernel
theorem dX11_turn_31 : decode cX11_turn 31 = .ok (.iload_n 3, 1) := by decide +kernel
theorem dX11_turn_32 : decode cX11_turn 32 = .ok (.iload_n 1, 1) := by decide +kernel
theorem dX11_turn_33 : decode cX11_turn 33 = .ok (.if_icmp .ge 71, 3) := by decide +kernel
theorem dX11_turn_36 : decode cX11_turn 36 = .ok (.iconst 0, 1) := by decide +kernel
theorem dX11_turn_37 : decode cX11_turn 37 = .ok (.istore 4, 2) := by decide +kernel
theorem dX11_turn_39 : decode cX11_turn 39 = .ok (.iload 4, 2) := by decide +kernel
theorem dX11_turn_41 : decode cX11_turn 41 = .ok (.bipush 8, 2) := by decide +kernel
theorem dX11_turn_43 : decode cX11_turn 43 = .ok (.if_icmp .ge 55, 3) := by decide +kernel
theorem dX11_turn_46 : decode cX11_turn 46 = .ok (.aload_n 0, 1) := by decide +kernel
theorem dX11_turn_47 : decode cX11_turn 47 = .ok (.iload 4, 2) := by decide +kernel
theorem dX11_turn_49 : decode cX11_turn 49 = .ok (.invokevirtual 185, 3) := by decide +kernel
theorem dX11_turn_52 : decode cX11_turn 52 = .ok (.astore 5, 2) := by decide +kernel
theorem dX11_turn_54 : decode cX11_turn 54 = .ok (.aload 5, 2) := by decide +kernel
theorem dX11_turn_56 : decode cX11_turn 56 = .ok (.ifnonnull 7, 3) := by decide +kernel
theorem dX11_turn_59 : decode cX11_turn 59 = .ok (.iconst 0, 1) := by decide +kernel
theorem dX11_turn_60 : decode cX11_turn 60 = .ok (.goto 8, 3) := by decide +kernel
theorem dX11_turn_63 : decode cX11_turn 63 = .ok (.aload 5, 2) := by decide +kernel
theorem dX11_turn_65 : decode cX11_turn 65 = .ok (.invokevirtual 204, 3) := by decide +kernel
theorem dX11_turn_68 : decode cX11_turn 68 = .ok (.istore 6, 2) := by decide +kernel
theorem dX11_turn_70 : decode cX11_turn 70 = .ok (.iconst 0, 1) := by decide +kernel
theorem dX11_turn_71 : decode cX11_turn 71 = .ok (.istore 7, 2) := by decide +kernel
theorem dX11_turn_73 : decode cX11_turn 73 = .ok (.iload 7, 2) := by decide +kernel
theorem dX11_turn_75 : decode cX11_turn 75 = .ok (.iload 6, 2) := by decide +kernel
theorem dX11_turn_77 : decode cX11_turn 77 = .ok (.if_icmp .ge 15, 3) := by decide +kernel
theorem dX11_turn_80 : decode cX11_turn 80 = .ok (.aload 5, 2) := by decide +kernel
theorem dX11_turn_82 : decode cX11_turn 82 = .ok (.invokevirtual 196, 3) := by decide +kernel
theorem dX11_turn_85 : decode cX11_turn 85 = .ok (.pop, 1) := by decide +kernel
theorem dX11_turn_86 : decode cX11_turn 86 = .ok (.iinc 7 1, 3) := by decide +kernel
theorem dX11_turn_89 : decode cX11_turn 89 = .ok (.goto (-16), 3) := by decide +kernel
theorem dX11_turn_92 : decode cX11_turn 92 = .ok (.iinc 4 1, 3) := by decide +kernel
theorem dX11_turn_95 : decode cX11_turn 95 = .ok (.goto (-56), 3) := by decide +kernel
theorem dX11_turn_98 : decode cX11_turn 98 = .ok (.iinc 3 1, 3) := by decide +kernel
theorem dX11_turn_101 : decode cX11_turn 101 = .ok (.goto (-70), 3) := by decide +kernel
theorem dX11_turn_104 : decode cX11_turn 104 = .ok (.aload_n 0, 1) := by decide +kernel
theorem dX11_turn_105 : decode cX11_turn 105 = .ok (.getfield 10, 3) := by decide +kernel
theorem dX11_turn_108 : decode cX11_turn 108 = .ok (.getfield 201, 3) := by decide +kernel
theorem dX11_turn_111 : decode cX11_turn 111 = .ok (.iload_n 2, 1) := by decide +kernel
theorem dX11_turn_112 : decode cX11_turn 112 = .ok (.isub, 1) := by decide +kernel
theorem dX11_turn_113 : decode cX11_turn 113 = .ok (.ireturn, 1) := by decide +kernel
theorem dX11_seen_0 : decode cX11_seen 0 = .ok (.aload_n 0, 1) := by decide +kernel
theorem dX11_seen_1 : decode cX11_seen 1 = .ok (.iload_n 1, 1) := by decide +kernel
theorem dX11_seen_2 : decode cX11_seen 2 = .ok (.invokevirtual 185, 3) := by decide +kernel
theorem dX11_seen_5 : decode cX11_seen 5 = .ok (.astore_n 2, 1) := by decide +kernel
theorem dX11_seen_6 : decode cX11_seen 6 = .ok (.aload_n 2, 1) := by decide +kernel
theorem dX11_seen_7 : decode cX11_seen 7 = .ok (.ifnonnull 13, 3) := by decide +kernel
theorem dX11_seen_10 : decode cX11_seen 10 = .ok (.new 61, 3) := by decide +kernel
theorem dX11_seen_13 : decode cX11_seen 13 = .ok (.dup, 1) := by decide +kernel
theorem dX11_seen_14 : decode cX11_seen 14 = .ok (.ldc 194, 2) := by decide +kernel
theorem dX11_seen_16 : decode cX11_seen 16 = .ok (.invokespecial 65, 3) := by decide +kernel
theorem dX11_seen_19 : decode cX11_seen 19 = .ok (.athrow, 1) := by decide +kernel
theorem dX11_seen_20 : decode cX11_seen 20 = .ok (.aload_n 2, 1) := by decide +kernel
theorem dX11_seen_21 : decode cX11_seen 21 = .ok (.getfield 207, 3) := by decide +kernel
theorem dX11_seen_24 : decode cX11_seen 24 = .ok (.ireturn, 1) := by decide +kernel
theorem dX11_queued_0 : decode cX11_queued 0 = .ok (.aload_n 0, 1) := by decide +kernel
theorem dX11_queued_1 : decode cX11_queued 1 = .ok (.iload_n 1, 1) := by decide +kernel
theorem dX11_queued_2 : decode cX11_queued 2 = .ok (.invokevirtual 185, 3) := by decide +kernel
theorem dX11_queued_5 : decode cX11_queued 5 = .ok (.astore_n 3, 1) := by decide +kernel
theorem dX11_queued_6 : decode cX11_queued 6 = .ok (.aload_n 3, 1) := by decide +kernel
theorem dX11_queued_7 : decode cX11_queued 7 = .ok (.ifnonnull 13, 3) := by decide +kernel
theorem dX11_queued_10 : decode cX11_queued 10 = .ok (.new 61, 3) := by decide +kernel
theorem dX11_queued_13 : decode cX11_queued 13 = .ok (.dup, 1) := by decide +kernel
theorem dX11_queued_14 : decode cX11_queued 14 = .ok (.ldc 194, 2) := by decide +kernel
theorem dX11_queued_16 : decode cX11_queued 16 = .ok (.invokespecial 65, 3) := by decide +kernel
theorem dX11_queued_19 : decode cX11_queued 19 = .ok (.athrow, 1) := by decide +kernel
theorem dX11_queued_20 : decode cX11_queued 20 = .ok (.iload_n 2, 1) := by decide +kernel
theorem dX11_queued_21 : decode cX11_queued 21 = .ok (.ifCond .ge 13, 3) := by decide +kernel
theorem dX11_queued_24 : decode cX11_queued 24 = .ok (.new 208, 3) := by decide +kernel
theorem dX11_queued_27 : decode cX11_queued 27 = .ok (.dup, 1) := by decide +kernel
theorem dX11_queued_28 : decode cX11_queued 28 = .ok (.ldc 210, 2) := by decide +kernel
theorem dX11_queued_30 : decode cX11_queued 30 = .ok (.invokespecial 212, 3) := by decide +kernel
theorem dX11_queued_33 : decode cX11_queued 33 = .ok (.athrow, 1) := by decide +kernel
theorem dX11_queued_34 : decode cX11_queued 34 = .ok (.aload_n 3, 1) := by decide +kernel
theorem dX11_queued_35 : decode cX11_queued 35 = .ok (.iload_n 2, 1) := by decide +kernel
theorem dX11_queued_36 : decode cX11_queued 36 = .ok (.invokevirtual 213, 3) := by decide +kernel
theorem dX11_queued_39 : decode cX11_queued 39 = .ok (.ireturn, 1) := by decide +kernel
theorem dX11_failures_0 : decode cX11_failures 0 = .ok (.aload_n 0, 1) := by decide +kernel
theorem dX11_failures_1 : decode cX11_failures 1 = .ok (.iload_n 1, 1) := by decide +kernel
theorem dX11_failures_2 : decode cX11_failures 2 = .ok (.invokevirtual 185, 3) := by decide +kernel
theorem dX11_failures_5 : decode cX11_failures 5 = .ok (.astore_n 3, 1) := by decide +kernel
theorem dX11_failures_6 : decode cX11_failures 6 = .ok (.aload_n 3, 1) := by decide +kernel
theorem dX11_failures_7 : decode cX11_failures 7 = .ok (.ifnonnull 13, 3) := by decide +kernel
theorem dX11_failures_10 : decode cX11_failures 10 = .ok (.new 61, 3) := by decide +kernel
theorem dX11_failures_13 : decode cX11_failures 13 = .ok (.dup, 1) := by decide +kernel
theorem dX11_failures_14 : decode cX11_failures 14 = .ok (.ldc 194, 2) := by decide +kernel
theorem dX11_failures_16 : decode cX11_failures 16 = .ok (.invokespecial 65, 3) := by decide +kernel
theorem dX11_failures_19 : decode cX11_failures 19 = .ok (.athrow, 1) := by decide +kernel
theorem dX11_failures_20 : decode cX11_failures 20 = .ok (.aload_n 0, 1) := by decide +kernel
theorem dX11_failures_21 : decode cX11_failures 21 = .ok (.iload_n 2, 1) := by decide +kernel
theorem dX11_failures_22 : decode cX11_failures 22 = .ok (.invokevirtual 80, 3) := by decide +kernel
theorem dX11_failures_25 : decode cX11_failures 25 = .ok (.aload_n 3, 1) := by decide +kernel
theorem dX11_failures_26 : decode cX11_failures 26 = .ok (.getfield 216, 3) := by decide +kernel
theorem dX11_failures_29 : decode cX11_failures 29 = .ok (.iload_n 2, 1) := by decide +kernel
theorem dX11_failures_30 : decode cX11_failures 30 = .ok (.iaload, 1) := by decide +kernel
theorem dX11_failures_31 : decode cX11_failures 31 = .ok (.ireturn, 1) := by decide +kernel
theorem dX11_believed_0 : decode cX11_believed 0 = .ok (.aload_n 0, 1) := by decide +kernel
theorem dX11_believed_1 : decode cX11_believed 1 = .ok (.iload_n 1, 1) := by decide +kernel
theorem dX11_believed_2 : decode cX11_believed 2 = .ok (.invokevirtual 185, 3) := by decide +kernel
theorem dX11_believed_5 : decode cX11_believed 5 = .ok (.astore 4, 2) := by decide +kernel
theorem dX11_believed_7 : decode cX11_believed 7 = .ok (.aload 4, 2) := by decide +kernel
theorem dX11_believed_9 : decode cX11_believed 9 = .ok (.ifnonnull 13, 3) := by decide +kernel
theorem dX11_believed_12 : decode cX11_believed 12 = .ok (.new 61, 3) := by decide +kernel
theorem dX11_believed_15 : decode cX11_believed 15 = .ok (.dup, 1) := by decide +kernel
theorem dX11_believed_16 : decode cX11_believed 16 = .ok (.ldc 194, 2) := by decide +kernel
theorem dX11_believed_18 : decode cX11_believed 18 = .ok (.invokespecial 65, 3) := by decide +kernel
theorem dX11_believed_21 : decode cX11_believed 21 = .ok (.athrow, 1) := by decide +kernel
theorem dX11_believed_22 : decode cX11_believed 22 = .ok (.aload_n 0, 1) := by decide +kernel
theorem dX11_believed_23 : decode cX11_believed 23 = .ok (.iload_n 2, 1) := by decide +kernel
theorem dX11_believed_24 : decode cX11_believed 24 = .ok (.invokevirtual 80, 3) := by decide +kernel
theorem dX11_believed_27 : decode cX11_believed 27 = .ok (.aload_n 0, 1) := by decide +kernel
theorem dX11_believed_28 : decode cX11_believed 28 = .ok (.iload_n 2, 1) := by decide +kernel
theorem dX11_believed_29 : decode cX11_believed 29 = .ok (.iload_n 3, 1) := by decide +kernel
theorem dX11_believed_30 : decode cX11_believed 30 = .ok (.invokevirtual 219, 3) := by decide +kernel
theorem dX11_believed_33 : decode cX11_believed 33 = .ok (.aload 4, 2) := by decide +kernel
theorem dX11_believed_35 : decode cX11_believed 35 = .ok (.iload_n 2, 1) := by decide +kernel
theorem dX11_believed_36 : decode cX11_believed 36 = .ok (.iload_n 3, 1) := by decide +kernel
theorem dX11_believed_37 : decode cX11_believed 37 = .ok (.invokevirtual 222, 3) := by decide +kernel
theorem dX11_believed_40 : decode cX11_believed 40 = .ok (.ireturn, 1) := by decide +kernel
theorem dX11_isSettled_0 : decode cX11_isSettled 0 = .ok (.iconst 0, 1) := by decide +kernel
theorem dX11_isSettled_1 : decode cX11_isSettled 1 = .ok (.istore_n 1, 1) := by decide +kernel
theorem dX11_isSettled_2 : decode cX11_isSettled 2 = .ok (.iload_n 1, 1) := by decide +kernel
theorem dX11_isSettled_3 : decode cX11_isSettled 3 = .ok (.bipush 8, 2) := by decide +kernel
theorem dX11_isSettled_5 : decode cX11_isSettled 5 = .ok (.if_icmp .ge 42, 3) := by decide +kernel
theorem dX11_isSettled_8 : decode cX11_isSettled 8 = .ok (.aload_n 0, 1) := by decide +kernel
theorem dX11_isSettled_9 : decode cX11_isSettled 9 = .ok (.iload_n 1, 1) := by decide +kernel
theorem dX11_isSettled_10 : decode cX11_isSettled 10 = .ok (.invokevirtual 185, 3) := by decide +kernel
theorem dX11_isSettled_13 : decode cX11_isSettled 13 = .ok (.astore_n 2, 1) := by decide +kernel
theorem dX11_isSettled_14 : decode cX11_isSettled 14 = .ok (.aload_n 2, 1) := by decide +kernel
theorem dX11_isSettled_15 : decode cX11_isSettled 15 = .ok (.ifnull 26, 3) := by decide +kernel
theorem dX11_isSettled_18 : decode cX11_isSettled 18 = .ok (.aload_n 2, 1) := by decide +kernel
theorem dX11_isSettled_19 : decode cX11_isSettled 19 = .ok (.getfield 207, 3) := by decide +kernel
theorem dX11_isSettled_22 : decode cX11_isSettled 22 = .ok (.aload_n 0, 1) := by decide +kernel
theorem dX11_isSettled_23 : decode cX11_isSettled 23 = .ok (.getfield 10, 3) := by decide +kernel
theorem dX11_isSettled_26 : decode cX11_isSettled 26 = .ok (.getfield 201, 3) := by decide +kernel
theorem dX11_isSettled_29 : decode cX11_isSettled 29 = .ok (.if_icmp .ne 10, 3) := by decide +kernel
theorem dX11_isSettled_32 : decode cX11_isSettled 32 = .ok (.aload_n 2, 1) := by decide +kernel
theorem dX11_isSettled_33 : decode cX11_isSettled 33 = .ok (.getfield 223, 3) := by decide +kernel
theorem dX11_isSettled_36 : decode cX11_isSettled 36 = .ok (.ifCond .le 5, 3) := by decide +kernel
theorem dX11_isSettled_39 : decode cX11_isSettled 39 = .ok (.iconst 0, 1) := by decide +kernel
theorem dX11_isSettled_40 : decode cX11_isSettled 40 = .ok (.ireturn, 1) := by decide +kernel
theorem dX11_isSettled_41 : decode cX11_isSettled 41 = .ok (.iinc 1 1, 3) := by decide +kernel
theorem dX11_isSettled_44 : decode cX11_isSettled 44 = .ok (.goto (-42), 3) := by decide +kernel
theorem dX11_isSettled_47 : decode cX11_isSettled 47 = .ok (.iconst 1, 1) := by decide +kernel
theorem dX11_isSettled_48 : decode cX11_isSettled 48 = .ok (.ireturn, 1) := by decide +kernel
theorem dX11_watch_0 : decode cX11_watch 0 = .ok (.iload_n 1, 1) := by decide +kernel
theorem dX11_watch_1 : decode cX11_watch 1 = .ok (.invokestatic 226, 3) := by decide +kernel
theorem dX11_watch_4 : decode cX11_watch 4 = .ok (.ifCond .eq 18, 3) := by decide +kernel
theorem dX11_watch_7 : decode cX11_watch 7 = .ok (.iload_n 2, 1) := by decide +kernel
theorem dX11_watch_8 : decode cX11_watch 8 = .ok (.ifCond .lt 14, 3) := by decide +kernel
theorem dX11_watch_11 : decode cX11_watch 11 = .ok (.iload_n 2, 1) := by decide +kernel
theorem dX11_watch_12 : decode cX11_watch 12 = .ok (.aload_n 0, 1) := by decide +kernel
theorem dX11_watch_13 : decode cX11_watch 13 = .ok (.getfield 10, 3) := by decide +kernel
theorem dX11_watch_16 : decode cX11_watch 16 = .ok (.getfield 201, 3) := by decide +kernel
theorem dX11_watch_19 : decode cX11_watch 19 = .ok (.if_icmp .le 13, 3) := by decide +kernel
theorem dX11_watch_22 : decode cX11_watch 22 = .ok (.new 61, 3) := by decide +kernel
theorem dX11_watch_25 : decode cX11_watch 25 = .ok (.dup, 1) := by decide +kernel
theorem dX11_watch_26 : decode cX11_watch 26 = .ok (.ldc 229, 2) := by decide +kernel
theorem dX11_watch_28 : decode cX11_watch 28 = .ok (.invokespecial 65, 3) := by decide +kernel
theorem dX11_watch_31 : decode cX11_watch 31 = .ok (.athrow, 1) := by decide +kernel
theorem dX11_watch_32 : decode cX11_watch 32 = .ok (.iload_n 2, 1) := by decide +kernel
theorem dX11_watch_33 : decode cX11_watch 33 = .ok (.aload_n 0, 1) := by decide +kernel
theorem dX11_watch_34 : decode cX11_watch 34 = .ok (.getfield 10, 3) := by decide +kernel
theorem dX11_watch_37 : decode cX11_watch 37 = .ok (.getfield 231, 3) := by decide +kernel
theorem dX11_watch_40 : decode cX11_watch 40 = .ok (.if_icmp .ge 13, 3) := by decide +kernel
theorem dX11_watch_43 : decode cX11_watch 43 = .ok (.new 75, 3) := by decide +kernel
theorem dX11_watch_46 : decode cX11_watch 46 = .ok (.dup, 1) := by decide +kernel
theorem dX11_watch_47 : decode cX11_watch 47 = .ok (.ldc 234, 2) := by decide +kernel
theorem dX11_watch_49 : decode cX11_watch 49 = .ok (.invokespecial 79, 3) := by decide +kernel
theorem dX11_watch_52 : decode cX11_watch 52 = .ok (.athrow, 1) := by decide +kernel
theorem dX11_watch_53 : decode cX11_watch 53 = .ok (.aload_n 0, 1) := by decide +kernel
theorem dX11_watch_54 : decode cX11_watch 54 = .ok (.getfield 47, 3) := by decide +kernel
theorem dX11_watch_57 : decode cX11_watch 57 = .ok (.iload_n 1, 1) := by decide +kernel
theorem dX11_watch_58 : decode cX11_watch 58 = .ok (.iload_n 2, 1) := by decide +kernel
theorem dX11_watch_59 : decode cX11_watch 59 = .ok (.iastore, 1) := by decide +kernel
theorem dX11_watch_60 : decode cX11_watch 60 = .ok (.aload_n 0, 1) := by decide +kernel
theorem dX11_watch_61 : decode cX11_watch 61 = .ok (.getfield 10, 3) := by decide +kernel
theorem dX11_watch_64 : decode cX11_watch 64 = .ok (.getfield 201, 3) := by decide +kernel
theorem dX11_watch_67 : decode cX11_watch 67 = .ok (.iload_n 2, 1) := by decide +kernel
theorem dX11_watch_68 : decode cX11_watch 68 = .ok (.isub, 1) := by decide +kernel
theorem dX11_watch_69 : decode cX11_watch 69 = .ok (.ireturn, 1) := by decide +kernel
theorem dX11_next_0 : decode cX11_next 0 = .ok (.iload_n 1, 1) := by decide +kernel
theorem dX11_next_1 : decode cX11_next 1 = .ok (.invokestatic 226, 3) := by decide +kernel
theorem dX11_next_4 : decode cX11_next 4 = .ok (.ifCond .ne 13, 3) := by decide +kernel
theorem dX11_next_7 : decode cX11_next 7 = .ok (.new 61, 3) := by decide +kernel
theorem dX11_next_10 : decode cX11_next 10 = .ok (.dup, 1) := by decide +kernel
theorem dX11_next_11 : decode cX11_next 11 = .ok (.ldc 236, 2) := by decide +kernel
theorem dX11_next_13 : decode cX11_next 13 = .ok (.invokespecial 65, 3) := by decide +kernel
theorem dX11_next_16 : decode cX11_next 16 = .ok (.athrow, 1) := by decide +kernel
theorem dX11_next_17 : decode cX11_next 17 = .ok (.aload_n 0, 1) := by decide +kernel
theorem dX11_next_18 : decode cX11_next 18 = .ok (.getfield 47, 3) := by decide +kernel
theorem dX11_next_21 : decode cX11_next 21 = .ok (.iload_n 1, 1) := by decide +kernel
theorem dX11_next_22 : decode cX11_next 22 = .ok (.iaload, 1) := by decide +kernel
theorem dX11_next_23 : decode cX11_next 23 = .ok (.aload_n 0, 1) := by decide +kernel
theorem dX11_next_24 : decode cX11_next 24 = .ok (.getfield 10, 3) := by decide +kernel
theorem dX11_next_27 : decode cX11_next 27 = .ok (.getfield 201, 3) := by decide +kernel
theorem dX11_next_30 : decode cX11_next 30 = .ok (.if_icmp .lt 5, 3) := by decide +kernel
theorem dX11_next_33 : decode cX11_next 33 = .ok (.iconst (-1), 1) := by decide +kernel
theorem dX11_next_34 : decode cX11_next 34 = .ok (.ireturn, 1) := by decide +kernel
theorem dX11_next_35 : decode cX11_next 35 = .ok (.aload_n 0, 1) := by decide +kernel
theorem dX11_next_36 : decode cX11_next 36 = .ok (.getfield 47, 3) := by decide +kernel
theorem dX11_next_39 : decode cX11_next 39 = .ok (.iload_n 1, 1) := by decide +kernel
theorem dX11_next_40 : decode cX11_next 40 = .ok (.iaload, 1) := by decide +kernel
theorem dX11_next_41 : decode cX11_next 41 = .ok (.aload_n 0, 1) := by decide +kernel
theorem dX11_next_42 : decode cX11_next 42 = .ok (.getfield 10, 3) := by decide +kernel
theorem dX11_next_45 : decode cX11_next 45 = .ok (.getfield 231, 3) := by decide +kernel
theorem dX11_next_48 : decode cX11_next 48 = .ok (.if_icmp .ge 13, 3) := by decide +kernel
theorem dX11_next_51 : decode cX11_next 51 = .ok (.new 75, 3) := by decide +kernel
theorem dX11_next_54 : decode cX11_next 54 = .ok (.dup, 1) := by decide +kernel
theorem dX11_next_55 : decode cX11_next 55 = .ok (.ldc 238, 2) := by decide +kernel
theorem dX11_next_57 : decode cX11_next 57 = .ok (.invokespecial 79, 3) := by decide +kernel
theorem dX11_next_60 : decode cX11_next 60 = .ok (.athrow, 1) := by decide +kernel
theorem dX11_next_61 : decode cX11_next 61 = .ok (.aload_n 0, 1) := by decide +kernel
theorem dX11_next_62 : decode cX11_next 62 = .ok (.getfield 47, 3) := by decide +kernel
theorem dX11_next_65 : decode cX11_next 65 = .ok (.iload_n 1, 1) := by decide +kernel
theorem dX11_next_66 : decode cX11_next 66 = .ok (.dup2, 1) := by decide +kernel
theorem dX11_next_67 : decode cX11_next 67 = .ok (.iaload, 1) := by decide +kernel
theorem dX11_next_68 : decode cX11_next 68 = .ok (.iconst 1, 1) := by decide +kernel
theorem dX11_next_69 : decode cX11_next 69 = .ok (.iadd, 1) := by decide +kernel
theorem dX11_next_70 : decode cX11_next 70 = .ok (.iastore, 1) := by decide +kernel
theorem dX11_next_71 : decode cX11_next 71 = .ok (.aload_n 0, 1) := by decide +kernel
theorem dX11_next_72 : decode cX11_next 72 = .ok (.getfield 10, 3) := by decide +kernel
theorem dX11_next_75 : decode cX11_next 75 = .ok (.aload_n 0, 1) := by decide +kernel
theorem dX11_next_76 : decode cX11_next 76 = .ok (.getfield 47, 3) := by decide +kernel
theorem dX11_next_79 : decode cX11_next 79 = .ok (.iload_n 1, 1) := by decide +kernel
theorem dX11_next_80 : decode cX11_next 80 = .ok (.iaload, 1) := by decide +kernel
theorem dX11_next_81 : decode cX11_next 81 = .ok (.invokevirtual 240, 3) := by decide +kernel
theorem dX11_next_84 : decode cX11_next 84 = .ok (.ireturn, 1) := by decide +kernel
theorem dX11_list_0 : decode cX11_list 0 = .ok (.iload_n 1, 1) := by decide +kernel
theorem dX11_list_1 : decode cX11_list 1 = .ok (.invokestatic 226, 3) := by decide +kernel
theorem dX11_list_4 : decode cX11_list 4 = .ok (.ifCond .ne 13, 3) := by decide +kernel
theorem dX11_list_7 : decode cX11_list 7 = .ok (.new 61, 3) := by decide +kernel
theorem dX11_list_10 : decode cX11_list 10 = .ok (.dup, 1) := by decide +kernel
theorem dX11_list_11 : decode cX11_list 11 = .ok (.ldc 236, 2) := by decide +kernel
theorem dX11_list_13 : decode cX11_list 13 = .ok (.invokespecial 65, 3) := by decide +kernel
theorem dX11_list_16 : decode cX11_list 16 = .ok (.athrow, 1) := by decide +kernel
theorem dX11_list_17 : decode cX11_list 17 = .ok (.aload_n 0, 1) := by decide +kernel
theorem dX11_list_18 : decode cX11_list 18 = .ok (.getfield 47, 3) := by decide +kernel
theorem dX11_list_21 : decode cX11_list 21 = .ok (.iload_n 1, 1) := by decide +kernel
theorem dX11_list_22 : decode cX11_list 22 = .ok (.aload_n 0, 1) := by decide +kernel
theorem dX11_list_23 : decode cX11_list 23 = .ok (.getfield 10, 3) := by decide +kernel
theorem dX11_list_26 : decode cX11_list 26 = .ok (.getfield 201, 3) := by decide +kernel
theorem dX11_list_29 : decode cX11_list 29 = .ok (.iastore, 1) := by decide +kernel
theorem dX11_list_30 : decode cX11_list 30 = .ok (.iconst 0, 1) := by decide +kernel
theorem dX11_list_31 : decode cX11_list 31 = .ok (.istore_n 2, 1) := by decide +kernel
theorem dX11_list_32 : decode cX11_list 32 = .ok (.iconst 0, 1) := by decide +kernel
theorem dX11_list_33 : decode cX11_list 33 = .ok (.istore_n 3, 1) := by decide +kernel
theorem dX11_list_34 : decode cX11_list 34 = .ok (.iload_n 3, 1) := by decide +kernel
theorem dX11_list_35 : decode cX11_list 35 = .ok (.aload_n 0, 1) := by decide +kernel
theorem dX11_list_36 : decode cX11_list 36 = .ok (.getfield 10, 3) := by decide +kernel
theorem dX11_list_39 : decode cX11_list 39 = .ok (.getfield 243, 3) := by decide +kernel
theorem dX11_list_42 : decode cX11_list 42 = .ok (.if_icmp .ge 28, 3) := by decide +kernel
theorem dX11_list_45 : decode cX11_list 45 = .ok (.iload_n 2, 1) := by decide +kernel
theorem dX11_list_46 : decode cX11_list 46 = .ok (.aload_n 0, 1) := by decide +kernel
theorem dX11_list_47 : decode cX11_list 47 = .ok (.getfield 10, 3) := by decide +kernel
theorem dX11_list_50 : decode cX11_list 50 = .ok (.iload_n 3, 1) := by decide +kernel
theorem dX11_list_51 : decode cX11_list 51 = .ok (.invokevirtual 97, 3) := by decide +kernel
theorem dX11_list_54 : decode cX11_list 54 = .ok (.ifCond .eq 7, 3) := by decide +kernel
theorem dX11_list_57 : decode cX11_list 57 = .ok (.iconst 0, 1) := by decide +kernel
theorem dX11_list_58 : decode cX11_list 58 = .ok (.goto 4, 3) := by decide +kernel
theorem dX11_list_61 : decode cX11_list 61 = .ok (.iconst 1, 1) := by decide +kernel
theorem dX11_list_62 : decode cX11_list 62 = .ok (.iadd, 1) := by decide +kernel
theorem dX11_list_63 : decode cX11_list 63 = .ok (.istore_n 2, 1) := by decide +kernel
theorem dX11_list_64 : decode cX11_list 64 = .ok (.iinc 3 1, 3) := by decide +kernel
theorem dX11_list_67 : decode cX11_list 67 = .ok (.goto (-33), 3) := by decide +kernel
theorem dX11_list_70 : decode cX11_list 70 = .ok (.iload_n 2, 1) := by decide +kernel
theorem dX11_list_71 : decode cX11_list 71 = .ok (.ireturn, 1) := by decide +kernel
theorem dX11_compact_0 : decode cX11_compact 0 = .ok (.iload_n 1, 1) := by decide +kernel
theorem dX11_compact_1 : decode cX11_compact 1 = .ok (.ifCond .lt 14, 3) := by decide +kernel
theorem dX11_compact_4 : decode cX11_compact 4 = .ok (.iload_n 1, 1) := by decide +kernel
theorem dX11_compact_5 : decode cX11_compact 5 = .ok (.aload_n 0, 1) := by decide +kernel
theorem dX11_compact_6 : decode cX11_compact 6 = .ok (.getfield 10, 3) := by decide +kernel
theorem dX11_compact_9 : decode cX11_compact 9 = .ok (.getfield 201, 3) := by decide +kernel
theorem dX11_compact_12 : decode cX11_compact 12 = .ok (.if_icmp .le 13, 3) := by decide +kernel
theorem dX11_compact_15 : decode cX11_compact 15 = .ok (.new 61, 3) := by decide +kernel
theorem dX11_compact_18 : decode cX11_compact 18 = .ok (.dup, 1) := by decide +kernel
theorem dX11_compact_19 : decode cX11_compact 19 = .ok (.ldc 246, 2) := by decide +kernel
theorem dX11_compact_21 : decode cX11_compact 21 = .ok (.invokespecial 65, 3) := by decide +kernel
theorem dX11_compact_24 : decode cX11_compact 24 = .ok (.athrow, 1) := by decide +kernel
theorem dX11_compact_25 : decode cX11_compact 25 = .ok (.aload_n 0, 1) := by decide +kernel
theorem dX11_compact_26 : decode cX11_compact 26 = .ok (.getfield 10, 3) := by decide +kernel
theorem dX11_compact_29 : decode cX11_compact 29 = .ok (.aload_n 0, 1) := by decide +kernel
theorem dX11_compact_30 : decode cX11_compact 30 = .ok (.getfield 10, 3) := by decide +kernel
theorem dX11_compact_33 : decode cX11_compact 33 = .ok (.getfield 231, 3) := by decide +kernel
theorem dX11_compact_36 : decode cX11_compact 36 = .ok (.iload_n 1, 1) := by decide +kernel
theorem dX11_compact_37 : decode cX11_compact 37 = .ok (.invokestatic 248, 3) := by decide +kernel
theorem dX11_compact_40 : decode cX11_compact 40 = .ok (.putfield 231, 3) := by decide +kernel
theorem dX11_compact_43 : decode cX11_compact 43 = .ok (.aload_n 0, 1) := by decide +kernel
theorem dX11_compact_44 : decode cX11_compact 44 = .ok (.getfield 10, 3) := by decide +kernel
theorem dX11_compact_47 : decode cX11_compact 47 = .ok (.getfield 231, 3) := by decide +kernel
theorem dX11_compact_50 : decode cX11_compact 50 = .ok (.ireturn, 1) := by decide +kernel
theorem dX11_tick_0 : decode cX11_tick 0 = .ok (.iload_n 1, 1) := by decide +kernel
theorem dX11_tick_1 : decode cX11_tick 1 = .ok (.iconst 1, 1) := by decide +kernel
theorem dX11_tick_2 : decode cX11_tick 2 = .ok (.if_icmp .lt 9, 3) := by decide +kernel
theorem dX11_tick_5 : decode cX11_tick 5 = .ok (.iload_n 1, 1) := by decide +kernel
theorem dX11_tick_6 : decode cX11_tick 6 = .ok (.bipush 100, 2) := by decide +kernel
theorem dX11_tick_8 : decode cX11_tick 8 = .ok (.if_icmp .le 13, 3) := by decide +kernel
theorem dX11_tick_11 : decode cX11_tick 11 = .ok (.new 61, 3) := by decide +kernel
theorem dX11_tick_14 : decode cX11_tick 14 = .ok (.dup, 1) := by decide +kernel
theorem dX11_tick_15 : decode cX11_tick 15 = .ok (.ldc 251, 2) := by decide +kernel
theorem dX11_tick_17 : decode cX11_tick 17 = .ok (.invokespecial 65, 3) := by decide +kernel
theorem dX11_tick_20 : decode cX11_tick 20 = .ok (.athrow, 1) := by decide +kernel
theorem dX11_tick_21 : decode cX11_tick 21 = .ok (.aload_n 0, 1) := by decide +kernel
theorem dX11_tick_22 : decode cX11_tick 22 = .ok (.getfield 10, 3) := by decide +kernel
theorem dX11_tick_25 : decode cX11_tick 25 = .ok (.getfield 253, 3) := by decide +kernel
theorem dX11_tick_28 : decode cX11_tick 28 = .ok (.sipush 10000, 3) := by decide +kernel
theorem dX11_tick_31 : decode cX11_tick 31 = .ok (.iload_n 1, 1) := by decide +kernel
theorem dX11_tick_32 : decode cX11_tick 32 = .ok (.isub, 1) := by decide +kernel
theorem dX11_tick_33 : decode cX11_tick 33 = .ok (.if_icmp .le 14, 3) := by decide +kernel
theorem dX11_tick_36 : decode cX11_tick 36 = .ok (.new 75, 3) := by decide +kernel
theorem dX11_tick_39 : decode cX11_tick 39 = .ok (.dup, 1) := by decide +kernel
theorem dX11_tick_40 : decode cX11_tick 40 = .ok (.ldc_w 256, 3) := by decide +kernel
theorem dX11_tick_43 : decode cX11_tick 43 = .ok (.invokespecial 79, 3) := by decide +kernel
theorem dX11_tick_46 : decode cX11_tick 46 = .ok (.athrow, 1) := by decide +kernel
theorem dX11_tick_47 : decode cX11_tick 47 = .ok (.iconst 0, 1) := by decide +kernel
theorem dX11_tick_48 : decode cX11_tick 48 = .ok (.istore_n 2, 1) := by decide +kernel
theorem dX11_tick_49 : decode cX11_tick 49 = .ok (.iload_n 2, 1) := by decide +kernel
theorem dX11_tick_50 : decode cX11_tick 50 = .ok (.iload_n 1, 1) := by decide +kernel
theorem dX11_tick_51 : decode cX11_tick 51 = .ok (.if_icmp .ge 16, 3) := by decide +kernel
theorem dX11_tick_54 : decode cX11_tick 54 = .ok (.aload_n 0, 1) := by decide +kernel
theorem dX11_tick_55 : decode cX11_tick 55 = .ok (.getfield 10, 3) := by decide +kernel
theorem dX11_tick_58 : decode cX11_tick 58 = .ok (.invokevirtual 258, 3) := by decide +kernel
theorem dX11_tick_61 : decode cX11_tick 61 = .ok (.iinc 2 1, 3) := by decide +kernel
theorem dX11_tick_64 : decode cX11_tick 64 = .ok (.goto (-15), 3) := by decide +kernel
theorem dX11_tick_67 : decode cX11_tick 67 = .ok (.aload_n 0, 1) := by decide +kernel
theorem dX11_tick_68 : decode cX11_tick 68 = .ok (.getfield 10, 3) := by decide +kernel
theorem dX11_tick_71 : decode cX11_tick 71 = .ok (.getfield 253, 3) := by decide +kernel
theorem dX11_tick_74 : decode cX11_tick 74 = .ok (.ireturn, 1) := by decide +kernel
theorem dX11_beat_0 : decode cX11_beat 0 = .ok (.aload_n 0, 1) := by decide +kernel
theorem dX11_beat_1 : decode cX11_beat 1 = .ok (.iload_n 1, 1) := by decide +kernel
theorem dX11_beat_2 : decode cX11_beat 2 = .ok (.invokevirtual 80, 3) := by decide +kernel
theorem dX11_beat_5 : decode cX11_beat 5 = .ok (.aload_n 0, 1) := by decide +kernel
theorem dX11_beat_6 : decode cX11_beat 6 = .ok (.iload_n 1, 1) := by decide +kernel
theorem dX11_beat_7 : decode cX11_beat 7 = .ok (.iconst 4, 1) := by decide +kernel
theorem dX11_beat_8 : decode cX11_beat 8 = .ok (.invokevirtual 142, 3) := by decide +kernel
theorem dX11_beat_11 : decode cX11_beat 11 = .ok (.aload_n 0, 1) := by decide +kernel
theorem dX11_beat_12 : decode cX11_beat 12 = .ok (.getfield 10, 3) := by decide +kernel
theorem dX11_beat_15 : decode cX11_beat 15 = .ok (.iload_n 1, 1) := by decide +kernel
theorem dX11_beat_16 : decode cX11_beat 16 = .ok (.bipush 27, 2) := by decide +kernel
theorem dX11_beat_18 : decode cX11_beat 18 = .ok (.invokevirtual 84, 3) := by decide +kernel
theorem dX11_beat_21 : decode cX11_beat 21 = .ok (.iconst 1, 1) := by decide +kernel
theorem dX11_beat_22 : decode cX11_beat 22 = .ok (.if_icmp .ne 7, 3) := by decide +kernel
theorem dX11_beat_25 : decode cX11_beat 25 = .ok (.iconst 1, 1) := by decide +kernel
theorem dX11_beat_26 : decode cX11_beat 26 = .ok (.goto 4, 3) := by decide +kernel
theorem dX11_beat_29 : decode cX11_beat 29 = .ok (.iconst 0, 1) := by decide +kernel
theorem dX11_beat_30 : decode cX11_beat 30 = .ok (.istore_n 2, 1) := by decide +kernel
theorem dX11_beat_31 : decode cX11_beat 31 = .ok (.aload_n 0, 1) := by decide +kernel
theorem dX11_beat_32 : decode cX11_beat 32 = .ok (.getfield 10, 3) := by decide +kernel
theorem dX11_beat_35 : decode cX11_beat 35 = .ok (.iload_n 1, 1) := by decide +kernel
theorem dX11_beat_36 : decode cX11_beat 36 = .ok (.invokevirtual 97, 3) := by decide +kernel
theorem dX11_beat_39 : decode cX11_beat 39 = .ok (.ifCond .ne 17, 3) := by decide +kernel
theorem dX11_beat_42 : decode cX11_beat 42 = .ok (.aload_n 0, 1) := by decide +kernel
theorem dX11_beat_43 : decode cX11_beat 43 = .ok (.getfield 10, 3) := by decide +kernel
theorem dX11_beat_46 : decode cX11_beat 46 = .ok (.iload_n 1, 1) := by decide +kernel
theorem dX11_beat_47 : decode cX11_beat 47 = .ok (.bipush 27, 2) := by decide +kernel
theorem dX11_beat_49 : decode cX11_beat 49 = .ok (.iconst 1, 1) := by decide +kernel
theorem dX11_beat_50 : decode cX11_beat 50 = .ok (.invokevirtual 136, 3) := by decide +kernel
theorem dX11_beat_53 : decode cX11_beat 53 = .ok (.ifCond .ne 14, 3) := by decide +kernel
theorem dX11_beat_56 : decode cX11_beat 56 = .ok (.new 75, 3) := by decide +kernel
theorem dX11_beat_59 : decode cX11_beat 59 = .ok (.dup, 1) := by decide +kernel
theorem dX11_beat_60 : decode cX11_beat 60 = .ok (.ldc_w 261, 3) := by decide +kernel
theorem dX11_beat_63 : decode cX11_beat 63 = .ok (.invokespecial 79, 3) := by decide +kernel
theorem dX11_beat_66 : decode cX11_beat 66 = .ok (.athrow, 1) := by decide +kernel
theorem dX11_beat_67 : decode cX11_beat 67 = .ok (.aload_n 0, 1) := by decide +kernel
theorem dX11_beat_68 : decode cX11_beat 68 = .ok (.getfield 10, 3) := by decide +kernel
theorem dX11_beat_71 : decode cX11_beat 71 = .ok (.getfield 263, 3) := by decide +kernel
theorem dX11_beat_74 : decode cX11_beat 74 = .ok (.iload_n 1, 1) := by decide +kernel
theorem dX11_beat_75 : decode cX11_beat 75 = .ok (.aload_n 0, 1) := by decide +kernel
theorem dX11_beat_76 : decode cX11_beat 76 = .ok (.getfield 10, 3) := by decide +kernel
theorem dX11_beat_79 : decode cX11_beat 79 = .ok (.getfield 253, 3) := by decide +kernel
theorem dX11_beat_82 : decode cX11_beat 82 = .ok (.iastore, 1) := by decide +kernel
theorem dX11_beat_83 : decode cX11_beat 83 = .ok (.iload_n 2, 1) := by decide +kernel
theorem dX11_beat_84 : decode cX11_beat 84 = .ok (.ireturn, 1) := by decide +kernel
theorem dX11_wish_0 : decode cX11_wish 0 = .ok (.aload_n 0, 1) := by decide +kernel
theorem dX11_wish_1 : decode cX11_wish 1 = .ok (.iload_n 1, 1) := by decide +kernel
theorem dX11_wish_2 : decode cX11_wish 2 = .ok (.invokevirtual 80, 3) := by decide +kernel
theorem dX11_wish_5 : decode cX11_wish 5 = .ok (.aload_n 0, 1) := by decide +kernel
theorem dX11_wish_6 : decode cX11_wish 6 = .ok (.iload_n 1, 1) := by decide +kernel
theorem dX11_wish_7 : decode cX11_wish 7 = .ok (.iconst 0, 1) := by decide +kernel
theorem dX11_wish_8 : decode cX11_wish 8 = .ok (.invokevirtual 142, 3) := by decide +kernel
theorem dX11_wish_11 : decode cX11_wish 11 = .ok (.iload_n 2, 1) := by decide +kernel
theorem dX11_wish_12 : decode cX11_wish 12 = .ok (.iconst (-1), 1) := by decide +kernel
theorem dX11_wish_13 : decode cX11_wish 13 = .ok (.if_icmp .eq 22, 3) := by decide +kernel
theorem dX11_wish_16 : decode cX11_wish 16 = .ok (.iconst 1, 1) := by decide +kernel
theorem dX11_wish_17 : decode cX11_wish 17 = .ok (.iload_n 2, 1) := by decide +kernel
theorem dX11_wish_18 : decode cX11_wish 18 = .ok (.invokestatic 92, 3) := by decide +kernel
theorem dX11_wish_21 : decode cX11_wish 21 = .ok (.ifCond .ne 14, 3) := by decide +kernel
theorem dX11_wish_24 : decode cX11_wish 24 = .ok (.new 61, 3) := by decide +kernel
theorem dX11_wish_27 : decode cX11_wish 27 = .ok (.dup, 1) := by decide +kernel
theorem dX11_wish_28 : decode cX11_wish 28 = .ok (.ldc_w 266, 3) := by decide +kernel
theorem dX11_wish_31 : decode cX11_wish 31 = .ok (.invokespecial 65, 3) := by decide +kernel
theorem dX11_wish_34 : decode cX11_wish 34 = .ok (.athrow, 1) := by decide +kernel
theorem dX11_wish_35 : decode cX11_wish 35 = .ok (.aload_n 0, 1) := by decide +kernel
theorem dX11_wish_36 : decode cX11_wish 36 = .ok (.getfield 51, 3) := by decide +kernel
theorem dX11_wish_39 : decode cX11_wish 39 = .ok (.iload_n 1, 1) := by decide +kernel
theorem dX11_wish_40 : decode cX11_wish 40 = .ok (.iaload, 1) := by decide +kernel
theorem dX11_wish_41 : decode cX11_wish 41 = .ok (.istore_n 3, 1) := by decide +kernel
theorem dX11_wish_42 : decode cX11_wish 42 = .ok (.aload_n 0, 1) := by decide +kernel
theorem dX11_wish_43 : decode cX11_wish 43 = .ok (.getfield 51, 3) := by decide +kernel
theorem dX11_wish_46 : decode cX11_wish 46 = .ok (.iload_n 1, 1) := by decide +kernel
theorem dX11_wish_47 : decode cX11_wish 47 = .ok (.iload_n 2, 1) := by decide +kernel
theorem dX11_wish_48 : decode cX11_wish 48 = .ok (.iastore, 1) := by decide +kernel
theorem dX11_wish_49 : decode cX11_wish 49 = .ok (.iload_n 3, 1) := by decide +kernel
theorem dX11_wish_50 : decode cX11_wish 50 = .ok (.ireturn, 1) := by decide +kernel
theorem dX11_objects_0 : decode cX11_objects 0 = .ok (.aload_n 0, 1) := by decide +kernel
theorem dX11_objects_1 : decode cX11_objects 1 = .ok (.getfield 10, 3) := by decide +kernel
theorem dX11_objects_4 : decode cX11_objects 4 = .ok (.getfield 243, 3) := by decide +kernel
theorem dX11_objects_7 : decode cX11_objects 7 = .ok (.ireturn, 1) := by decide +kernel
theorem dX11_version_0 : decode cX11_version 0 = .ok (.aload_n 0, 1) := by decide +kernel
theorem dX11_version_1 : decode cX11_version 1 = .ok (.getfield 10, 3) := by decide +kernel
theorem dX11_version_4 : decode cX11_version 4 = .ok (.getfield 201, 3) := by decide +kernel
theorem dX11_version_7 : decode cX11_version 7 = .ok (.ireturn, 1) := by decide +kernel
theorem dX11_kindOf_0 : decode cX11_kindOf 0 = .ok (.aload_n 0, 1) := by decide +kernel
theorem dX11_kindOf_1 : decode cX11_kindOf 1 = .ok (.iload_n 1, 1) := by decide +kernel
theorem dX11_kindOf_2 : decode cX11_kindOf 2 = .ok (.invokevirtual 80, 3) := by decide +kernel
theorem dX11_kindOf_5 : decode cX11_kindOf 5 = .ok (.aload_n 0, 1) := by decide +kernel
theorem dX11_kindOf_6 : decode cX11_kindOf 6 = .ok (.getfield 10, 3) := by decide +kernel
theorem dX11_kindOf_9 : decode cX11_kindOf 9 = .ok (.iload_n 1, 1) := by decide +kernel
theorem dX11_kindOf_10 : decode cX11_kindOf 10 = .ok (.bipush 23, 2) := by decide +kernel
theorem dX11_kindOf_12 : decode cX11_kindOf 12 = .ok (.invokevirtual 84, 3) := by decide +kernel
theorem dX11_kindOf_15 : decode cX11_kindOf 15 = .ok (.ireturn, 1) := by decide +kernel
theorem dX11_field_0 : decode cX11_field 0 = .ok (.aload_n 0, 1) := by decide +kernel
theorem dX11_field_1 : decode cX11_field 1 = .ok (.iload_n 1, 1) := by decide +kernel
theorem dX11_field_2 : decode cX11_field 2 = .ok (.invokevirtual 80, 3) := by decide +kernel
theorem dX11_field_5 : decode cX11_field 5 = .ok (.aload_n 0, 1) := by decide +kernel
theorem dX11_field_6 : decode cX11_field 6 = .ok (.iload_n 1, 1) := by decide +kernel
theorem dX11_field_7 : decode cX11_field 7 = .ok (.iload_n 2, 1) := by decide +kernel
theorem dX11_field_8 : decode cX11_field 8 = .ok (.invokevirtual 219, 3) := by decide +kernel
theorem dX11_field_11 : decode cX11_field 11 = .ok (.aload_n 0, 1) := by decide +kernel
theorem dX11_field_12 : decode cX11_field 12 = .ok (.getfield 10, 3) := by decide +kernel
theorem dX11_field_15 : decode cX11_field 15 = .ok (.iload_n 1, 1) := by decide +kernel
theorem dX11_field_16 : decode cX11_field 16 = .ok (.iload_n 2, 1) := by decide +kernel
theorem dX11_field_17 : decode cX11_field 17 = .ok (.invokevirtual 84, 3) := by decide +kernel
theorem dX11_field_20 : decode cX11_field 20 = .ok (.ireturn, 1) := by decide +kernel
theorem dX11_managerOf_0 : decode cX11_managerOf 0 = .ok (.aload_n 0, 1) := by decide +kernel
theorem dX11_managerOf_1 : decode cX11_managerOf 1 = .ok (.iload_n 1, 1) := by decide +kernel
theorem dX11_managerOf_2 : decode cX11_managerOf 2 = .ok (.invokevirtual 80, 3) := by decide +kernel
theorem dX11_managerOf_5 : decode cX11_managerOf 5 = .ok (.aload_n 0, 1) := by decide +kernel
theorem dX11_managerOf_6 : decode cX11_managerOf 6 = .ok (.iload_n 1, 1) := by decide +kernel
theorem dX11_managerOf_7 : decode cX11_managerOf 7 = .ok (.iload_n 2, 1) := by decide +kernel
theorem dX11_managerOf_8 : decode cX11_managerOf 8 = .ok (.invokevirtual 219, 3) := by decide +kernel
theorem dX11_managerOf_11 : decode cX11_managerOf 11 = .ok (.aload_n 0, 1) := by decide +kernel
theorem dX11_managerOf_12 : decode cX11_managerOf 12 = .ok (.getfield 10, 3) := by decide +kernel
theorem dX11_managerOf_15 : decode cX11_managerOf 15 = .ok (.iload_n 1, 1) := by decide +kernel
theorem dX11_managerOf_16 : decode cX11_managerOf 16 = .ok (.bipush 11, 2) := by decide +kernel
theorem dX11_managerOf_18 : decode cX11_managerOf 18 = .ok (.iload_n 2, 1) := by decide +kernel
theorem dX11_managerOf_19 : decode cX11_managerOf 19 = .ok (.iadd, 1) := by decide +kernel
theorem dX11_managerOf_20 : decode cX11_managerOf 20 = .ok (.invokevirtual 84, 3) := by decide +kernel
theorem dX11_managerOf_23 : decode cX11_managerOf 23 = .ok (.ireturn, 1) := by decide +kernel
theorem dX11_budget_0 : decode cX11_budget 0 = .ok (.aload_n 0, 1) := by decide +kernel
theorem dX11_budget_1 : decode cX11_budget 1 = .ok (.iload_n 1, 1) := by decide +kernel
theorem dX11_budget_2 : decode cX11_budget 2 = .ok (.invokevirtual 80, 3) := by decide +kernel
theorem dX11_budget_5 : decode cX11_budget 5 = .ok (.aload_n 0, 1) := by decide +kernel
theorem dX11_budget_6 : decode cX11_budget 6 = .ok (.iload_n 1, 1) := by decide +kernel
theorem dX11_budget_7 : decode cX11_budget 7 = .ok (.iconst 0, 1) := by decide +kernel
theorem dX11_budget_8 : decode cX11_budget 8 = .ok (.invokevirtual 142, 3) := by decide +kernel
theorem dX11_budget_11 : decode cX11_budget 11 = .ok (.bipush 10, 2) := by decide +kernel
theorem dX11_budget_13 : decode cX11_budget 13 = .ok (.aload_n 0, 1) := by decide +kernel
theorem dX11_budget_14 : decode cX11_budget 14 = .ok (.getfield 10, 3) := by decide +kernel
theorem dX11_budget_17 : decode cX11_budget 17 = .ok (.iload_n 1, 1) := by decide +kernel
theorem dX11_budget_18 : decode cX11_budget 18 = .ok (.iconst 2, 1) := by decide +kernel
theorem dX11_budget_19 : decode cX11_budget 19 = .ok (.invokevirtual 84, 3) := by decide +kernel
theorem dX11_budget_22 : decode cX11_budget 22 = .ok (.imul, 1) := by decide +kernel
theorem dX11_budget_23 : decode cX11_budget 23 = .ok (.aload_n 0, 1) := by decide +kernel
theorem dX11_budget_24 : decode cX11_budget 24 = .ok (.getfield 10, 3) := by decide +kernel
theorem dX11_budget_27 : decode cX11_budget 27 = .ok (.iload_n 1, 1) := by decide +kernel
theorem dX11_budget_28 : decode cX11_budget 28 = .ok (.iconst 3, 1) := by decide +kernel
theorem dX11_budget_29 : decode cX11_budget 29 = .ok (.invokevirtual 84, 3) := by decide +kernel
theorem dX11_budget_32 : decode cX11_budget 32 = .ok (.iadd, 1) := by decide +kernel
theorem dX11_budget_33 : decode cX11_budget 33 = .ok (.ireturn, 1) := by decide +kernel
theorem dX11_versionOf_0 : decode cX11_versionOf 0 = .ok (.aload_n 0, 1) := by decide +kernel
theorem dX11_versionOf_1 : decode cX11_versionOf 1 = .ok (.iload_n 1, 1) := by decide +kernel
theorem dX11_versionOf_2 : decode cX11_versionOf 2 = .ok (.invokevirtual 80, 3) := by decide +kernel
theorem dX11_versionOf_5 : decode cX11_versionOf 5 = .ok (.aload_n 0, 1) := by decide +kernel
theorem dX11_versionOf_6 : decode cX11_versionOf 6 = .ok (.getfield 10, 3) := by decide +kernel
theorem dX11_versionOf_9 : decode cX11_versionOf 9 = .ok (.iload_n 1, 1) := by decide +kernel
theorem dX11_versionOf_10 : decode cX11_versionOf 10 = .ok (.invokevirtual 100, 3) := by decide +kernel
theorem dX11_versionOf_13 : decode cX11_versionOf 13 = .ok (.ireturn, 1) := by decide +kernel
theorem dX11_goingOf_0 : decode cX11_goingOf 0 = .ok (.aload_n 0, 1) := by decide +kernel
theorem dX11_goingOf_1 : decode cX11_goingOf 1 = .ok (.iload_n 1, 1) := by decide +kernel
theorem dX11_goingOf_2 : decode cX11_goingOf 2 = .ok (.invokevirtual 80, 3) := by decide +kernel
theorem dX11_goingOf_5 : decode cX11_goingOf 5 = .ok (.aload_n 0, 1) := by decide +kernel
theorem dX11_goingOf_6 : decode cX11_goingOf 6 = .ok (.getfield 10, 3) := by decide +kernel
theorem dX11_goingOf_9 : decode cX11_goingOf 9 = .ok (.iload_n 1, 1) := by decide +kernel
theorem dX11_goingOf_10 : decode cX11_goingOf 10 = .ok (.bipush 25, 2) := by decide +kernel
theorem dX11_goingOf_12 : decode cX11_goingOf 12 = .ok (.invokevirtual 84, 3) := by decide +kernel
theorem dX11_goingOf_15 : decode cX11_goingOf 15 = .ok (.ireturn, 1) := by decide +kernel
theorem dX11_ownerOf_0 : decode cX11_ownerOf 0 = .ok (.aload_n 0, 1) := by decide +kernel
theorem dX11_ownerOf_1 : decode cX11_ownerOf 1 = .ok (.iload_n 1, 1) := by decide +kernel
theorem dX11_ownerOf_2 : decode cX11_ownerOf 2 = .ok (.invokevirtual 80, 3) := by decide +kernel
theorem dX11_ownerOf_5 : decode cX11_ownerOf 5 = .ok (.aload_n 0, 1) := by decide +kernel
theorem dX11_ownerOf_6 : decode cX11_ownerOf 6 = .ok (.getfield 10, 3) := by decide +kernel
theorem dX11_ownerOf_9 : decode cX11_ownerOf 9 = .ok (.iload_n 1, 1) := by decide +kernel
theorem dX11_ownerOf_10 : decode cX11_ownerOf 10 = .ok (.bipush 24, 2) := by decide +kernel
theorem dX11_ownerOf_12 : decode cX11_ownerOf 12 = .ok (.invokevirtual 84, 3) := by decide +kernel
theorem dX11_ownerOf_15 : decode cX11_ownerOf 15 = .ok (.ireturn, 1) := by decide +kernel
theorem dX11_phaseOf_0 : decode cX11_phaseOf 0 = .ok (.aload_n 0, 1) := by decide +kernel
theorem dX11_phaseOf_1 : decode cX11_phaseOf 1 = .ok (.iload_n 1, 1) := by decide +kernel
theorem dX11_phaseOf_2 : decode cX11_phaseOf 2 = .ok (.invokevirtual 80, 3) := by decide +kernel
theorem dX11_phaseOf_5 : decode cX11_phaseOf 5 = .ok (.aload_n 0, 1) := by decide +kernel
theorem dX11_phaseOf_6 : decode cX11_phaseOf 6 = .ok (.iload_n 1, 1) := by decide +kernel
theorem dX11_phaseOf_7 : decode cX11_phaseOf 7 = .ok (.iconst 2, 1) := by decide +kernel
theorem dX11_phaseOf_8 : decode cX11_phaseOf 8 = .ok (.invokevirtual 142, 3) := by decide +kernel
theorem dX11_phaseOf_11 : decode cX11_phaseOf 11 = .ok (.aload_n 0, 1) := by decide +kernel
theorem dX11_phaseOf_12 : decode cX11_phaseOf 12 = .ok (.getfield 10, 3) := by decide +kernel
theorem dX11_phaseOf_15 : decode cX11_phaseOf 15 = .ok (.iload_n 1, 1) := by decide +kernel
theorem dX11_phaseOf_16 : decode cX11_phaseOf 16 = .ok (.bipush 29, 2) := by decide +kernel
theorem dX11_phaseOf_18 : decode cX11_phaseOf 18 = .ok (.invokevirtual 84, 3) := by decide +kernel
theorem dX11_phaseOf_21 : decode cX11_phaseOf 21 = .ok (.ireturn, 1) := by decide +kernel
theorem dX11_placeOf_0 : decode cX11_placeOf 0 = .ok (.aload_n 0, 1) := by decide +kernel
theorem dX11_placeOf_1 : decode cX11_placeOf 1 = .ok (.iload_n 1, 1) := by decide +kernel
theorem dX11_placeOf_2 : decode cX11_placeOf 2 = .ok (.invokevirtual 80, 3) := by decide +kernel
theorem dX11_placeOf_5 : decode cX11_placeOf 5 = .ok (.aload_n 0, 1) := by decide +kernel
theorem dX11_placeOf_6 : decode cX11_placeOf 6 = .ok (.iload_n 1, 1) := by decide +kernel
theorem dX11_placeOf_7 : decode cX11_placeOf 7 = .ok (.iconst 2, 1) := by decide +kernel
theorem dX11_placeOf_8 : decode cX11_placeOf 8 = .ok (.invokevirtual 142, 3) := by decide +kernel
theorem dX11_placeOf_11 : decode cX11_placeOf 11 = .ok (.aload_n 0, 1) := by decide +kernel
theorem dX11_placeOf_12 : decode cX11_placeOf 12 = .ok (.getfield 10, 3) := by decide +kernel
theorem dX11_placeOf_15 : decode cX11_placeOf 15 = .ok (.iload_n 1, 1) := by decide +kernel
theorem dX11_placeOf_16 : decode cX11_placeOf 16 = .ok (.bipush 28, 2) := by decide +kernel
theorem dX11_placeOf_18 : decode cX11_placeOf 18 = .ok (.invokevirtual 84, 3) := by decide +kernel
theorem dX11_placeOf_21 : decode cX11_placeOf 21 = .ok (.ireturn, 1) := by decide +kernel
theorem dX11_isReady_0 : decode cX11_isReady 0 = .ok (.aload_n 0, 1) := by decide +kernel
theorem dX11_isReady_1 : decode cX11_isReady 1 = .ok (.iload_n 1, 1) := by decide +kernel
theorem dX11_isReady_2 : decode cX11_isReady 2 = .ok (.invokevirtual 80, 3) := by decide +kernel
theorem dX11_isReady_5 : decode cX11_isReady 5 = .ok (.aload_n 0, 1) := by decide +kernel
theorem dX11_isReady_6 : decode cX11_isReady 6 = .ok (.iload_n 1, 1) := by decide +kernel
theorem dX11_isReady_7 : decode cX11_isReady 7 = .ok (.iconst 4, 1) := by decide +kernel
theorem dX11_isReady_8 : decode cX11_isReady 8 = .ok (.invokevirtual 142, 3) := by decide +kernel
theorem dX11_isReady_11 : decode cX11_isReady 11 = .ok (.aload_n 0, 1) := by decide +kernel
theorem dX11_isReady_12 : decode cX11_isReady 12 = .ok (.getfield 10, 3) := by decide +kernel
theorem dX11_isReady_15 : decode cX11_isReady 15 = .ok (.iload_n 1, 1) := by decide +kernel
theorem dX11_isReady_16 : decode cX11_isReady 16 = .ok (.bipush 27, 2) := by decide +kernel
theorem dX11_isReady_18 : decode cX11_isReady 18 = .ok (.invokevirtual 84, 3) := by decide +kernel
theorem dX11_isReady_21 : decode cX11_isReady 21 = .ok (.iconst 1, 1) := by decide +kernel
theorem dX11_isReady_22 : decode cX11_isReady 22 = .ok (.if_icmp .ne 7, 3) := by decide +kernel
theorem dX11_isReady_25 : decode cX11_isReady 25 = .ok (.iconst 1, 1) := by decide +kernel
theorem dX11_isReady_26 : decode cX11_isReady 26 = .ok (.goto 4, 3) := by decide +kernel
theorem dX11_isReady_29 : decode cX11_isReady 29 = .ok (.iconst 0, 1) := by decide +kernel
theorem dX11_isReady_30 : decode cX11_isReady 30 = .ok (.ireturn, 1) := by decide +kernel
theorem dX11_isBehind_0 : decode cX11_isBehind 0 = .ok (.aload_n 0, 1) := by decide +kernel
theorem dX11_isBehind_1 : decode cX11_isBehind 1 = .ok (.iload_n 1, 1) := by decide +kernel
theorem dX11_isBehind_2 : decode cX11_isBehind 2 = .ok (.invokevirtual 80, 3) := by decide +kernel
theorem dX11_isBehind_5 : decode cX11_isBehind 5 = .ok (.aload_n 0, 1) := by decide +kernel
theorem dX11_isBehind_6 : decode cX11_isBehind 6 = .ok (.iload_n 2, 1) := by decide +kernel
theorem dX11_isBehind_7 : decode cX11_isBehind 7 = .ok (.invokevirtual 80, 3) := by decide +kernel
theorem dX11_isBehind_10 : decode cX11_isBehind 10 = .ok (.aload_n 0, 1) := by decide +kernel
theorem dX11_isBehind_11 : decode cX11_isBehind 11 = .ok (.iload_n 1, 1) := by decide +kernel
theorem dX11_isBehind_12 : decode cX11_isBehind 12 = .ok (.iconst 5, 1) := by decide +kernel
theorem dX11_isBehind_13 : decode cX11_isBehind 13 = .ok (.invokevirtual 142, 3) := by decide +kernel
theorem dX11_isBehind_16 : decode cX11_isBehind 16 = .ok (.aload_n 0, 1) := by decide +kernel
theorem dX11_isBehind_17 : decode cX11_isBehind 17 = .ok (.getfield 10, 3) := by decide +kernel
theorem dX11_isBehind_20 : decode cX11_isBehind 20 = .ok (.iload_n 1, 1) := by decide +kernel
theorem dX11_isBehind_21 : decode cX11_isBehind 21 = .ok (.iload_n 2, 1) := by decide +kernel
theorem dX11_isBehind_22 : decode cX11_isBehind 22 = .ok (.bipush 30, 2) := by decide +kernel
theorem dX11_isBehind_24 : decode cX11_isBehind 24 = .ok (.if_icmp .ge 8, 3) := by decide +kernel
theorem dX11_isBehind_27 : decode cX11_isBehind 27 = .ok (.bipush 30, 2) := by decide +kernel
theorem dX11_isBehind_29 : decode cX11_isBehind 29 = .ok (.goto 5, 3) := by decide +kernel
theorem dX11_isBehind_32 : decode cX11_isBehind 32 = .ok (.bipush 31, 2) := by decide +kernel
theorem dX11_isBehind_34 : decode cX11_isBehind 34 = .ok (.invokevirtual 84, 3) := by decide +kernel
theorem dX11_isBehind_37 : decode cX11_isBehind 37 = .ok (.istore_n 3, 1) := by decide +kernel
theorem dX11_isBehind_38 : decode cX11_isBehind 38 = .ok (.iload_n 3, 1) := by decide +kernel
theorem dX11_isBehind_39 : decode cX11_isBehind 39 = .ok (.iload_n 2, 1) := by decide +kernel
theorem dX11_isBehind_40 : decode cX11_isBehind 40 = .ok (.bipush 30, 2) := by decide +kernel
theorem dX11_isBehind_42 : decode cX11_isBehind 42 = .ok (.irem, 1) := by decide +kernel
theorem dX11_isBehind_43 : decode cX11_isBehind 43 = .ok (.ishr, 1) := by decide +kernel
theorem dX11_isBehind_44 : decode cX11_isBehind 44 = .ok (.iconst 1, 1) := by decide +kernel
theorem dX11_isBehind_45 : decode cX11_isBehind 45 = .ok (.iand, 1) := by decide +kernel
theorem dX11_isBehind_46 : decode cX11_isBehind 46 = .ok (.iconst 1, 1) := by decide +kernel
theorem dX11_isBehind_47 : decode cX11_isBehind 47 = .ok (.if_icmp .ne 7, 3) := by decide +kernel
theorem dX11_isBehind_50 : decode cX11_isBehind 50 = .ok (.iconst 1, 1) := by decide +kernel
theorem dX11_isBehind_51 : decode cX11_isBehind 51 = .ok (.goto 4, 3) := by decide +kernel
theorem dX11_isBehind_54 : decode cX11_isBehind 54 = .ok (.iconst 0, 1) := by decide +kernel
theorem dX11_isBehind_55 : decode cX11_isBehind 55 = .ok (.ireturn, 1) := by decide +kernel
theorem dX11_running_0 : decode cX11_running 0 = .ok (.aload_n 0, 1) := by decide +kernel
theorem dX11_running_1 : decode cX11_running 1 = .ok (.iload_n 1, 1) := by decide +kernel
theorem dX11_running_2 : decode cX11_running 2 = .ok (.invokevirtual 80, 3) := by decide +kernel
theorem dX11_running_5 : decode cX11_running 5 = .ok (.aload_n 0, 1) := by decide +kernel
theorem dX11_running_6 : decode cX11_running 6 = .ok (.iload_n 1, 1) := by decide +kernel
theorem dX11_running_7 : decode cX11_running 7 = .ok (.iconst 0, 1) := by decide +kernel
theorem dX11_running_8 : decode cX11_running 8 = .ok (.invokevirtual 142, 3) := by decide +kernel
theorem dX11_running_11 : decode cX11_running 11 = .ok (.iload_n 2, 1) := by decide +kernel
theorem dX11_running_12 : decode cX11_running 12 = .ok (.ifCond .eq 21, 3) := by decide +kernel
theorem dX11_running_15 : decode cX11_running 15 = .ok (.aload_n 0, 1) := by decide +kernel
theorem dX11_running_16 : decode cX11_running 16 = .ok (.getfield 10, 3) := by decide +kernel
theorem dX11_running_19 : decode cX11_running 19 = .ok (.aload_n 0, 1) := by decide +kernel
theorem dX11_running_20 : decode cX11_running 20 = .ok (.getfield 10, 3) := by decide +kernel
theorem dX11_running_23 : decode cX11_running 23 = .ok (.iload_n 1, 1) := by decide +kernel
theorem dX11_running_24 : decode cX11_running 24 = .ok (.invokevirtual 275, 3) := by decide +kernel
theorem dX11_running_27 : decode cX11_running 27 = .ok (.invokevirtual 278, 3) := by decide +kernel
theorem dX11_running_30 : decode cX11_running 30 = .ok (.goto 11, 3) := by decide +kernel
theorem dX11_running_33 : decode cX11_running 33 = .ok (.aload_n 0, 1) := by decide +kernel
theorem dX11_running_34 : decode cX11_running 34 = .ok (.getfield 10, 3) := by decide +kernel
theorem dX11_running_37 : decode cX11_running 37 = .ok (.iload_n 1, 1) := by decide +kernel
theorem dX11_running_38 : decode cX11_running 38 = .ok (.invokevirtual 281, 3) := by decide +kernel
theorem dX11_running_41 : decode cX11_running 41 = .ok (.ireturn, 1) := by decide +kernel
theorem dX11_objectOf_0 : decode cX11_objectOf 0 = .ok (.iload_n 1, 1) := by decide +kernel
theorem dX11_objectOf_1 : decode cX11_objectOf 1 = .ok (.iconst 1, 1) := by decide +kernel
theorem dX11_objectOf_2 : decode cX11_objectOf 2 = .ok (.if_icmp .lt 14, 3) := by decide +kernel
theorem dX11_objectOf_5 : decode cX11_objectOf 5 = .ok (.iload_n 1, 1) := by decide +kernel
theorem dX11_objectOf_6 : decode cX11_objectOf 6 = .ok (.aload_n 0, 1) := by decide +kernel
theorem dX11_objectOf_7 : decode cX11_objectOf 7 = .ok (.getfield 10, 3) := by decide +kernel
theorem dX11_objectOf_10 : decode cX11_objectOf 10 = .ok (.getfield 201, 3) := by decide +kernel
theorem dX11_objectOf_13 : decode cX11_objectOf 13 = .ok (.if_icmp .le 14, 3) := by decide +kernel
theorem dX11_objectOf_16 : decode cX11_objectOf 16 = .ok (.new 208, 3) := by decide +kernel
theorem dX11_objectOf_19 : decode cX11_objectOf 19 = .ok (.dup, 1) := by decide +kernel
theorem dX11_objectOf_20 : decode cX11_objectOf 20 = .ok (.ldc_w 284, 3) := by decide +kernel
theorem dX11_objectOf_23 : decode cX11_objectOf 23 = .ok (.invokespecial 212, 3) := by decide +kernel
theorem dX11_objectOf_26 : decode cX11_objectOf 26 = .ok (.athrow, 1) := by decide +kernel
theorem dX11_objectOf_27 : decode cX11_objectOf 27 = .ok (.aload_n 0, 1) := by decide +kernel
theorem dX11_objectOf_28 : decode cX11_objectOf 28 = .ok (.getfield 10, 3) := by decide +kernel
theorem dX11_objectOf_31 : decode cX11_objectOf 31 = .ok (.iload_n 1, 1) := by decide +kernel
theorem dX11_objectOf_32 : decode cX11_objectOf 32 = .ok (.invokevirtual 240, 3) := by decide +kernel
theorem dX11_objectOf_35 : decode cX11_objectOf 35 = .ok (.ireturn, 1) := by decide +kernel
theorem dX11_isCaller_0 : decode cX11_isCaller 0 = .ok (.iload_n 0, 1) := by decide +kernel
theorem dX11_isCaller_1 : decode cX11_isCaller 1 = .ok (.ifCond .lt 12, 3) := by decide +kernel
theorem dX11_isCaller_4 : decode cX11_isCaller 4 = .ok (.iload_n 0, 1) := by decide +kernel
theorem dX11_isCaller_5 : decode cX11_isCaller 5 = .ok (.iconst 4, 1) := by decide +kernel
theorem dX11_isCaller_6 : decode cX11_isCaller 6 = .ok (.if_icmp .ge 7, 3) := by decide +kernel
theorem dX11_isCaller_9 : decode cX11_isCaller 9 = .ok (.iconst 1, 1) := by decide +kernel
theorem dX11_isCaller_10 : decode cX11_isCaller 10 = .ok (.goto 4, 3) := by decide +kernel
theorem dX11_isCaller_13 : decode cX11_isCaller 13 = .ok (.iconst 0, 1) := by decide +kernel
theorem dX11_isCaller_14 : decode cX11_isCaller 14 = .ok (.ireturn, 1) := by decide +kernel
theorem dX11_isKind_0 : decode cX11_isKind 0 = .ok (.iload_n 0, 1) := by decide +kernel
theorem dX11_isKind_1 : decode cX11_isKind 1 = .ok (.ifCond .lt 13, 3) := by decide +kernel
theorem dX11_isKind_4 : decode cX11_isKind 4 = .ok (.iload_n 0, 1) := by decide +kernel
theorem dX11_isKind_5 : decode cX11_isKind 5 = .ok (.bipush 6, 2) := by decide +kernel
theorem dX11_isKind_7 : decode cX11_isKind 7 = .ok (.if_icmp .ge 7, 3) := by decide +kernel
theorem dX11_isKind_10 : decode cX11_isKind 10 = .ok (.iconst 1, 1) := by decide +kernel
theorem dX11_isKind_11 : decode cX11_isKind 11 = .ok (.goto 4, 3) := by decide +kernel
theorem dX11_isKind_14 : decode cX11_isKind 14 = .ok (.iconst 0, 1) := by decide +kernel
theorem dX11_isKind_15 : decode cX11_isKind 15 = .ok (.ireturn, 1) := by decide +kernel
theorem dX11_isReader_0 : decode cX11_isReader 0 = .ok (.iload_n 0, 1) := by decide +kernel
theorem dX11_isReader_1 : decode cX11_isReader 1 = .ok (.ifCond .lt 12, 3) := by decide +kernel
theorem dX11_isReader_4 : decode cX11_isReader 4 = .ok (.iload_n 0, 1) := by decide +kernel
theorem dX11_isReader_5 : decode cX11_isReader 5 = .ok (.iconst 4, 1) := by decide +kernel
theorem dX11_isReader_6 : decode cX11_isReader 6 = .ok (.if_icmp .ge 7, 3) := by decide +kernel
theorem dX11_isReader_9 : decode cX11_isReader 9 = .ok (.iconst 1, 1) := by decide +kernel
theorem dX11_isReader_10 : decode cX11_isReader 10 = .ok (.goto 4, 3) := by decide +kernel
theorem dX11_isReader_13 : decode cX11_isReader 13 = .ok (.iconst 0, 1) := by decide +kernel
theorem dX11_isReader_14 : decode cX11_isReader 14 = .ok (.ireturn, 1) := by decide +kernel
theorem dX11_hasField_0 : decode cX11_hasField 0 = .ok (.iload_n 0, 1) := by decide +kernel
theorem dX11_hasField_1 : decode cX11_hasField 1 = .ok (.invokestatic 58, 3) := by decide +kernel
theorem dX11_hasField_4 : decode cX11_hasField 4 = .ok (.ifCond .eq 30, 3) := by decide +kernel
theorem dX11_hasField_7 : decode cX11_hasField 7 = .ok (.iload_n 1, 1) := by decide +kernel
theorem dX11_hasField_8 : decode cX11_hasField 8 = .ok (.ifCond .lt 26, 3) := by decide +kernel
theorem dX11_hasField_11 : decode cX11_hasField 11 = .ok (.iload_n 1, 1) := by decide +kernel
theorem dX11_hasField_12 : decode cX11_hasField 12 = .ok (.bipush 11, 2) := by decide +kernel
theorem dX11_hasField_14 : decode cX11_hasField 14 = .ok (.if_icmp .ge 20, 3) := by decide +kernel
theorem dX11_hasField_17 : decode cX11_hasField 17 = .ok (.getstatic 286, 3) := by decide +kernel
theorem dX11_hasField_20 : decode cX11_hasField 20 = .ok (.iload_n 0, 1) := by decide +kernel
theorem dX11_hasField_21 : decode cX11_hasField 21 = .ok (.iaload, 1) := by decide +kernel
theorem dX11_hasField_22 : decode cX11_hasField 22 = .ok (.iload_n 1, 1) := by decide +kernel
theorem dX11_hasField_23 : decode cX11_hasField 23 = .ok (.ishr, 1) := by decide +kernel
theorem dX11_hasField_24 : decode cX11_hasField 24 = .ok (.iconst 1, 1) := by decide +kernel
theorem dX11_hasField_25 : decode cX11_hasField 25 = .ok (.iand, 1) := by decide +kernel
theorem dX11_hasField_26 : decode cX11_hasField 26 = .ok (.iconst 1, 1) := by decide +kernel
theorem dX11_hasField_27 : decode cX11_hasField 27 = .ok (.if_icmp .ne 7, 3) := by decide +kernel
theorem dX11_hasField_30 : decode cX11_hasField 30 = .ok (.iconst 1, 1) := by decide +kernel
theorem dX11_hasField_31 : decode cX11_hasField 31 = .ok (.goto 4, 3) := by decide +kernel
theorem dX11_hasField_34 : decode cX11_hasField 34 = .ok (.iconst 0, 1) := by decide +kernel
theorem dX11_hasField_35 : decode cX11_hasField 35 = .ok (.ireturn, 1) := by decide +kernel
theorem dX11_isInRange_0 : decode cX11_isInRange 0 = .ok (.iload_n 0, 1) := by decide +kernel
theorem dX11_isInRange_1 : decode cX11_isInRange 1 = .ok (.ifCond .lt 31, 3) := by decide +kernel
theorem dX11_isInRange_4 : decode cX11_isInRange 4 = .ok (.iload_n 0, 1) := by decide +kernel
theorem dX11_isInRange_5 : decode cX11_isInRange 5 = .ok (.bipush 11, 2) := by decide +kernel
theorem dX11_isInRange_7 : decode cX11_isInRange 7 = .ok (.if_icmp .ge 25, 3) := by decide +kernel
theorem dX11_isInRange_10 : decode cX11_isInRange 10 = .ok (.iload_n 1, 1) := by decide +kernel
theorem dX11_isInRange_11 : decode cX11_isInRange 11 = .ok (.getstatic 289, 3) := by decide +kernel
theorem dX11_isInRange_14 : decode cX11_isInRange 14 = .ok (.iload_n 0, 1) := by decide +kernel
theorem dX11_isInRange_15 : decode cX11_isInRange 15 = .ok (.iaload, 1) := by decide +kernel
theorem dX11_isInRange_16 : decode cX11_isInRange 16 = .ok (.if_icmp .lt 16, 3) := by decide +kernel
theorem dX11_isInRange_19 : decode cX11_isInRange 19 = .ok (.iload_n 1, 1) := by decide +kernel
theorem dX11_isInRange_20 : decode cX11_isInRange 20 = .ok (.getstatic 292, 3) := by decide +kernel
theorem dX11_isInRange_23 : decode cX11_isInRange 23 = .ok (.iload_n 0, 1) := by decide +kernel
theorem dX11_isInRange_24 : decode cX11_isInRange 24 = .ok (.iaload, 1) := by decide +kernel
theorem dX11_isInRange_25 : decode cX11_isInRange 25 = .ok (.if_icmp .gt 7, 3) := by decide +kernel
theorem dX11_isInRange_28 : decode cX11_isInRange 28 = .ok (.iconst 1, 1) := by decide +kernel
theorem dX11_isInRange_29 : decode cX11_isInRange 29 = .ok (.goto 4, 3) := by decide +kernel
theorem dX11_isInRange_32 : decode cX11_isInRange 32 = .ok (.iconst 0, 1) := by decide +kernel
theorem dX11_isInRange_33 : decode cX11_isInRange 33 = .ok (.ireturn, 1) := by decide +kernel
theorem dX11_requireObject_0 : decode cX11_requireObject 0 = .ok (.iload_n 1, 1) := by decide +kernel
theorem dX11_requireObject_1 : decode cX11_requireObject 1 = .ok (.ifCond .lt 14, 3) := by decide +kernel
theorem dX11_requireObject_4 : decode cX11_requireObject 4 = .ok (.iload_n 1, 1) := by decide +kernel
theorem dX11_requireObject_5 : decode cX11_requireObject 5 = .ok (.aload_n 0, 1) := by decide +kernel
theorem dX11_requireObject_6 : decode cX11_requireObject 6 = .ok (.getfield 10, 3) := by decide +kernel
theorem dX11_requireObject_9 : decode cX11_requireObject 9 = .ok (.getfield 243, 3) := by decide +kernel
theorem dX11_requireObject_12 : decode cX11_requireObject 12 = .ok (.if_icmp .lt 14, 3) := by decide +kernel
theorem dX11_requireObject_15 : decode cX11_requireObject 15 = .ok (.new 208, 3) := by decide +kernel
theorem dX11_requireObject_18 : decode cX11_requireObject 18 = .ok (.dup, 1) := by decide +kernel
theorem dX11_requireObject_19 : decode cX11_requireObject 19 = .ok (.ldc_w 295, 3) := by decide +kernel
theorem dX11_requireObject_22 : decode cX11_requireObject 22 = .ok (.invokespecial 212, 3) := by decide +kernel
theorem dX11_requireObject_25 : decode cX11_requireObject 25 = .ok (.athrow, 1) := by decide +kernel
theorem dX11_requireObject_26 : decode cX11_requireObject 26 = .ok (.return_, 1) := by decide +kernel
theorem dX11_requireKind_0 : decode cX11_requireKind 0 = .ok (.aload_n 0, 1) := by decide +kernel
theorem dX11_requireKind_1 : decode cX11_requireKind 1 = .ok (.getfield 10, 3) := by decide +kernel
theorem dX11_requireKind_4 : decode cX11_requireKind 4 = .ok (.iload_n 1, 1) := by decide +kernel
theorem dX11_requireKind_5 : decode cX11_requireKind 5 = .ok (.bipush 23, 2) := by decide +kernel
theorem dX11_requireKind_7 : decode cX11_requireKind 7 = .ok (.invokevirtual 84, 3) := by decide +kernel
theorem dX11_requireKind_10 : decode cX11_requireKind 10 = .ok (.iload_n 2, 1) := by decide +kernel
theorem dX11_requireKind_11 : decode cX11_requireKind 11 = .ok (.if_icmp .eq 14, 3) := by decide +kernel
theorem dX11_requireKind_14 : decode cX11_requireKind 14 = .ok (.new 61, 3) := by decide +kernel
theorem dX11_requireKind_17 : decode cX11_requireKind 17 = .ok (.dup, 1) := by decide +kernel
theorem dX11_requireKind_18 : decode cX11_requireKind 18 = .ok (.ldc_w 297, 3) := by decide +kernel
theorem dX11_requireKind_21 : decode cX11_requireKind 21 = .ok (.invokespecial 65, 3) := by decide +kernel
theorem dX11_requireKind_24 : decode cX11_requireKind 24 = .ok (.athrow, 1) := by decide +kernel
theorem dX11_requireKind_25 : decode cX11_requireKind 25 = .ok (.return_, 1) := by decide +kernel
theorem dX11_requireField_0 : decode cX11_requireField 0 = .ok (.aload_n 0, 1) := by decide +kernel
theorem dX11_requireField_1 : decode cX11_requireField 1 = .ok (.getfield 10, 3) := by decide +kernel
theorem dX11_requireField_4 : decode cX11_requireField 4 = .ok (.iload_n 1, 1) := by decide +kernel
theorem dX11_requireField_5 : decode cX11_requireField 5 = .ok (.bipush 23, 2) := by decide +kernel
theorem dX11_requireField_7 : decode cX11_requireField 7 = .ok (.invokevirtual 84, 3) := by decide +kernel
theorem dX11_requireField_10 : decode cX11_requireField 10 = .ok (.iload_n 2, 1) := by decide +kernel
theorem dX11_requireField_11 : decode cX11_requireField 11 = .ok (.invokestatic 88, 3) := by decide +kernel
theorem dX11_requireField_14 : decode cX11_requireField 14 = .ok (.ifCond .ne 14, 3) := by decide +kernel
theorem dX11_requireField_17 : decode cX11_requireField 17 = .ok (.new 61, 3) := by decide +kernel
theorem dX11_requireField_20 : decode cX11_requireField 20 = .ok (.dup, 1) := by decide +kernel
theorem dX11_requireField_21 : decode cX11_requireField 21 = .ok (.ldc_w 299, 3) := by decide +kernel
theorem dX11_requireField_24 : decode cX11_requireField 24 = .ok (.invokespecial 65, 3) := by decide +kernel
theorem dX11_requireField_27 : decode cX11_requireField 27 = .ok (.athrow, 1) := by decide +kernel
theorem dX11_requireField_28 : decode cX11_requireField 28 = .ok (.return_, 1) := by decide +kernel
theorem dX11_controllerAt_0 : decode cX11_controllerAt 0 = .ok (.iload_n 1, 1) := by decide +kernel
theorem dX11_controllerAt_1 : decode cX11_controllerAt 1 = .ok (.ifCond .lt 18, 3) := by decide +kernel
theorem dX11_controllerAt_4 : decode cX11_controllerAt 4 = .ok (.iload_n 1, 1) := by decide +kernel
theorem dX11_controllerAt_5 : decode cX11_controllerAt 5 = .ok (.bipush 8, 2) := by decide +kernel
theorem dX11_controllerAt_7 : decode cX11_controllerAt 7 = .ok (.if_icmp .ge 12, 3) := by decide +kernel
theorem dX11_controllerAt_10 : decode cX11_controllerAt 10 = .ok (.aload_n 0, 1) := by decide +kernel
theorem dX11_controllerAt_11 : decode cX11_controllerAt 11 = .ok (.getfield 18, 3) := by decide +kernel
theorem dX11_controllerAt_14 : decode cX11_controllerAt 14 = .ok (.iload_n 1, 1) := by decide +kernel
theorem dX11_controllerAt_15 : decode cX11_controllerAt 15 = .ok (.aaload, 1) := by decide +kernel
theorem dX11_controllerAt_16 : decode cX11_controllerAt 16 = .ok (.goto 4, 3) := by decide +kernel
theorem dX11_controllerAt_19 : decode cX11_controllerAt 19 = .ok (.aconst_null, 1) := by decide +kernel
theorem dX11_controllerAt_20 : decode cX11_controllerAt 20 = .ok (.areturn, 1) := by decide +kernel
theorem dJ9_floorDiv_7cf53_0 : decode cJ9_floorDiv_7cf53 0 = .ok (.iload_n 0, 1) := by decide +kernel
theorem dJ9_floorDiv_7cf53_1 : decode cJ9_floorDiv_7cf53 1 = .ok (.iload_n 1, 1) := by decide +kernel
theorem dJ9_floorDiv_7cf53_2 : decode cJ9_floorDiv_7cf53 2 = .ok (.idiv, 1) := by decide +kernel
theorem dJ9_floorDiv_7cf53_3 : decode cJ9_floorDiv_7cf53 3 = .ok (.istore_n 2, 1) := by decide +kernel
theorem dJ9_floorDiv_7cf53_4 : decode cJ9_floorDiv_7cf53 4 = .ok (.iload_n 0, 1) := by decide +kernel
theorem dJ9_floorDiv_7cf53_5 : decode cJ9_floorDiv_7cf53 5 = .ok (.iload_n 1, 1) := by decide +kernel
theorem dJ9_floorDiv_7cf53_6 : decode cJ9_floorDiv_7cf53 6 = .ok (.ixor, 1) := by decide +kernel
theorem dJ9_floorDiv_7cf53_7 : decode cJ9_floorDiv_7cf53 7 = .ok (.ifCond .ge 14, 3) := by decide +kernel
theorem dJ9_floorDiv_7cf53_10 : decode cJ9_floorDiv_7cf53 10 = .ok (.iload_n 2, 1) := by decide +kernel
theorem dJ9_floorDiv_7cf53_11 : decode cJ9_floorDiv_7cf53 11 = .ok (.iload_n 1, 1) := by decide +kernel
theorem dJ9_floorDiv_7cf53_12 : decode cJ9_floorDiv_7cf53 12 = .ok (.imul, 1) := by decide +kernel
theorem dJ9_floorDiv_7cf53_13 : decode cJ9_floorDiv_7cf53 13 = .ok (.iload_n 0, 1) := by decide +kernel
theorem dJ9_floorDiv_7cf53_14 : decode cJ9_floorDiv_7cf53 14 = .ok (.if_icmp .eq 7, 3) := by decide +kernel
theorem dJ9_floorDiv_7cf53_17 : decode cJ9_floorDiv_7cf53 17 = .ok (.iload_n 2, 1) := by decide +kernel
theorem dJ9_floorDiv_7cf53_18 : decode cJ9_floorDiv_7cf53 18 = .ok (.iconst 1, 1) := by decide +kernel
theorem dJ9_floorDiv_7cf53_19 : decode cJ9_floorDiv_7cf53 19 = .ok (.isub, 1) := by decide +kernel
theorem dJ9_floorDiv_7cf53_20 : decode cJ9_floorDiv_7cf53 20 = .ok (.ireturn, 1) := by decide +kernel
theorem dJ9_floorDiv_7cf53_21 : decode cJ9_floorDiv_7cf53 21 = .ok (.iload_n 2, 1) := by decide +kernel
theorem dJ9_floorDiv_7cf53_22 : decode cJ9_floorDiv_7cf53 22 = .ok (.ireturn, 1) := by decide +kernel
theorem dJ9_floorMod_7cf53_0 : decode cJ9_floorMod_7cf53 0 = .ok (.iload_n 0, 1) := by decide +kernel
theorem dJ9_floorMod_7cf53_1 : decode cJ9_floorMod_7cf53 1 = .ok (.iload_n 1, 1) := by decide +kernel
theorem dJ9_floorMod_7cf53_2 : decode cJ9_floorMod_7cf53 2 = .ok (.irem, 1) := by decide +kernel
theorem dJ9_floorMod_7cf53_3 : decode cJ9_floorMod_7cf53 3 = .ok (.istore_n 2, 1) := by decide +kernel
theorem dJ9_floorMod_7cf53_4 : decode cJ9_floorMod_7cf53 4 = .ok (.iload_n 0, 1) := by decide +kernel
theorem dJ9_floorMod_7cf53_5 : decode cJ9_floorMod_7cf53 5 = .ok (.iload_n 1, 1) := by decide +kernel
theorem dJ9_floorMod_7cf53_6 : decode cJ9_floorMod_7cf53 6 = .ok (.ixor, 1) := by decide +kernel
theorem dJ9_floorMod_7cf53_7 : decode cJ9_floorMod_7cf53 7 = .ok (.ifCond .ge 11, 3) := by decide +kernel
theorem dJ9_floorMod_7cf53_10 : decode cJ9_floorMod_7cf53 10 = .ok (.iload_n 2, 1) := by decide +kernel
theorem dJ9_floorMod_7cf53_11 : decode cJ9_floorMod_7cf53 11 = .ok (.ifCond .eq 7, 3) := by decide +kernel
theorem dJ9_floorMod_7cf53_14 : decode cJ9_floorMod_7cf53 14 = .ok (.iload_n 2, 1) := by decide +kernel
theorem dJ9_floorMod_7cf53_15 : decode cJ9_floorMod_7cf53 15 = .ok (.iload_n 1, 1) := by decide +kernel
theorem dJ9_floorMod_7cf53_16 : decode cJ9_floorMod_7cf53 16 = .ok (.iadd, 1) := by decide +kernel
theorem dJ9_floorMod_7cf53_17 : decode cJ9_floorMod_7cf53 17 = .ok (.ireturn, 1) := by decide +kernel
theorem dJ9_floorMod_7cf53_18 : decode cJ9_floorMod_7cf53 18 = .ok (.iload_n 2, 1) := by decide +kernel
theorem dJ9_floorMod_7cf53_19 : decode cJ9_floorMod_7cf53 19 = .ok (.ireturn, 1) := by decide +kernel
end
