section
theorem dX12_widthOf_0 : decode cX12_widthOf 0 = .ok (.iload_n 0, 1) := by decide +kernel
theorem dX12_widthOf_1 : decode cX12_widthOf 1 = .ok (.bipush 6, 2) := by decide +kernel
theorem dX12_widthOf_3 : decode cX12_widthOf 3 = .ok (.if_icmp .eq 15, 3) := by decide +kernel
theorem dX12_widthOf_6 : decode cX12_widthOf 6 = .ok (.iload_n 0, 1) := by decide +kernel
theorem dX12_widthOf_7 : decode cX12_widthOf 7 = .ok (.bipush 11, 2) := by decide +kernel
theorem dX12_widthOf_9 : decode cX12_widthOf 9 = .ok (.if_icmp .eq 9, 3) := by decide +kernel
theorem dX12_widthOf_12 : decode cX12_widthOf 12 = .ok (.iload_n 0, 1) := by decide +kernel
theorem dX12_widthOf_13 : decode cX12_widthOf 13 = .ok (.bipush 15, 2) := by decide +kernel
theorem dX12_widthOf_15 : decode cX12_widthOf 15 = .ok (.if_icmp .ne 8, 3) := by decide +kernel
theorem dX12_widthOf_18 : decode cX12_widthOf 18 = .ok (.bipush 7, 2) := by decide +kernel
theorem dX12_widthOf_20 : decode cX12_widthOf 20 = .ok (.goto 72, 3) := by decide +kernel
theorem dX12_widthOf_23 : decode cX12_widthOf 23 = .ok (.iload_n 0, 1) := by decide +kernel
theorem dX12_widthOf_24 : decode cX12_widthOf 24 = .ok (.iconst 1, 1) := by decide +kernel
theorem dX12_widthOf_25 : decode cX12_widthOf 25 = .ok (.if_icmp .eq 9, 3) := by decide +kernel
theorem dX12_widthOf_28 : decode cX12_widthOf 28 = .ok (.iload_n 0, 1) := by decide +kernel
theorem dX12_widthOf_29 : decode cX12_widthOf 29 = .ok (.bipush 7, 2) := by decide +kernel
theorem dX12_widthOf_31 : decode cX12_widthOf 31 = .ok (.if_icmp .ne 7, 3) := by decide +kernel
theorem dX12_widthOf_34 : decode cX12_widthOf 34 = .ok (.iconst 4, 1) := by decide +kernel
theorem dX12_widthOf_35 : decode cX12_widthOf 35 = .ok (.goto 57, 3) := by decide +kernel
theorem dX12_widthOf_38 : decode cX12_widthOf 38 = .ok (.iload_n 0, 1) := by decide +kernel
theorem dX12_widthOf_39 : decode cX12_widthOf 39 = .ok (.bipush 12, 2) := by decide +kernel
theorem dX12_widthOf_41 : decode cX12_widthOf 41 = .ok (.if_icmp .eq 20, 3) := by decide +kernel
theorem dX12_widthOf_44 : decode cX12_widthOf 44 = .ok (.iload_n 0, 1) := by decide +kernel
theorem dX12_widthOf_45 : decode cX12_widthOf 45 = .ok (.bipush 14, 2) := by decide +kernel
theorem dX12_widthOf_47 : decode cX12_widthOf 47 = .ok (.if_icmp .eq 14, 3) := by decide +kernel
theorem dX12_widthOf_50 : decode cX12_widthOf 50 = .ok (.iload_n 0, 1) := by decide +kernel
theorem dX12_widthOf_51 : decode cX12_widthOf 51 = .ok (.iconst 4, 1) := by decide +kernel
theorem dX12_widthOf_52 : decode cX12_widthOf 52 = .ok (.if_icmp .eq 9, 3) := by decide +kernel
theorem dX12_widthOf_55 : decode cX12_widthOf 55 = .ok (.iload_n 0, 1) := by decide +kernel
theorem dX12_widthOf_56 : decode cX12_widthOf 56 = .ok (.bipush 9, 2) := by decide +kernel
theorem dX12_widthOf_58 : decode cX12_widthOf 58 = .ok (.if_icmp .ne 7, 3) := by decide +kernel
theorem dX12_widthOf_61 : decode cX12_widthOf 61 = .ok (.iconst 1, 1) := by decide +kernel
theorem dX12_widthOf_62 : decode cX12_widthOf 62 = .ok (.goto 30, 3) := by decide +kernel
theorem dX12_widthOf_65 : decode cX12_widthOf 65 = .ok (.iload_n 0, 1) := by decide +kernel
theorem dX12_widthOf_66 : decode cX12_widthOf 66 = .ok (.iconst 2, 1) := by decide +kernel
theorem dX12_widthOf_67 : decode cX12_widthOf 67 = .ok (.if_icmp .eq 20, 3) := by decide +kernel
theorem dX12_widthOf_70 : decode cX12_widthOf 70 = .ok (.iload_n 0, 1) := by decide +kernel
theorem dX12_widthOf_71 : decode cX12_widthOf 71 = .ok (.iconst 3, 1) := by decide +kernel
theorem dX12_widthOf_72 : decode cX12_widthOf 72 = .ok (.if_icmp .eq 15, 3) := by decide +kernel
theorem dX12_widthOf_75 : decode cX12_widthOf 75 = .ok (.iload_n 0, 1) := by decide +kernel
theorem dX12_widthOf_76 : decode cX12_widthOf 76 = .ok (.bipush 8, 2) := by decide +kernel
theorem dX12_widthOf_78 : decode cX12_widthOf 78 = .ok (.if_icmp .eq 9, 3) := by decide +kernel
theorem dX12_widthOf_81 : decode cX12_widthOf 81 = .ok (.iload_n 0, 1) := by decide +kernel
theorem dX12_widthOf_82 : decode cX12_widthOf 82 = .ok (.bipush 16, 2) := by decide +kernel
theorem dX12_widthOf_84 : decode cX12_widthOf 84 = .ok (.if_icmp .ne 7, 3) := by decide +kernel
theorem dX12_widthOf_87 : decode cX12_widthOf 87 = .ok (.iconst 2, 1) := by decide +kernel
theorem dX12_widthOf_88 : decode cX12_widthOf 88 = .ok (.goto 4, 3) := by decide +kernel
theorem dX12_widthOf_91 : decode cX12_widthOf 91 = .ok (.iconst 3, 1) := by decide +kernel
theorem dX12_widthOf_92 : decode cX12_widthOf 92 = .ok (.ireturn, 1) := by decide +kernel
theorem dX12_thrown_0 : decode cX12_thrown 0 = .ok (.aload_n 0, 1) := by decide +kernel
theorem dX12_thrown_1 : decode cX12_thrown 1 = .ok (.getfield 134, 3) := by decide +kernel
theorem dX12_thrown_4 : decode cX12_thrown 4 = .ok (.ireturn, 1) := by decide +kernel
theorem dX12_goes_0 : decode cX12_goes 0 = .ok (.aload_n 0, 1) := by decide +kernel
theorem dX12_goes_1 : decode cX12_goes 1 = .ok (.iload_n 1, 1) := by decide +kernel
theorem dX12_goes_2 : decode cX12_goes 2 = .ok (.putfield 134, 3) := by decide +kernel
theorem dX12_goes_5 : decode cX12_goes 5 = .ok (.iload_n 1, 1) := by decide +kernel
theorem dX12_goes_6 : decode cX12_goes 6 = .ok (.ifCond .ne 7, 3) := by decide +kernel
theorem dX12_goes_9 : decode cX12_goes 9 = .ok (.iconst 1, 1) := by decide +kernel
theorem dX12_goes_10 : decode cX12_goes 10 = .ok (.goto 4, 3) := by decide +kernel
theorem dX12_goes_13 : decode cX12_goes 13 = .ok (.iconst 0, 1) := by decide +kernel
theorem dX12_goes_14 : decode cX12_goes 14 = .ok (.ireturn, 1) := by decide +kernel
theorem dX12_isIn_0 : decode cX12_isIn 0 = .ok (.iload_n 0, 1) := by decide +kernel
theorem dX12_isIn_1 : decode cX12_isIn 1 = .ok (.iload_n 1, 1) := by decide +kernel
theorem dX12_isIn_2 : decode cX12_isIn 2 = .ok (.if_icmp .lt 12, 3) := by decide +kernel
theorem dX12_isIn_5 : decode cX12_isIn 5 = .ok (.iload_n 0, 1) := by decide +kernel
theorem dX12_isIn_6 : decode cX12_isIn 6 = .ok (.iload_n 2, 1) := by decide +kernel
theorem dX12_isIn_7 : decode cX12_isIn 7 = .ok (.if_icmp .gt 7, 3) := by decide +kernel
theorem dX12_isIn_10 : decode cX12_isIn 10 = .ok (.iconst 1, 1) := by decide +kernel
theorem dX12_isIn_11 : decode cX12_isIn 11 = .ok (.goto 4, 3) := by decide +kernel
theorem dX12_isIn_14 : decode cX12_isIn 14 = .ok (.iconst 0, 1) := by decide +kernel
theorem dX12_isIn_15 : decode cX12_isIn 15 = .ok (.ireturn, 1) := by decide +kernel
theorem dX12_isObject_0 : decode cX12_isObject 0 = .ok (.iload_n 1, 1) := by decide +kernel
theorem dX12_isObject_1 : decode cX12_isObject 1 = .ok (.iconst 0, 1) := by decide +kernel
theorem dX12_isObject_2 : decode cX12_isObject 2 = .ok (.aload_n 0, 1) := by decide +kernel
theorem dX12_isObject_3 : decode cX12_isObject 3 = .ok (.getfield 137, 3) := by decide +kernel
theorem dX12_isObject_6 : decode cX12_isObject 6 = .ok (.iconst 1, 1) := by decide +kernel
theorem dX12_isObject_7 : decode cX12_isObject 7 = .ok (.isub, 1) := by decide +kernel
theorem dX12_isObject_8 : decode cX12_isObject 8 = .ok (.invokestatic 140, 3) := by decide +kernel
theorem dX12_isObject_11 : decode cX12_isObject 11 = .ok (.ireturn, 1) := by decide +kernel
theorem dX12_isKind_0 : decode cX12_isKind 0 = .ok (.iload_n 0, 1) := by decide +kernel
theorem dX12_isKind_1 : decode cX12_isKind 1 = .ok (.iconst 0, 1) := by decide +kernel
theorem dX12_isKind_2 : decode cX12_isKind 2 = .ok (.iconst 5, 1) := by decide +kernel
theorem dX12_isKind_3 : decode cX12_isKind 3 = .ok (.invokestatic 140, 3) := by decide +kernel
theorem dX12_isKind_6 : decode cX12_isKind 6 = .ok (.ireturn, 1) := by decide +kernel
theorem dX12_hasField_0 : decode cX12_hasField 0 = .ok (.iload_n 2, 1) := by decide +kernel
theorem dX12_hasField_1 : decode cX12_hasField 1 = .ok (.iconst 0, 1) := by decide +kernel
theorem dX12_hasField_2 : decode cX12_hasField 2 = .ok (.bipush 10, 2) := by decide +kernel
theorem dX12_hasField_4 : decode cX12_hasField 4 = .ok (.invokestatic 140, 3) := by decide +kernel
theorem dX12_hasField_7 : decode cX12_hasField 7 = .ok (.ifCond .eq 21, 3) := by decide +kernel
theorem dX12_hasField_10 : decode cX12_hasField 10 = .ok (.aload_n 0, 1) := by decide +kernel
theorem dX12_hasField_11 : decode cX12_hasField 11 = .ok (.getfield 22, 3) := by decide +kernel
theorem dX12_hasField_14 : decode cX12_hasField 14 = .ok (.iload_n 1, 1) := by decide +kernel
theorem dX12_hasField_15 : decode cX12_hasField 15 = .ok (.iaload, 1) := by decide +kernel
theorem dX12_hasField_16 : decode cX12_hasField 16 = .ok (.iload_n 2, 1) := by decide +kernel
theorem dX12_hasField_17 : decode cX12_hasField 17 = .ok (.ishr, 1) := by decide +kernel
theorem dX12_hasField_18 : decode cX12_hasField 18 = .ok (.iconst 1, 1) := by decide +kernel
theorem dX12_hasField_19 : decode cX12_hasField 19 = .ok (.iand, 1) := by decide +kernel
theorem dX12_hasField_20 : decode cX12_hasField 20 = .ok (.iconst 1, 1) := by decide +kernel
theorem dX12_hasField_21 : decode cX12_hasField 21 = .ok (.if_icmp .ne 7, 3) := by decide +kernel
theorem dX12_hasField_24 : decode cX12_hasField 24 = .ok (.iconst 1, 1) := by decide +kernel
theorem dX12_hasField_25 : decode cX12_hasField 25 = .ok (.goto 4, 3) := by decide +kernel
theorem dX12_hasField_28 : decode cX12_hasField 28 = .ok (.iconst 0, 1) := by decide +kernel
theorem dX12_hasField_29 : decode cX12_hasField 29 = .ok (.ireturn, 1) := by decide +kernel
theorem dX12_isValue_0 : decode cX12_isValue 0 = .ok (.iload_n 2, 1) := by decide +kernel
theorem dX12_isValue_1 : decode cX12_isValue 1 = .ok (.aload_n 0, 1) := by decide +kernel
theorem dX12_isValue_2 : decode cX12_isValue 2 = .ok (.getfield 16, 3) := by decide +kernel
theorem dX12_isValue_5 : decode cX12_isValue 5 = .ok (.iload_n 1, 1) := by decide +kernel
theorem dX12_isValue_6 : decode cX12_isValue 6 = .ok (.iaload, 1) := by decide +kernel
theorem dX12_isValue_7 : decode cX12_isValue 7 = .ok (.aload_n 0, 1) := by decide +kernel
theorem dX12_isValue_8 : decode cX12_isValue 8 = .ok (.getfield 19, 3) := by decide +kernel
theorem dX12_isValue_11 : decode cX12_isValue 11 = .ok (.iload_n 1, 1) := by decide +kernel
theorem dX12_isValue_12 : decode cX12_isValue 12 = .ok (.iaload, 1) := by decide +kernel
theorem dX12_isValue_13 : decode cX12_isValue 13 = .ok (.invokestatic 140, 3) := by decide +kernel
theorem dX12_isValue_16 : decode cX12_isValue 16 = .ok (.ireturn, 1) := by decide +kernel
theorem dX12_get_0 : decode cX12_get 0 = .ok (.lload_n 1, 1) := by decide +kernel
theorem dX12_get_1 : decode cX12_get 1 = .ok (.aload_n 0, 1) := by decide +kernel
theorem dX12_get_2 : decode cX12_get 2 = .ok (.getfield 7, 3) := by decide +kernel
theorem dX12_get_5 : decode cX12_get 5 = .ok (.iload_n 3, 1) := by decide +kernel
theorem dX12_get_6 : decode cX12_get 6 = .ok (.iaload, 1) := by decide +kernel
theorem dX12_get_7 : decode cX12_get 7 = .ok (.lshr, 1) := by decide +kernel
theorem dX12_get_8 : decode cX12_get 8 = .ok (.lconst 1, 1) := by decide +kernel
theorem dX12_get_9 : decode cX12_get 9 = .ok (.aload_n 0, 1) := by decide +kernel
theorem dX12_get_10 : decode cX12_get 10 = .ok (.getfield 13, 3) := by decide +kernel
theorem dX12_get_13 : decode cX12_get 13 = .ok (.iload_n 3, 1) := by decide +kernel
theorem dX12_get_14 : decode cX12_get 14 = .ok (.iaload, 1) := by decide +kernel
theorem dX12_get_15 : decode cX12_get 15 = .ok (.lshl, 1) := by decide +kernel
theorem dX12_get_16 : decode cX12_get 16 = .ok (.lconst 1, 1) := by decide +kernel
theorem dX12_get_17 : decode cX12_get 17 = .ok (.lsub, 1) := by decide +kernel
theorem dX12_get_18 : decode cX12_get 18 = .ok (.land, 1) := by decide +kernel
theorem dX12_get_19 : decode cX12_get 19 = .ok (.l2i, 1) := by decide +kernel
theorem dX12_get_20 : decode cX12_get 20 = .ok (.ireturn, 1) := by decide +kernel
theorem dX12_with_0 : decode cX12_with 0 = .ok (.lconst 1, 1) := by decide +kernel
theorem dX12_with_1 : decode cX12_with 1 = .ok (.aload_n 0, 1) := by decide +kernel
theorem dX12_with_2 : decode cX12_with 2 = .ok (.getfield 13, 3) := by decide +kernel
theorem dX12_with_5 : decode cX12_with 5 = .ok (.iload_n 3, 1) := by decide +kernel
theorem dX12_with_6 : decode cX12_with 6 = .ok (.iaload, 1) := by decide +kernel
theorem dX12_with_7 : decode cX12_with 7 = .ok (.lshl, 1) := by decide +kernel
theorem dX12_with_8 : decode cX12_with 8 = .ok (.lconst 1, 1) := by decide +kernel
theorem dX12_with_9 : decode cX12_with 9 = .ok (.lsub, 1) := by decide +kernel
theorem dX12_with_10 : decode cX12_with 10 = .ok (.aload_n 0, 1) := by decide +kernel
theorem dX12_with_11 : decode cX12_with 11 = .ok (.getfield 7, 3) := by decide +kernel
theorem dX12_with_14 : decode cX12_with 14 = .ok (.iload_n 3, 1) := by decide +kernel
theorem dX12_with_15 : decode cX12_with 15 = .ok (.iaload, 1) := by decide +kernel
theorem dX12_with_16 : decode cX12_with 16 = .ok (.lshl, 1) := by decide +kernel
theorem dX12_with_17 : decode cX12_with 17 = .ok (.lstore 5, 2) := by decide +kernel
theorem dX12_with_19 : decode cX12_with 19 = .ok (.lload_n 1, 1) := by decide +kernel
theorem dX12_with_20 : decode cX12_with 20 = .ok (.lload 5, 2) := by decide +kernel
theorem dX12_with_22 : decode cX12_with 22 = .ok (.ldc2_w 144, 3) := by decide +kernel
theorem dX12_with_25 : decode cX12_with 25 = .ok (.lxor, 1) := by decide +kernel
theorem dX12_with_26 : decode cX12_with 26 = .ok (.land, 1) := by decide +kernel
theorem dX12_with_27 : decode cX12_with 27 = .ok (.iload 4, 2) := by decide +kernel
theorem dX12_with_29 : decode cX12_with 29 = .ok (.i2l, 1) := by decide +kernel
theorem dX12_with_30 : decode cX12_with 30 = .ok (.aload_n 0, 1) := by decide +kernel
theorem dX12_with_31 : decode cX12_with 31 = .ok (.getfield 7, 3) := by decide +kernel
theorem dX12_with_34 : decode cX12_with 34 = .ok (.iload_n 3, 1) := by decide +kernel
theorem dX12_with_35 : decode cX12_with 35 = .ok (.iaload, 1) := by decide +kernel
theorem dX12_with_36 : decode cX12_with 36 = .ok (.lshl, 1) := by decide +kernel
theorem dX12_with_37 : decode cX12_with 37 = .ok (.lor, 1) := by decide +kernel
theorem dX12_with_38 : decode cX12_with 38 = .ok (.lreturn, 1) := by decide +kernel
theorem dX12_ownerIn_0 : decode cX12_ownerIn 0 = .ok (.aload_n 0, 1) := by decide +kernel
theorem dX12_ownerIn_1 : decode cX12_ownerIn 1 = .ok (.lload_n 1, 1) := by decide +kernel
theorem dX12_ownerIn_2 : decode cX12_ownerIn 2 = .ok (.bipush 11, 2) := by decide +kernel
theorem dX12_ownerIn_4 : decode cX12_ownerIn 4 = .ok (.invokevirtual 146, 3) := by decide +kernel
theorem dX12_ownerIn_7 : decode cX12_ownerIn 7 = .ok (.iconst 1, 1) := by decide +kernel
theorem dX12_ownerIn_8 : decode cX12_ownerIn 8 = .ok (.isub, 1) := by decide +kernel
theorem dX12_ownerIn_9 : decode cX12_ownerIn 9 = .ok (.ireturn, 1) := by decide +kernel
theorem dX12_gone_0 : decode cX12_gone 0 = .ok (.aload_n 0, 1) := by decide +kernel
theorem dX12_gone_1 : decode cX12_gone 1 = .ok (.aload_n 0, 1) := by decide +kernel
theorem dX12_gone_2 : decode cX12_gone 2 = .ok (.lload_n 1, 1) := by decide +kernel
theorem dX12_gone_3 : decode cX12_gone 3 = .ok (.bipush 13, 2) := by decide +kernel
theorem dX12_gone_5 : decode cX12_gone 5 = .ok (.iconst 4, 1) := by decide +kernel
theorem dX12_gone_6 : decode cX12_gone 6 = .ok (.invokevirtual 150, 3) := by decide +kernel
theorem dX12_gone_9 : decode cX12_gone 9 = .ok (.bipush 11, 2) := by decide +kernel
theorem dX12_gone_11 : decode cX12_gone 11 = .ok (.iconst 0, 1) := by decide +kernel
theorem dX12_gone_12 : decode cX12_gone 12 = .ok (.invokevirtual 150, 3) := by decide +kernel
theorem dX12_gone_15 : decode cX12_gone 15 = .ok (.lreturn, 1) := by decide +kernel
theorem dX12_isOf_0 : decode cX12_isOf 0 = .ok (.lload_n 0, 1) := by decide +kernel
theorem dX12_isOf_1 : decode cX12_isOf 1 = .ok (.iload_n 2, 1) := by decide +kernel
theorem dX12_isOf_2 : decode cX12_isOf 2 = .ok (.lshr, 1) := by decide +kernel
theorem dX12_isOf_3 : decode cX12_isOf 3 = .ok (.lconst 1, 1) := by decide +kernel
theorem dX12_isOf_4 : decode cX12_isOf 4 = .ok (.land, 1) := by decide +kernel
theorem dX12_isOf_5 : decode cX12_isOf 5 = .ok (.lconst 1, 1) := by decide +kernel
theorem dX12_isOf_6 : decode cX12_isOf 6 = .ok (.lcmp, 1) := by decide +kernel
theorem dX12_isOf_7 : decode cX12_isOf 7 = .ok (.ifCond .ne 7, 3) := by decide +kernel
theorem dX12_isOf_10 : decode cX12_isOf 10 = .ok (.iconst 1, 1) := by decide +kernel
theorem dX12_isOf_11 : decode cX12_isOf 11 = .ok (.goto 4, 3) := by decide +kernel
theorem dX12_isOf_14 : decode cX12_isOf 14 = .ok (.iconst 0, 1) := by decide +kernel
theorem dX12_isOf_15 : decode cX12_isOf 15 = .ok (.ireturn, 1) := by decide +kernel
theorem dX12_isFull_0 : decode cX12_isFull 0 = .ok (.aload_n 0, 1) := by decide +kernel
theorem dX12_isFull_1 : decode cX12_isFull 1 = .ok (.getfield 154, 3) := by decide +kernel
theorem dX12_isFull_4 : decode cX12_isFull 4 = .ok (.sipush 400, 3) := by decide +kernel
theorem dX12_isFull_7 : decode cX12_isFull 7 = .ok (.if_icmp .ne 7, 3) := by decide +kernel
theorem dX12_isFull_10 : decode cX12_isFull 10 = .ok (.iconst 1, 1) := by decide +kernel
theorem dX12_isFull_11 : decode cX12_isFull 11 = .ok (.goto 4, 3) := by decide +kernel
theorem dX12_isFull_14 : decode cX12_isFull 14 = .ok (.iconst 0, 1) := by decide +kernel
theorem dX12_isFull_15 : decode cX12_isFull 15 = .ok (.ireturn, 1) := by decide +kernel
theorem dX12_logs_0 : decode cX12_logs 0 = .ok (.aload_n 0, 1) := by decide +kernel
theorem dX12_logs_1 : decode cX12_logs 1 = .ok (.dup, 1) := by decide +kernel
theorem dX12_logs_2 : decode cX12_logs 2 = .ok (.getfield 154, 3) := by decide +kernel
theorem dX12_logs_5 : decode cX12_logs 5 = .ok (.iconst 1, 1) := by decide +kernel
theorem dX12_logs_6 : decode cX12_logs 6 = .ok (.iadd, 1) := by decide +kernel
theorem dX12_logs_7 : decode cX12_logs 7 = .ok (.putfield 154, 3) := by decide +kernel
theorem dX12_logs_10 : decode cX12_logs 10 = .ok (.aload_n 0, 1) := by decide +kernel
theorem dX12_logs_11 : decode cX12_logs 11 = .ok (.getfield 28, 3) := by decide +kernel
theorem dX12_logs_14 : decode cX12_logs 14 = .ok (.iload_n 1, 1) := by decide +kernel
theorem dX12_logs_15 : decode cX12_logs 15 = .ok (.lload_n 2, 1) := by decide +kernel
theorem dX12_logs_16 : decode cX12_logs 16 = .ok (.lastore, 1) := by decide +kernel
theorem dX12_logs_17 : decode cX12_logs 17 = .ok (.aload_n 0, 1) := by decide +kernel
theorem dX12_logs_18 : decode cX12_logs 18 = .ok (.getfield 32, 3) := by decide +kernel
theorem dX12_logs_21 : decode cX12_logs 21 = .ok (.iload_n 1, 1) := by decide +kernel
theorem dX12_logs_22 : decode cX12_logs 22 = .ok (.lload 4, 2) := by decide +kernel
theorem dX12_logs_24 : decode cX12_logs 24 = .ok (.lastore, 1) := by decide +kernel
theorem dX12_logs_25 : decode cX12_logs 25 = .ok (.aload_n 0, 1) := by decide +kernel
theorem dX12_logs_26 : decode cX12_logs 26 = .ok (.getfield 35, 3) := by decide +kernel
theorem dX12_logs_29 : decode cX12_logs 29 = .ok (.iload_n 1, 1) := by decide +kernel
theorem dX12_logs_30 : decode cX12_logs 30 = .ok (.aload_n 0, 1) := by decide +kernel
theorem dX12_logs_31 : decode cX12_logs 31 = .ok (.getfield 154, 3) := by decide +kernel
theorem dX12_logs_34 : decode cX12_logs 34 = .ok (.iastore, 1) := by decide +kernel
theorem dX12_logs_35 : decode cX12_logs 35 = .ok (.aload_n 0, 1) := by decide +kernel
theorem dX12_logs_36 : decode cX12_logs 36 = .ok (.getfield 50, 3) := by decide +kernel
theorem dX12_logs_39 : decode cX12_logs 39 = .ok (.aload_n 0, 1) := by decide +kernel
theorem dX12_logs_40 : decode cX12_logs 40 = .ok (.getfield 154, 3) := by decide +kernel
theorem dX12_logs_43 : decode cX12_logs 43 = .ok (.iload_n 1, 1) := by decide +kernel
theorem dX12_logs_44 : decode cX12_logs 44 = .ok (.iastore, 1) := by decide +kernel
theorem dX12_logs_45 : decode cX12_logs 45 = .ok (.aload_n 0, 1) := by decide +kernel
theorem dX12_logs_46 : decode cX12_logs 46 = .ok (.getfield 53, 3) := by decide +kernel
theorem dX12_logs_49 : decode cX12_logs 49 = .ok (.aload_n 0, 1) := by decide +kernel
theorem dX12_logs_50 : decode cX12_logs 50 = .ok (.getfield 154, 3) := by decide +kernel
theorem dX12_logs_53 : decode cX12_logs 53 = .ok (.lload_n 2, 1) := by decide +kernel
theorem dX12_logs_54 : decode cX12_logs 54 = .ok (.lastore, 1) := by decide +kernel
theorem dX12_logs_55 : decode cX12_logs 55 = .ok (.aload_n 0, 1) := by decide +kernel
theorem dX12_logs_56 : decode cX12_logs 56 = .ok (.getfield 56, 3) := by decide +kernel
theorem dX12_logs_59 : decode cX12_logs 59 = .ok (.aload_n 0, 1) := by decide +kernel
theorem dX12_logs_60 : decode cX12_logs 60 = .ok (.getfield 154, 3) := by decide +kernel
theorem dX12_logs_63 : decode cX12_logs 63 = .ok (.lload 4, 2) := by decide +kernel
theorem dX12_logs_65 : decode cX12_logs 65 = .ok (.lastore, 1) := by decide +kernel
theorem dX12_logs_66 : decode cX12_logs 66 = .ok (.return_, 1) := by decide +kernel
theorem dX12_puts_0 : decode cX12_puts 0 = .ok (.iload 6, 2) := by decide +kernel
theorem dX12_puts_2 : decode cX12_puts 2 = .ok (.ifCond .ne 26, 3) := by decide +kernel
theorem dX12_puts_5 : decode cX12_puts 5 = .ok (.aload_n 0, 1) := by decide +kernel
theorem dX12_puts_6 : decode cX12_puts 6 = .ok (.getfield 28, 3) := by decide +kernel
theorem dX12_puts_9 : decode cX12_puts 9 = .ok (.iload_n 1, 1) := by decide +kernel
theorem dX12_puts_10 : decode cX12_puts 10 = .ok (.laload, 1) := by decide +kernel
theorem dX12_puts_11 : decode cX12_puts 11 = .ok (.lload_n 2, 1) := by decide +kernel
theorem dX12_puts_12 : decode cX12_puts 12 = .ok (.lcmp, 1) := by decide +kernel
theorem dX12_puts_13 : decode cX12_puts 13 = .ok (.ifCond .ne 15, 3) := by decide +kernel
theorem dX12_puts_16 : decode cX12_puts 16 = .ok (.aload_n 0, 1) := by decide +kernel
theorem dX12_puts_17 : decode cX12_puts 17 = .ok (.getfield 32, 3) := by decide +kernel
theorem dX12_puts_20 : decode cX12_puts 20 = .ok (.iload_n 1, 1) := by decide +kernel
theorem dX12_puts_21 : decode cX12_puts 21 = .ok (.laload, 1) := by decide +kernel
theorem dX12_puts_22 : decode cX12_puts 22 = .ok (.lload 4, 2) := by decide +kernel
theorem dX12_puts_24 : decode cX12_puts 24 = .ok (.lcmp, 1) := by decide +kernel
theorem dX12_puts_25 : decode cX12_puts 25 = .ok (.ifCond .eq 7, 3) := by decide +kernel
theorem dX12_puts_28 : decode cX12_puts 28 = .ok (.iconst 1, 1) := by decide +kernel
theorem dX12_puts_29 : decode cX12_puts 29 = .ok (.goto 4, 3) := by decide +kernel
theorem dX12_puts_32 : decode cX12_puts 32 = .ok (.iconst 0, 1) := by decide +kernel
theorem dX12_puts_33 : decode cX12_puts 33 = .ok (.istore 7, 2) := by decide +kernel
theorem dX12_puts_35 : decode cX12_puts 35 = .ok (.iload 7, 2) := by decide +kernel
theorem dX12_puts_37 : decode cX12_puts 37 = .ok (.ifCond .eq 12, 3) := by decide +kernel
theorem dX12_puts_40 : decode cX12_puts 40 = .ok (.aload_n 0, 1) := by decide +kernel
theorem dX12_puts_41 : decode cX12_puts 41 = .ok (.invokevirtual 157, 3) := by decide +kernel
theorem dX12_puts_44 : decode cX12_puts 44 = .ok (.ifCond .eq 5, 3) := by decide +kernel
theorem dX12_puts_47 : decode cX12_puts 47 = .ok (.iconst 0, 1) := by decide +kernel
theorem dX12_puts_48 : decode cX12_puts 48 = .ok (.ireturn, 1) := by decide +kernel
theorem dX12_puts_49 : decode cX12_puts 49 = .ok (.iload 7, 2) := by decide +kernel
theorem dX12_puts_51 : decode cX12_puts 51 = .ok (.ifCond .eq 11, 3) := by decide +kernel
theorem dX12_puts_54 : decode cX12_puts 54 = .ok (.aload_n 0, 1) := by decide +kernel
theorem dX12_puts_55 : decode cX12_puts 55 = .ok (.iload_n 1, 1) := by decide +kernel
theorem dX12_puts_56 : decode cX12_puts 56 = .ok (.lload_n 2, 1) := by decide +kernel
theorem dX12_puts_57 : decode cX12_puts 57 = .ok (.lload 4, 2) := by decide +kernel
theorem dX12_puts_59 : decode cX12_puts 59 = .ok (.invokevirtual 161, 3) := by decide +kernel
theorem dX12_puts_62 : decode cX12_puts 62 = .ok (.iconst 1, 1) := by decide +kernel
theorem dX12_puts_63 : decode cX12_puts 63 = .ok (.ireturn, 1) := by decide +kernel
theorem dX12_living_0 : decode cX12_living 0 = .ok (.iconst 0, 1) := by decide +kernel
theorem dX12_living_1 : decode cX12_living 1 = .ok (.istore_n 2, 1) := by decide +kernel
theorem dX12_living_2 : decode cX12_living 2 = .ok (.iconst 0, 1) := by decide +kernel
theorem dX12_living_3 : decode cX12_living 3 = .ok (.istore_n 3, 1) := by decide +kernel
theorem dX12_living_4 : decode cX12_living 4 = .ok (.iload_n 3, 1) := by decide +kernel
theorem dX12_living_5 : decode cX12_living 5 = .ok (.aload_n 0, 1) := by decide +kernel
theorem dX12_living_6 : decode cX12_living 6 = .ok (.getfield 137, 3) := by decide +kernel
theorem dX12_living_9 : decode cX12_living 9 = .ok (.if_icmp .ge 43, 3) := by decide +kernel
theorem dX12_living_12 : decode cX12_living 12 = .ok (.iload_n 2, 1) := by decide +kernel
theorem dX12_living_13 : decode cX12_living 13 = .ok (.aload_n 0, 1) := by decide +kernel
theorem dX12_living_14 : decode cX12_living 14 = .ok (.getfield 25, 3) := by decide +kernel
theorem dX12_living_17 : decode cX12_living 17 = .ok (.iload_n 3, 1) := by decide +kernel
theorem dX12_living_18 : decode cX12_living 18 = .ok (.iaload, 1) := by decide +kernel
theorem dX12_living_19 : decode cX12_living 19 = .ok (.iload_n 1, 1) := by decide +kernel
theorem dX12_living_20 : decode cX12_living 20 = .ok (.if_icmp .ne 23, 3) := by decide +kernel
theorem dX12_living_23 : decode cX12_living 23 = .ok (.aload_n 0, 1) := by decide +kernel
theorem dX12_living_24 : decode cX12_living 24 = .ok (.aload_n 0, 1) := by decide +kernel
theorem dX12_living_25 : decode cX12_living 25 = .ok (.getfield 28, 3) := by decide +kernel
theorem dX12_living_28 : decode cX12_living 28 = .ok (.iload_n 3, 1) := by decide +kernel
theorem dX12_living_29 : decode cX12_living 29 = .ok (.laload, 1) := by decide +kernel
theorem dX12_living_30 : decode cX12_living 30 = .ok (.bipush 13, 2) := by decide +kernel
theorem dX12_living_32 : decode cX12_living 32 = .ok (.invokevirtual 146, 3) := by decide +kernel
theorem dX12_living_35 : decode cX12_living 35 = .ok (.iconst 4, 1) := by decide +kernel
theorem dX12_living_36 : decode cX12_living 36 = .ok (.if_icmp .eq 7, 3) := by decide +kernel
theorem dX12_living_39 : decode cX12_living 39 = .ok (.iconst 1, 1) := by decide +kernel
theorem dX12_living_40 : decode cX12_living 40 = .ok (.goto 4, 3) := by decide +kernel
theorem dX12_living_43 : decode cX12_living 43 = .ok (.iconst 0, 1) := by decide +kernel
theorem dX12_living_44 : decode cX12_living 44 = .ok (.iadd, 1) := by decide +kernel
theorem dX12_living_45 : decode cX12_living 45 = .ok (.istore_n 2, 1) := by decide +kernel
theorem dX12_living_46 : decode cX12_living 46 = .ok (.iinc 3 1, 3) := by decide +kernel
theorem dX12_living_49 : decode cX12_living 49 = .ok (.goto (-45), 3) := by decide +kernel
theorem dX12_living_52 : decode cX12_living 52 = .ok (.iload_n 2, 1) := by decide +kernel
theorem dX12_living_53 : decode cX12_living 53 = .ok (.ireturn, 1) := by decide +kernel
theorem dX12_admitted_0 : decode cX12_admitted 0 = .ok (.lload_n 2, 1) := by decide +kernel
theorem dX12_admitted_1 : decode cX12_admitted 1 = .ok (.lstore 4, 2) := by decide +kernel
theorem dX12_admitted_3 : decode cX12_admitted 3 = .ok (.iconst 1, 1) := by decide +kernel
theorem dX12_admitted_4 : decode cX12_admitted 4 = .ok (.istore 6, 2) := by decide +kernel
theorem dX12_admitted_6 : decode cX12_admitted 6 = .ok (.iconst 0, 1) := by decide +kernel
theorem dX12_admitted_7 : decode cX12_admitted 7 = .ok (.istore 7, 2) := by decide +kernel
theorem dX12_admitted_9 : decode cX12_admitted 9 = .ok (.iload 6, 2) := by decide +kernel
theorem dX12_admitted_11 : decode cX12_admitted 11 = .ok (.ifCond .eq 136, 3) := by decide +kernel
theorem dX12_admitted_14 : decode cX12_admitted 14 = .ok (.iload 7, 2) := by decide +kernel
theorem dX12_admitted_16 : decode cX12_admitted 16 = .ok (.bipush 6, 2) := by decide +kernel
theorem dX12_admitted_18 : decode cX12_admitted 18 = .ok (.if_icmp .ge 129, 3) := by decide +kernel
theorem dX12_admitted_21 : decode cX12_admitted 21 = .ok (.lload 4, 2) := by decide +kernel
theorem dX12_admitted_23 : decode cX12_admitted 23 = .ok (.lstore 8, 2) := by decide +kernel
theorem dX12_admitted_25 : decode cX12_admitted 25 = .ok (.iconst 0, 1) := by decide +kernel
theorem dX12_admitted_26 : decode cX12_admitted 26 = .ok (.istore 10, 2) := by decide +kernel
theorem dX12_admitted_28 : decode cX12_admitted 28 = .ok (.iload 10, 2) := by decide +kernel
theorem dX12_admitted_30 : decode cX12_admitted 30 = .ok (.aload_n 0, 1) := by decide +kernel
theorem dX12_admitted_31 : decode cX12_admitted 31 = .ok (.getfield 165, 3) := by decide +kernel
theorem dX12_admitted_34 : decode cX12_admitted 34 = .ok (.if_icmp .ge 92, 3) := by decide +kernel
theorem dX12_admitted_37 : decode cX12_admitted 37 = .ok (.aload_n 0, 1) := by decide +kernel
theorem dX12_admitted_38 : decode cX12_admitted 38 = .ok (.getfield 59, 3) := by decide +kernel
theorem dX12_admitted_41 : decode cX12_admitted 41 = .ok (.iload 10, 2) := by decide +kernel
theorem dX12_admitted_43 : decode cX12_admitted 43 = .ok (.iaload, 1) := by decide +kernel
theorem dX12_admitted_44 : decode cX12_admitted 44 = .ok (.iload_n 1, 1) := by decide +kernel
theorem dX12_admitted_45 : decode cX12_admitted 45 = .ok (.if_icmp .ne 40, 3) := by decide +kernel
theorem dX12_admitted_48 : decode cX12_admitted 48 = .ok (.aload_n 0, 1) := by decide +kernel
theorem dX12_admitted_49 : decode cX12_admitted 49 = .ok (.lload 4, 2) := by decide +kernel
theorem dX12_admitted_51 : decode cX12_admitted 51 = .ok (.aload_n 0, 1) := by decide +kernel
theorem dX12_admitted_52 : decode cX12_admitted 52 = .ok (.getfield 62, 3) := by decide +kernel
theorem dX12_admitted_55 : decode cX12_admitted 55 = .ok (.iload 10, 2) := by decide +kernel
theorem dX12_admitted_57 : decode cX12_admitted 57 = .ok (.iaload, 1) := by decide +kernel
theorem dX12_admitted_58 : decode cX12_admitted 58 = .ok (.invokevirtual 146, 3) := by decide +kernel
theorem dX12_admitted_61 : decode cX12_admitted 61 = .ok (.aload_n 0, 1) := by decide +kernel
theorem dX12_admitted_62 : decode cX12_admitted 62 = .ok (.getfield 65, 3) := by decide +kernel
theorem dX12_admitted_65 : decode cX12_admitted 65 = .ok (.iload 10, 2) := by decide +kernel
theorem dX12_admitted_67 : decode cX12_admitted 67 = .ok (.iaload, 1) := by decide +kernel
theorem dX12_admitted_68 : decode cX12_admitted 68 = .ok (.aload_n 0, 1) := by decide +kernel
theorem dX12_admitted_69 : decode cX12_admitted 69 = .ok (.getfield 68, 3) := by decide +kernel
theorem dX12_admitted_72 : decode cX12_admitted 72 = .ok (.iload 10, 2) := by decide +kernel
theorem dX12_admitted_74 : decode cX12_admitted 74 = .ok (.iaload, 1) := by decide +kernel
theorem dX12_admitted_75 : decode cX12_admitted 75 = .ok (.invokestatic 140, 3) := by decide +kernel
theorem dX12_admitted_78 : decode cX12_admitted 78 = .ok (.ifCond .eq 7, 3) := by decide +kernel
theorem dX12_admitted_81 : decode cX12_admitted 81 = .ok (.iconst 1, 1) := by decide +kernel
theorem dX12_admitted_82 : decode cX12_admitted 82 = .ok (.goto 4, 3) := by decide +kernel
theorem dX12_admitted_85 : decode cX12_admitted 85 = .ok (.iconst 0, 1) := by decide +kernel
theorem dX12_admitted_86 : decode cX12_admitted 86 = .ok (.istore 11, 2) := by decide +kernel
theorem dX12_admitted_88 : decode cX12_admitted 88 = .ok (.iload 11, 2) := by decide +kernel
theorem dX12_admitted_90 : decode cX12_admitted 90 = .ok (.ifCond .eq 26, 3) := by decide +kernel
theorem dX12_admitted_93 : decode cX12_admitted 93 = .ok (.aload_n 0, 1) := by decide +kernel
theorem dX12_admitted_94 : decode cX12_admitted 94 = .ok (.lload 4, 2) := by decide +kernel
theorem dX12_admitted_96 : decode cX12_admitted 96 = .ok (.aload_n 0, 1) := by decide +kernel
theorem dX12_admitted_97 : decode cX12_admitted 97 = .ok (.getfield 71, 3) := by decide +kernel
theorem dX12_admitted_100 : decode cX12_admitted 100 = .ok (.iload 10, 2) := by decide +kernel
theorem dX12_admitted_102 : decode cX12_admitted 102 = .ok (.iaload, 1) := by decide +kernel
theorem dX12_admitted_103 : decode cX12_admitted 103 = .ok (.aload_n 0, 1) := by decide +kernel
theorem dX12_admitted_104 : decode cX12_admitted 104 = .ok (.getfield 74, 3) := by decide +kernel
theorem dX12_admitted_107 : decode cX12_admitted 107 = .ok (.iload 10, 2) := by decide +kernel
theorem dX12_admitted_109 : decode cX12_admitted 109 = .ok (.iaload, 1) := by decide +kernel
theorem dX12_admitted_110 : decode cX12_admitted 110 = .ok (.invokevirtual 150, 3) := by decide +kernel
theorem dX12_admitted_113 : decode cX12_admitted 113 = .ok (.goto 5, 3) := by decide +kernel
theorem dX12_admitted_116 : decode cX12_admitted 116 = .ok (.lload 4, 2) := by decide +kernel
theorem dX12_admitted_118 : decode cX12_admitted 118 = .ok (.lstore 4, 2) := by decide +kernel
theorem dX12_admitted_120 : decode cX12_admitted 120 = .ok (.iinc 10 1, 3) := by decide +kernel
theorem dX12_admitted_123 : decode cX12_admitted 123 = .ok (.goto (-95), 3) := by decide +kernel
theorem dX12_admitted_126 : decode cX12_admitted 126 = .ok (.lload 4, 2) := by decide +kernel
theorem dX12_admitted_128 : decode cX12_admitted 128 = .ok (.lload 8, 2) := by decide +kernel
theorem dX12_admitted_130 : decode cX12_admitted 130 = .ok (.lcmp, 1) := by decide +kernel
theorem dX12_admitted_131 : decode cX12_admitted 131 = .ok (.ifCond .eq 7, 3) := by decide +kernel
theorem dX12_admitted_134 : decode cX12_admitted 134 = .ok (.iconst 1, 1) := by decide +kernel
theorem dX12_admitted_135 : decode cX12_admitted 135 = .ok (.goto 4, 3) := by decide +kernel
theorem dX12_admitted_138 : decode cX12_admitted 138 = .ok (.iconst 0, 1) := by decide +kernel
theorem dX12_admitted_139 : decode cX12_admitted 139 = .ok (.istore 6, 2) := by decide +kernel
theorem dX12_admitted_141 : decode cX12_admitted 141 = .ok (.iinc 7 1, 3) := by decide +kernel
theorem dX12_admitted_144 : decode cX12_admitted 144 = .ok (.goto (-135), 3) := by decide +kernel
theorem dX12_admitted_147 : decode cX12_admitted 147 = .ok (.aload_n 0, 1) := by decide +kernel
theorem dX12_admitted_148 : decode cX12_admitted 148 = .ok (.iload 6, 2) := by decide +kernel
theorem dX12_admitted_150 : decode cX12_admitted 150 = .ok (.ifCond .ne 25, 3) := by decide +kernel
theorem dX12_admitted_153 : decode cX12_admitted 153 = .ok (.iload_n 1, 1) := by decide +kernel
theorem dX12_admitted_154 : decode cX12_admitted 154 = .ok (.ifCond .ne 25, 3) := by decide +kernel
theorem dX12_admitted_157 : decode cX12_admitted 157 = .ok (.aload_n 0, 1) := by decide +kernel
theorem dX12_admitted_158 : decode cX12_admitted 158 = .ok (.lload 4, 2) := by decide +kernel
theorem dX12_admitted_160 : decode cX12_admitted 160 = .ok (.iconst 2, 1) := by decide +kernel
theorem dX12_admitted_161 : decode cX12_admitted 161 = .ok (.invokevirtual 146, 3) := by decide +kernel
theorem dX12_admitted_164 : decode cX12_admitted 164 = .ok (.aload_n 0, 1) := by decide +kernel
theorem dX12_admitted_165 : decode cX12_admitted 165 = .ok (.lload 4, 2) := by decide +kernel
theorem dX12_admitted_167 : decode cX12_admitted 167 = .ok (.iconst 3, 1) := by decide +kernel
theorem dX12_admitted_168 : decode cX12_admitted 168 = .ok (.invokevirtual 146, 3) := by decide +kernel
theorem dX12_admitted_171 : decode cX12_admitted 171 = .ok (.iadd, 1) := by decide +kernel
theorem dX12_admitted_172 : decode cX12_admitted 172 = .ok (.ifCond .ne 7, 3) := by decide +kernel
theorem dX12_admitted_175 : decode cX12_admitted 175 = .ok (.iconst 1, 1) := by decide +kernel
theorem dX12_admitted_176 : decode cX12_admitted 176 = .ok (.goto 4, 3) := by decide +kernel
theorem dX12_admitted_179 : decode cX12_admitted 179 = .ok (.iconst 0, 1) := by decide +kernel
theorem dX12_admitted_180 : decode cX12_admitted 180 = .ok (.putfield 168, 3) := by decide +kernel
theorem dX12_admitted_183 : decode cX12_admitted 183 = .ok (.iconst 0, 1) := by decide +kernel
theorem dX12_admitted_184 : decode cX12_admitted 184 = .ok (.istore 8, 2) := by decide +kernel
theorem dX12_admitted_186 : decode cX12_admitted 186 = .ok (.iload 8, 2) := by decide +kernel
theorem dX12_admitted_188 : decode cX12_admitted 188 = .ok (.aload_n 0, 1) := by decide +kernel
theorem dX12_admitted_189 : decode cX12_admitted 189 = .ok (.getfield 172, 3) := by decide +kernel
theorem dX12_admitted_192 : decode cX12_admitted 192 = .ok (.if_icmp .ge 59, 3) := by decide +kernel
theorem dX12_admitted_195 : decode cX12_admitted 195 = .ok (.aload_n 0, 1) := by decide +kernel
theorem dX12_admitted_196 : decode cX12_admitted 196 = .ok (.aload_n 0, 1) := by decide +kernel
theorem dX12_admitted_197 : decode cX12_admitted 197 = .ok (.getfield 168, 3) := by decide +kernel
theorem dX12_admitted_200 : decode cX12_admitted 200 = .ok (.ifCond .ne 37, 3) := by decide +kernel
theorem dX12_admitted_203 : decode cX12_admitted 203 = .ok (.aload_n 0, 1) := by decide +kernel
theorem dX12_admitted_204 : decode cX12_admitted 204 = .ok (.getfield 77, 3) := by decide +kernel
theorem dX12_admitted_207 : decode cX12_admitted 207 = .ok (.iload 8, 2) := by decide +kernel
theorem dX12_admitted_209 : decode cX12_admitted 209 = .ok (.iaload, 1) := by decide +kernel
theorem dX12_admitted_210 : decode cX12_admitted 210 = .ok (.iload_n 1, 1) := by decide +kernel
theorem dX12_admitted_211 : decode cX12_admitted 211 = .ok (.if_icmp .ne 30, 3) := by decide +kernel
theorem dX12_admitted_214 : decode cX12_admitted 214 = .ok (.aload_n 0, 1) := by decide +kernel
theorem dX12_admitted_215 : decode cX12_admitted 215 = .ok (.lload 4, 2) := by decide +kernel
theorem dX12_admitted_217 : decode cX12_admitted 217 = .ok (.aload_n 0, 1) := by decide +kernel
theorem dX12_admitted_218 : decode cX12_admitted 218 = .ok (.getfield 80, 3) := by decide +kernel
theorem dX12_admitted_221 : decode cX12_admitted 221 = .ok (.iload 8, 2) := by decide +kernel
theorem dX12_admitted_223 : decode cX12_admitted 223 = .ok (.iaload, 1) := by decide +kernel
theorem dX12_admitted_224 : decode cX12_admitted 224 = .ok (.invokevirtual 146, 3) := by decide +kernel
theorem dX12_admitted_227 : decode cX12_admitted 227 = .ok (.aload_n 0, 1) := by decide +kernel
theorem dX12_admitted_228 : decode cX12_admitted 228 = .ok (.getfield 83, 3) := by decide +kernel
theorem dX12_admitted_231 : decode cX12_admitted 231 = .ok (.iload 8, 2) := by decide +kernel
theorem dX12_admitted_233 : decode cX12_admitted 233 = .ok (.iaload, 1) := by decide +kernel
theorem dX12_admitted_234 : decode cX12_admitted 234 = .ok (.if_icmp .le 7, 3) := by decide +kernel
theorem dX12_admitted_237 : decode cX12_admitted 237 = .ok (.iconst 1, 1) := by decide +kernel
theorem dX12_admitted_238 : decode cX12_admitted 238 = .ok (.goto 4, 3) := by decide +kernel
theorem dX12_admitted_241 : decode cX12_admitted 241 = .ok (.iconst 0, 1) := by decide +kernel
theorem dX12_admitted_242 : decode cX12_admitted 242 = .ok (.putfield 168, 3) := by decide +kernel
theorem dX12_admitted_245 : decode cX12_admitted 245 = .ok (.iinc 8 1, 3) := by decide +kernel
theorem dX12_admitted_248 : decode cX12_admitted 248 = .ok (.goto (-62), 3) := by decide +kernel
theorem dX12_admitted_251 : decode cX12_admitted 251 = .ok (.lload 4, 2) := by decide +kernel
theorem dX12_admitted_253 : decode cX12_admitted 253 = .ok (.lreturn, 1) := by decide +kernel
theorem dX12_makes_0 : decode cX12_makes 0 = .ok (.aload_n 0, 1) := by decide +kernel
theorem dX12_makes_1 : decode cX12_makes 1 = .ok (.aload_n 0, 1) := by decide +kernel
theorem dX12_makes_2 : decode cX12_makes 2 = .ok (.aload_n 0, 1) := by decide +kernel
theorem dX12_makes_3 : decode cX12_makes 3 = .ok (.lconst 0, 1) := by decide +kernel
theorem dX12_makes_4 : decode cX12_makes 4 = .ok (.iconst 2, 1) := by decide +kernel
theorem dX12_makes_5 : decode cX12_makes 5 = .ok (.iconst 1, 1) := by decide +kernel
theorem dX12_makes_6 : decode cX12_makes 6 = .ok (.invokevirtual 150, 3) := by decide +kernel
theorem dX12_makes_9 : decode cX12_makes 9 = .ok (.bipush 7, 2) := by decide +kernel
theorem dX12_makes_11 : decode cX12_makes 11 = .ok (.iconst 4, 1) := by decide +kernel
theorem dX12_makes_12 : decode cX12_makes 12 = .ok (.invokevirtual 150, 3) := by decide +kernel
theorem dX12_makes_15 : decode cX12_makes 15 = .ok (.bipush 10, 2) := by decide +kernel
theorem dX12_makes_17 : decode cX12_makes 17 = .ok (.iconst 1, 1) := by decide +kernel
theorem dX12_makes_18 : decode cX12_makes 18 = .ok (.invokevirtual 150, 3) := by decide +kernel
theorem dX12_makes_21 : decode cX12_makes 21 = .ok (.lstore 5, 2) := by decide +kernel
theorem dX12_makes_23 : decode cX12_makes 23 = .ok (.aload_n 0, 1) := by decide +kernel
theorem dX12_makes_24 : decode cX12_makes 24 = .ok (.iload_n 2, 1) := by decide +kernel
theorem dX12_makes_25 : decode cX12_makes 25 = .ok (.aload_n 0, 1) := by decide +kernel
theorem dX12_makes_26 : decode cX12_makes 26 = .ok (.aload_n 0, 1) := by decide +kernel
theorem dX12_makes_27 : decode cX12_makes 27 = .ok (.aload_n 0, 1) := by decide +kernel
theorem dX12_makes_28 : decode cX12_makes 28 = .ok (.lload 5, 2) := by decide +kernel
theorem dX12_makes_30 : decode cX12_makes 30 = .ok (.bipush 14, 2) := by decide +kernel
theorem dX12_makes_32 : decode cX12_makes 32 = .ok (.iconst 1, 1) := by decide +kernel
theorem dX12_makes_33 : decode cX12_makes 33 = .ok (.invokevirtual 150, 3) := by decide +kernel
theorem dX12_makes_36 : decode cX12_makes 36 = .ok (.bipush 11, 2) := by decide +kernel
theorem dX12_makes_38 : decode cX12_makes 38 = .ok (.iload_n 3, 1) := by decide +kernel
theorem dX12_makes_39 : decode cX12_makes 39 = .ok (.iconst 1, 1) := by decide +kernel
theorem dX12_makes_40 : decode cX12_makes 40 = .ok (.iadd, 1) := by decide +kernel
theorem dX12_makes_41 : decode cX12_makes 41 = .ok (.invokevirtual 150, 3) := by decide +kernel
theorem dX12_makes_44 : decode cX12_makes 44 = .ok (.iconst 1, 1) := by decide +kernel
theorem dX12_makes_45 : decode cX12_makes 45 = .ok (.iload 4, 2) := by decide +kernel
theorem dX12_makes_47 : decode cX12_makes 47 = .ok (.invokevirtual 150, 3) := by decide +kernel
theorem dX12_makes_50 : decode cX12_makes 50 = .ok (.invokevirtual 175, 3) := by decide +kernel
theorem dX12_makes_53 : decode cX12_makes 53 = .ok (.lstore 5, 2) := by decide +kernel
theorem dX12_makes_55 : decode cX12_makes 55 = .ok (.aload_n 0, 1) := by decide +kernel
theorem dX12_makes_56 : decode cX12_makes 56 = .ok (.getfield 168, 3) := by decide +kernel
theorem dX12_makes_59 : decode cX12_makes 59 = .ok (.ifCond .ne 36, 3) := by decide +kernel
theorem dX12_makes_62 : decode cX12_makes 62 = .ok (.aload_n 0, 1) := by decide +kernel
theorem dX12_makes_63 : decode cX12_makes 63 = .ok (.getfield 137, 3) := by decide +kernel
theorem dX12_makes_66 : decode cX12_makes 66 = .ok (.bipush 60, 2) := by decide +kernel
theorem dX12_makes_68 : decode cX12_makes 68 = .ok (.if_icmp .eq 27, 3) := by decide +kernel
theorem dX12_makes_71 : decode cX12_makes 71 = .ok (.aload_n 0, 1) := by decide +kernel
theorem dX12_makes_72 : decode cX12_makes 72 = .ok (.invokevirtual 157, 3) := by decide +kernel
theorem dX12_makes_75 : decode cX12_makes 75 = .ok (.ifCond .ne 20, 3) := by decide +kernel
theorem dX12_makes_78 : decode cX12_makes 78 = .ok (.iload_n 2, 1) := by decide +kernel
theorem dX12_makes_79 : decode cX12_makes 79 = .ok (.iconst 2, 1) := by decide +kernel
theorem dX12_makes_80 : decode cX12_makes 80 = .ok (.if_icmp .ne 19, 3) := by decide +kernel
theorem dX12_makes_83 : decode cX12_makes 83 = .ok (.aload_n 0, 1) := by decide +kernel
theorem dX12_makes_84 : decode cX12_makes 84 = .ok (.iconst 2, 1) := by decide +kernel
theorem dX12_makes_85 : decode cX12_makes 85 = .ok (.invokevirtual 179, 3) := by decide +kernel
theorem dX12_makes_88 : decode cX12_makes 88 = .ok (.aload_n 0, 1) := by decide +kernel
theorem dX12_makes_89 : decode cX12_makes 89 = .ok (.getfield 86, 3) := by decide +kernel
theorem dX12_makes_92 : decode cX12_makes 92 = .ok (.if_icmp .lt 7, 3) := by decide +kernel
theorem dX12_makes_95 : decode cX12_makes 95 = .ok (.iconst 1, 1) := by decide +kernel
theorem dX12_makes_96 : decode cX12_makes 96 = .ok (.goto 4, 3) := by decide +kernel
theorem dX12_makes_99 : decode cX12_makes 99 = .ok (.iconst 0, 1) := by decide +kernel
theorem dX12_makes_100 : decode cX12_makes 100 = .ok (.istore 7, 2) := by decide +kernel
theorem dX12_makes_102 : decode cX12_makes 102 = .ok (.iload 7, 2) := by decide +kernel
theorem dX12_makes_104 : decode cX12_makes 104 = .ok (.ifCond .eq 5, 3) := by decide +kernel
theorem dX12_makes_107 : decode cX12_makes 107 = .ok (.iconst (-1), 1) := by decide +kernel
theorem dX12_makes_108 : decode cX12_makes 108 = .ok (.ireturn, 1) := by decide +kernel
theorem dX12_makes_109 : decode cX12_makes 109 = .ok (.aload_n 0, 1) := by decide +kernel
theorem dX12_makes_110 : decode cX12_makes 110 = .ok (.getfield 25, 3) := by decide +kernel
theorem dX12_makes_113 : decode cX12_makes 113 = .ok (.aload_n 0, 1) := by decide +kernel
theorem dX12_makes_114 : decode cX12_makes 114 = .ok (.getfield 137, 3) := by decide +kernel
theorem dX12_makes_117 : decode cX12_makes 117 = .ok (.iload_n 2, 1) := by decide +kernel
theorem dX12_makes_118 : decode cX12_makes 118 = .ok (.iastore, 1) := by decide +kernel
theorem dX12_makes_119 : decode cX12_makes 119 = .ok (.aload_n 0, 1) := by decide +kernel
theorem dX12_makes_120 : decode cX12_makes 120 = .ok (.getfield 41, 3) := by decide +kernel
theorem dX12_makes_123 : decode cX12_makes 123 = .ok (.aload_n 0, 1) := by decide +kernel
theorem dX12_makes_124 : decode cX12_makes 124 = .ok (.getfield 137, 3) := by decide +kernel
theorem dX12_makes_127 : decode cX12_makes 127 = .ok (.aload_n 0, 1) := by decide +kernel
theorem dX12_makes_128 : decode cX12_makes 128 = .ok (.getfield 182, 3) := by decide +kernel
theorem dX12_makes_131 : decode cX12_makes 131 = .ok (.iastore, 1) := by decide +kernel
theorem dX12_makes_132 : decode cX12_makes 132 = .ok (.iconst 0, 1) := by decide +kernel
theorem dX12_makes_133 : decode cX12_makes 133 = .ok (.istore 8, 2) := by decide +kernel
theorem dX12_makes_135 : decode cX12_makes 135 = .ok (.iload 8, 2) := by decide +kernel
theorem dX12_makes_137 : decode cX12_makes 137 = .ok (.bipush 11, 2) := by decide +kernel
theorem dX12_makes_139 : decode cX12_makes 139 = .ok (.if_icmp .ge 25, 3) := by decide +kernel
theorem dX12_makes_142 : decode cX12_makes 142 = .ok (.aload_n 0, 1) := by decide +kernel
theorem dX12_makes_143 : decode cX12_makes 143 = .ok (.getfield 38, 3) := by decide +kernel
theorem dX12_makes_146 : decode cX12_makes 146 = .ok (.bipush 11, 2) := by decide +kernel
theorem dX12_makes_148 : decode cX12_makes 148 = .ok (.aload_n 0, 1) := by decide +kernel
theorem dX12_makes_149 : decode cX12_makes 149 = .ok (.getfield 137, 3) := by decide +kernel
theorem dX12_makes_152 : decode cX12_makes 152 = .ok (.imul, 1) := by decide +kernel
theorem dX12_makes_153 : decode cX12_makes 153 = .ok (.iload 8, 2) := by decide +kernel
theorem dX12_makes_155 : decode cX12_makes 155 = .ok (.iadd, 1) := by decide +kernel
theorem dX12_makes_156 : decode cX12_makes 156 = .ok (.iload_n 1, 1) := by decide +kernel
theorem dX12_makes_157 : decode cX12_makes 157 = .ok (.iastore, 1) := by decide +kernel
theorem dX12_makes_158 : decode cX12_makes 158 = .ok (.iinc 8 1, 3) := by decide +kernel
theorem dX12_makes_161 : decode cX12_makes 161 = .ok (.goto (-26), 3) := by decide +kernel
theorem dX12_makes_164 : decode cX12_makes 164 = .ok (.aload_n 0, 1) := by decide +kernel
theorem dX12_makes_165 : decode cX12_makes 165 = .ok (.dup, 1) := by decide +kernel
theorem dX12_makes_166 : decode cX12_makes 166 = .ok (.getfield 137, 3) := by decide +kernel
theorem dX12_makes_169 : decode cX12_makes 169 = .ok (.iconst 1, 1) := by decide +kernel
theorem dX12_makes_170 : decode cX12_makes 170 = .ok (.iadd, 1) := by decide +kernel
theorem dX12_makes_171 : decode cX12_makes 171 = .ok (.putfield 137, 3) := by decide +kernel
theorem dX12_makes_174 : decode cX12_makes 174 = .ok (.aload_n 0, 1) := by decide +kernel
theorem dX12_makes_175 : decode cX12_makes 175 = .ok (.aload_n 0, 1) := by decide +kernel
theorem dX12_makes_176 : decode cX12_makes 176 = .ok (.getfield 137, 3) := by decide +kernel
theorem dX12_makes_179 : decode cX12_makes 179 = .ok (.iconst 1, 1) := by decide +kernel
theorem dX12_makes_180 : decode cX12_makes 180 = .ok (.isub, 1) := by decide +kernel
theorem dX12_makes_181 : decode cX12_makes 181 = .ok (.lload 5, 2) := by decide +kernel
theorem dX12_makes_183 : decode cX12_makes 183 = .ok (.lconst 0, 1) := by decide +kernel
theorem dX12_makes_184 : decode cX12_makes 184 = .ok (.invokevirtual 161, 3) := by decide +kernel
theorem dX12_makes_187 : decode cX12_makes 187 = .ok (.aload_n 0, 1) := by decide +kernel
theorem dX12_makes_188 : decode cX12_makes 188 = .ok (.getfield 137, 3) := by decide +kernel
theorem dX12_makes_191 : decode cX12_makes 191 = .ok (.iconst 1, 1) := by decide +kernel
theorem dX12_makes_192 : decode cX12_makes 192 = .ok (.isub, 1) := by decide +kernel
theorem dX12_makes_193 : decode cX12_makes 193 = .ok (.ireturn, 1) := by decide +kernel
theorem dX12_applies_0 : decode cX12_applies 0 = .ok (.aload_n 0, 1) := by decide +kernel
theorem dX12_applies_1 : decode cX12_applies 1 = .ok (.aload_n 0, 1) := by decide +kernel
theorem dX12_applies_2 : decode cX12_applies 2 = .ok (.getfield 25, 3) := by decide +kernel
theorem dX12_applies_5 : decode cX12_applies 5 = .ok (.iload_n 2, 1) := by decide +kernel
theorem dX12_applies_6 : decode cX12_applies 6 = .ok (.iaload, 1) := by decide +kernel
theorem dX12_applies_7 : decode cX12_applies 7 = .ok (.aload_n 0, 1) := by decide +kernel
theorem dX12_applies_8 : decode cX12_applies 8 = .ok (.aload_n 0, 1) := by decide +kernel
theorem dX12_applies_9 : decode cX12_applies 9 = .ok (.getfield 28, 3) := by decide +kernel
theorem dX12_applies_12 : decode cX12_applies 12 = .ok (.iload_n 2, 1) := by decide +kernel
theorem dX12_applies_13 : decode cX12_applies 13 = .ok (.laload, 1) := by decide +kernel
theorem dX12_applies_14 : decode cX12_applies 14 = .ok (.iload_n 3, 1) := by decide +kernel
theorem dX12_applies_15 : decode cX12_applies 15 = .ok (.iload 4, 2) := by decide +kernel
theorem dX12_applies_17 : decode cX12_applies 17 = .ok (.invokevirtual 150, 3) := by decide +kernel
theorem dX12_applies_20 : decode cX12_applies 20 = .ok (.invokevirtual 175, 3) := by decide +kernel
theorem dX12_applies_23 : decode cX12_applies 23 = .ok (.lstore 5, 2) := by decide +kernel
theorem dX12_applies_25 : decode cX12_applies 25 = .ok (.aload_n 0, 1) := by decide +kernel
theorem dX12_applies_26 : decode cX12_applies 26 = .ok (.getfield 38, 3) := by decide +kernel
theorem dX12_applies_29 : decode cX12_applies 29 = .ok (.bipush 11, 2) := by decide +kernel
theorem dX12_applies_31 : decode cX12_applies 31 = .ok (.iload_n 2, 1) := by decide +kernel
theorem dX12_applies_32 : decode cX12_applies 32 = .ok (.imul, 1) := by decide +kernel
theorem dX12_applies_33 : decode cX12_applies 33 = .ok (.iload_n 3, 1) := by decide +kernel
theorem dX12_applies_34 : decode cX12_applies 34 = .ok (.iadd, 1) := by decide +kernel
theorem dX12_applies_35 : decode cX12_applies 35 = .ok (.iaload, 1) := by decide +kernel
theorem dX12_applies_36 : decode cX12_applies 36 = .ok (.iload_n 1, 1) := by decide +kernel
theorem dX12_applies_37 : decode cX12_applies 37 = .ok (.if_icmp .eq 7, 3) := by decide +kernel
theorem dX12_applies_40 : decode cX12_applies 40 = .ok (.iconst 1, 1) := by decide +kernel
theorem dX12_applies_41 : decode cX12_applies 41 = .ok (.goto 4, 3) := by decide +kernel
theorem dX12_applies_44 : decode cX12_applies 44 = .ok (.iconst 0, 1) := by decide +kernel
theorem dX12_applies_45 : decode cX12_applies 45 = .ok (.istore 7, 2) := by decide +kernel
theorem dX12_applies_47 : decode cX12_applies 47 = .ok (.aload_n 0, 1) := by decide +kernel
theorem dX12_applies_48 : decode cX12_applies 48 = .ok (.getfield 168, 3) := by decide +kernel
theorem dX12_applies_51 : decode cX12_applies 51 = .ok (.ifCond .ne 21, 3) := by decide +kernel
theorem dX12_applies_54 : decode cX12_applies 54 = .ok (.aload_n 0, 1) := by decide +kernel
theorem dX12_applies_55 : decode cX12_applies 55 = .ok (.iload_n 2, 1) := by decide +kernel
theorem dX12_applies_56 : decode cX12_applies 56 = .ok (.lload 5, 2) := by decide +kernel
theorem dX12_applies_58 : decode cX12_applies 58 = .ok (.aload_n 0, 1) := by decide +kernel
theorem dX12_applies_59 : decode cX12_applies 59 = .ok (.getfield 32, 3) := by decide +kernel
theorem dX12_applies_62 : decode cX12_applies 62 = .ok (.iload_n 2, 1) := by decide +kernel
theorem dX12_applies_63 : decode cX12_applies 63 = .ok (.laload, 1) := by decide +kernel
theorem dX12_applies_64 : decode cX12_applies 64 = .ok (.iload 7, 2) := by decide +kernel
theorem dX12_applies_66 : decode cX12_applies 66 = .ok (.invokevirtual 185, 3) := by decide +kernel
theorem dX12_applies_69 : decode cX12_applies 69 = .ok (.ifCond .ne 5, 3) := by decide +kernel
theorem dX12_applies_72 : decode cX12_applies 72 = .ok (.iconst 0, 1) := by decide +kernel
theorem dX12_applies_73 : decode cX12_applies 73 = .ok (.ireturn, 1) := by decide +kernel
theorem dX12_applies_74 : decode cX12_applies 74 = .ok (.aload_n 0, 1) := by decide +kernel
theorem dX12_applies_75 : decode cX12_applies 75 = .ok (.getfield 38, 3) := by decide +kernel
theorem dX12_applies_78 : decode cX12_applies 78 = .ok (.bipush 11, 2) := by decide +kernel
theorem dX12_applies_80 : decode cX12_applies 80 = .ok (.iload_n 2, 1) := by decide +kernel
theorem dX12_applies_81 : decode cX12_applies 81 = .ok (.imul, 1) := by decide +kernel
theorem dX12_applies_82 : decode cX12_applies 82 = .ok (.iload_n 3, 1) := by decide +kernel
theorem dX12_applies_83 : decode cX12_applies 83 = .ok (.iadd, 1) := by decide +kernel
theorem dX12_applies_84 : decode cX12_applies 84 = .ok (.iload_n 1, 1) := by decide +kernel
theorem dX12_applies_85 : decode cX12_applies 85 = .ok (.iastore, 1) := by decide +kernel
theorem dX12_applies_86 : decode cX12_applies 86 = .ok (.iconst 1, 1) := by decide +kernel
theorem dX12_applies_87 : decode cX12_applies 87 = .ok (.ireturn, 1) := by decide +kernel
theorem dX12_deleted_0 : decode cX12_deleted 0 = .ok (.iload 4, 2) := by decide +kernel
theorem dX12_deleted_2 : decode cX12_deleted 2 = .ok (.iconst 2, 1) := by decide +kernel
theorem dX12_deleted_3 : decode cX12_deleted 3 = .ok (.if_icmp .ne 37, 3) := by decide +kernel
theorem dX12_deleted_6 : decode cX12_deleted 6 = .ok (.aload_n 0, 1) := by decide +kernel
theorem dX12_deleted_7 : decode cX12_deleted 7 = .ok (.lload_n 2, 1) := by decide +kernel
theorem dX12_deleted_8 : decode cX12_deleted 8 = .ok (.bipush 12, 2) := by decide +kernel
theorem dX12_deleted_10 : decode cX12_deleted 10 = .ok (.invokevirtual 146, 3) := by decide +kernel
theorem dX12_deleted_13 : decode cX12_deleted 13 = .ok (.ifCond .ne 27, 3) := by decide +kernel
theorem dX12_deleted_16 : decode cX12_deleted 16 = .ok (.aload_n 0, 1) := by decide +kernel
theorem dX12_deleted_17 : decode cX12_deleted 17 = .ok (.getfield 25, 3) := by decide +kernel
theorem dX12_deleted_20 : decode cX12_deleted 20 = .ok (.iload_n 1, 1) := by decide +kernel
theorem dX12_deleted_21 : decode cX12_deleted 21 = .ok (.iaload, 1) := by decide +kernel
theorem dX12_deleted_22 : decode cX12_deleted 22 = .ok (.iconst 2, 1) := by decide +kernel
theorem dX12_deleted_23 : decode cX12_deleted 23 = .ok (.if_icmp .ne 13, 3) := by decide +kernel
theorem dX12_deleted_26 : decode cX12_deleted 26 = .ok (.aload_n 0, 1) := by decide +kernel
theorem dX12_deleted_27 : decode cX12_deleted 27 = .ok (.lload_n 2, 1) := by decide +kernel
theorem dX12_deleted_28 : decode cX12_deleted 28 = .ok (.bipush 15, 2) := by decide +kernel
theorem dX12_deleted_30 : decode cX12_deleted 30 = .ok (.invokevirtual 146, 3) := by decide +kernel
theorem dX12_deleted_33 : decode cX12_deleted 33 = .ok (.ifCond .ne 7, 3) := by decide +kernel
theorem dX12_deleted_36 : decode cX12_deleted 36 = .ok (.iconst 1, 1) := by decide +kernel
theorem dX12_deleted_37 : decode cX12_deleted 37 = .ok (.goto 4, 3) := by decide +kernel
theorem dX12_deleted_40 : decode cX12_deleted 40 = .ok (.iconst 0, 1) := by decide +kernel
theorem dX12_deleted_41 : decode cX12_deleted 41 = .ok (.istore 5, 2) := by decide +kernel
theorem dX12_deleted_43 : decode cX12_deleted 43 = .ok (.iload 5, 2) := by decide +kernel
theorem dX12_deleted_45 : decode cX12_deleted 45 = .ok (.ifCond .eq 11, 3) := by decide +kernel
theorem dX12_deleted_48 : decode cX12_deleted 48 = .ok (.aload_n 0, 1) := by decide +kernel
theorem dX12_deleted_49 : decode cX12_deleted 49 = .ok (.lload_n 2, 1) := by decide +kernel
theorem dX12_deleted_50 : decode cX12_deleted 50 = .ok (.invokevirtual 189, 3) := by decide +kernel
theorem dX12_deleted_53 : decode cX12_deleted 53 = .ok (.goto 12, 3) := by decide +kernel
theorem dX12_deleted_56 : decode cX12_deleted 56 = .ok (.aload_n 0, 1) := by decide +kernel
theorem dX12_deleted_57 : decode cX12_deleted 57 = .ok (.lload_n 2, 1) := by decide +kernel
theorem dX12_deleted_58 : decode cX12_deleted 58 = .ok (.bipush 13, 2) := by decide +kernel
theorem dX12_deleted_60 : decode cX12_deleted 60 = .ok (.iload 4, 2) := by decide +kernel
theorem dX12_deleted_62 : decode cX12_deleted 62 = .ok (.invokevirtual 150, 3) := by decide +kernel
theorem dX12_deleted_65 : decode cX12_deleted 65 = .ok (.lreturn, 1) := by decide +kernel
theorem dX12_view_0 : decode cX12_view 0 = .ok (.aload_n 0, 1) := by decide +kernel
theorem dX12_view_1 : decode cX12_view 1 = .ok (.getfield 97, 3) := by decide +kernel
theorem dX12_view_4 : decode cX12_view 4 = .ok (.bipush 60, 2) := by decide +kernel
theorem dX12_view_6 : decode cX12_view 6 = .ok (.aload_n 0, 1) := by decide +kernel
theorem dX12_view_7 : decode cX12_view 7 = .ok (.getfield 193, 3) := by decide +kernel
theorem dX12_view_10 : decode cX12_view 10 = .ok (.imul, 1) := by decide +kernel
theorem dX12_view_11 : decode cX12_view 11 = .ok (.iload_n 1, 1) := by decide +kernel
theorem dX12_view_12 : decode cX12_view 12 = .ok (.iadd, 1) := by decide +kernel
theorem dX12_view_13 : decode cX12_view 13 = .ok (.laload, 1) := by decide +kernel
theorem dX12_view_14 : decode cX12_view 14 = .ok (.lreturn, 1) := by decide +kernel
theorem dX12_isSeen_0 : decode cX12_isSeen 0 = .ok (.iload_n 1, 1) := by decide +kernel
theorem dX12_isSeen_1 : decode cX12_isSeen 1 = .ok (.iconst (-1), 1) := by decide +kernel
theorem dX12_isSeen_2 : decode cX12_isSeen 2 = .ok (.if_icmp .eq 24, 3) := by decide +kernel
theorem dX12_isSeen_5 : decode cX12_isSeen 5 = .ok (.aload_n 0, 1) := by decide +kernel
theorem dX12_isSeen_6 : decode cX12_isSeen 6 = .ok (.getfield 93, 3) := by decide +kernel
theorem dX12_isSeen_9 : decode cX12_isSeen 9 = .ok (.bipush 60, 2) := by decide +kernel
theorem dX12_isSeen_11 : decode cX12_isSeen 11 = .ok (.aload_n 0, 1) := by decide +kernel
theorem dX12_isSeen_12 : decode cX12_isSeen 12 = .ok (.getfield 193, 3) := by decide +kernel
theorem dX12_isSeen_15 : decode cX12_isSeen 15 = .ok (.imul, 1) := by decide +kernel
theorem dX12_isSeen_16 : decode cX12_isSeen 16 = .ok (.iload_n 1, 1) := by decide +kernel
theorem dX12_isSeen_17 : decode cX12_isSeen 17 = .ok (.iadd, 1) := by decide +kernel
theorem dX12_isSeen_18 : decode cX12_isSeen 18 = .ok (.baload, 1) := by decide +kernel
theorem dX12_isSeen_19 : decode cX12_isSeen 19 = .ok (.ifCond .eq 7, 3) := by decide +kernel
theorem dX12_isSeen_22 : decode cX12_isSeen 22 = .ok (.iconst 1, 1) := by decide +kernel
theorem dX12_isSeen_23 : decode cX12_isSeen 23 = .ok (.goto 4, 3) := by decide +kernel
theorem dX12_isSeen_26 : decode cX12_isSeen 26 = .ok (.iconst 0, 1) := by decide +kernel
theorem dX12_isSeen_27 : decode cX12_isSeen 27 = .ok (.ireturn, 1) := by decide +kernel
theorem dX12_viewed_0 : decode cX12_viewed 0 = .ok (.aload_n 0, 1) := by decide +kernel
theorem dX12_viewed_1 : decode cX12_viewed 1 = .ok (.aload_n 0, 1) := by decide +kernel
theorem dX12_viewed_2 : decode cX12_viewed 2 = .ok (.iload_n 1, 1) := by decide +kernel
theorem dX12_viewed_3 : decode cX12_viewed 3 = .ok (.invokevirtual 196, 3) := by decide +kernel
theorem dX12_viewed_6 : decode cX12_viewed 6 = .ok (.iload_n 2, 1) := by decide +kernel
theorem dX12_viewed_7 : decode cX12_viewed 7 = .ok (.invokevirtual 146, 3) := by decide +kernel
theorem dX12_viewed_10 : decode cX12_viewed 10 = .ok (.ireturn, 1) := by decide +kernel
theorem dX12_isGoneThere_0 : decode cX12_isGoneThere 0 = .ok (.aload_n 0, 1) := by decide +kernel
theorem dX12_isGoneThere_1 : decode cX12_isGoneThere 1 = .ok (.iload_n 1, 1) := by decide +kernel
theorem dX12_isGoneThere_2 : decode cX12_isGoneThere 2 = .ok (.invokevirtual 200, 3) := by decide +kernel
theorem dX12_isGoneThere_5 : decode cX12_isGoneThere 5 = .ok (.ifCond .eq 14, 3) := by decide +kernel
theorem dX12_isGoneThere_8 : decode cX12_isGoneThere 8 = .ok (.aload_n 0, 1) := by decide +kernel
theorem dX12_isGoneThere_9 : decode cX12_isGoneThere 9 = .ok (.iload_n 1, 1) := by decide +kernel
theorem dX12_isGoneThere_10 : decode cX12_isGoneThere 10 = .ok (.bipush 13, 2) := by decide +kernel
theorem dX12_isGoneThere_12 : decode cX12_isGoneThere 12 = .ok (.invokevirtual 204, 3) := by decide +kernel
theorem dX12_isGoneThere_15 : decode cX12_isGoneThere 15 = .ok (.iconst 4, 1) := by decide +kernel
theorem dX12_isGoneThere_16 : decode cX12_isGoneThere 16 = .ok (.if_icmp .ne 7, 3) := by decide +kernel
theorem dX12_isGoneThere_19 : decode cX12_isGoneThere 19 = .ok (.iconst 1, 1) := by decide +kernel
theorem dX12_isGoneThere_20 : decode cX12_isGoneThere 20 = .ok (.goto 4, 3) := by decide +kernel
theorem dX12_isGoneThere_23 : decode cX12_isGoneThere 23 = .ok (.iconst 0, 1) := by decide +kernel
theorem dX12_isGoneThere_24 : decode cX12_isGoneThere 24 = .ok (.ireturn, 1) := by decide +kernel
theorem dX12_stays_0 : decode cX12_stays 0 = .ok (.aload_n 0, 1) := by decide +kernel
theorem dX12_stays_1 : decode cX12_stays 1 = .ok (.iload_n 1, 1) := by decide +kernel
theorem dX12_stays_2 : decode cX12_stays 2 = .ok (.invokevirtual 200, 3) := by decide +kernel
theorem dX12_stays_5 : decode cX12_stays 5 = .ok (.ifCond .eq 27, 3) := by decide +kernel
theorem dX12_stays_8 : decode cX12_stays 8 = .ok (.aload_n 0, 1) := by decide +kernel
theorem dX12_stays_9 : decode cX12_stays 9 = .ok (.getfield 25, 3) := by decide +kernel
theorem dX12_stays_12 : decode cX12_stays 12 = .ok (.iload_n 1, 1) := by decide +kernel
theorem dX12_stays_13 : decode cX12_stays 13 = .ok (.iaload, 1) := by decide +kernel
theorem dX12_stays_14 : decode cX12_stays 14 = .ok (.iload_n 2, 1) := by decide +kernel
theorem dX12_stays_15 : decode cX12_stays 15 = .ok (.if_icmp .ne 17, 3) := by decide +kernel
theorem dX12_stays_18 : decode cX12_stays 18 = .ok (.aload_n 0, 1) := by decide +kernel
theorem dX12_stays_19 : decode cX12_stays 19 = .ok (.iload_n 1, 1) := by decide +kernel
theorem dX12_stays_20 : decode cX12_stays 20 = .ok (.bipush 13, 2) := by decide +kernel
theorem dX12_stays_22 : decode cX12_stays 22 = .ok (.invokevirtual 204, 3) := by decide +kernel
theorem dX12_stays_25 : decode cX12_stays 25 = .ok (.ifCond .ne 7, 3) := by decide +kernel
theorem dX12_stays_28 : decode cX12_stays 28 = .ok (.iconst 1, 1) := by decide +kernel
theorem dX12_stays_29 : decode cX12_stays 29 = .ok (.goto 4, 3) := by decide +kernel
theorem dX12_stays_32 : decode cX12_stays 32 = .ok (.iconst 0, 1) := by decide +kernel
theorem dX12_stays_33 : decode cX12_stays 33 = .ok (.ireturn, 1) := by decide +kernel
theorem dX12_comes_0 : decode cX12_comes 0 = .ok (.bipush 60, 2) := by decide +kernel
theorem dX12_comes_2 : decode cX12_comes 2 = .ok (.aload_n 0, 1) := by decide +kernel
theorem dX12_comes_3 : decode cX12_comes 3 = .ok (.getfield 193, 3) := by decide +kernel
theorem dX12_comes_6 : decode cX12_comes 6 = .ok (.imul, 1) := by decide +kernel
theorem dX12_comes_7 : decode cX12_comes 7 = .ok (.istore_n 2, 1) := by decide +kernel
theorem dX12_comes_8 : decode cX12_comes 8 = .ok (.iload_n 2, 1) := by decide +kernel
theorem dX12_comes_9 : decode cX12_comes 9 = .ok (.istore_n 3, 1) := by decide +kernel
theorem dX12_comes_10 : decode cX12_comes 10 = .ok (.iload_n 3, 1) := by decide +kernel
theorem dX12_comes_11 : decode cX12_comes 11 = .ok (.iload_n 2, 1) := by decide +kernel
theorem dX12_comes_12 : decode cX12_comes 12 = .ok (.aload_n 0, 1) := by decide +kernel
theorem dX12_comes_13 : decode cX12_comes 13 = .ok (.getfield 106, 3) := by decide +kernel
theorem dX12_comes_16 : decode cX12_comes 16 = .ok (.aload_n 0, 1) := by decide +kernel
theorem dX12_comes_17 : decode cX12_comes 17 = .ok (.getfield 193, 3) := by decide +kernel
theorem dX12_comes_20 : decode cX12_comes 20 = .ok (.iaload, 1) := by decide +kernel
theorem dX12_comes_21 : decode cX12_comes 21 = .ok (.iadd, 1) := by decide +kernel
theorem dX12_comes_22 : decode cX12_comes 22 = .ok (.if_icmp .ge 21, 3) := by decide +kernel
theorem dX12_comes_25 : decode cX12_comes 25 = .ok (.aload_n 0, 1) := by decide +kernel
theorem dX12_comes_26 : decode cX12_comes 26 = .ok (.getfield 109, 3) := by decide +kernel
theorem dX12_comes_29 : decode cX12_comes 29 = .ok (.iload_n 3, 1) := by decide +kernel
theorem dX12_comes_30 : decode cX12_comes 30 = .ok (.iaload, 1) := by decide +kernel
theorem dX12_comes_31 : decode cX12_comes 31 = .ok (.iload_n 1, 1) := by decide +kernel
theorem dX12_comes_32 : decode cX12_comes 32 = .ok (.if_icmp .ne 5, 3) := by decide +kernel
theorem dX12_comes_35 : decode cX12_comes 35 = .ok (.iconst 0, 1) := by decide +kernel
theorem dX12_comes_36 : decode cX12_comes 36 = .ok (.ireturn, 1) := by decide +kernel
theorem dX12_comes_37 : decode cX12_comes 37 = .ok (.iinc 3 1, 3) := by decide +kernel
theorem dX12_comes_40 : decode cX12_comes 40 = .ok (.goto (-30), 3) := by decide +kernel
theorem dX12_comes_43 : decode cX12_comes 43 = .ok (.aload_n 0, 1) := by decide +kernel
theorem dX12_comes_44 : decode cX12_comes 44 = .ok (.getfield 109, 3) := by decide +kernel
theorem dX12_comes_47 : decode cX12_comes 47 = .ok (.iload_n 2, 1) := by decide +kernel
theorem dX12_comes_48 : decode cX12_comes 48 = .ok (.aload_n 0, 1) := by decide +kernel
theorem dX12_comes_49 : decode cX12_comes 49 = .ok (.getfield 106, 3) := by decide +kernel
theorem dX12_comes_52 : decode cX12_comes 52 = .ok (.aload_n 0, 1) := by decide +kernel
theorem dX12_comes_53 : decode cX12_comes 53 = .ok (.getfield 193, 3) := by decide +kernel
theorem dX12_comes_56 : decode cX12_comes 56 = .ok (.iaload, 1) := by decide +kernel
theorem dX12_comes_57 : decode cX12_comes 57 = .ok (.iadd, 1) := by decide +kernel
theorem dX12_comes_58 : decode cX12_comes 58 = .ok (.iload_n 1, 1) := by decide +kernel
theorem dX12_comes_59 : decode cX12_comes 59 = .ok (.iastore, 1) := by decide +kernel
theorem dX12_comes_60 : decode cX12_comes 60 = .ok (.aload_n 0, 1) := by decide +kernel
theorem dX12_comes_61 : decode cX12_comes 61 = .ok (.getfield 115, 3) := by decide +kernel
theorem dX12_comes_64 : decode cX12_comes 64 = .ok (.iload_n 2, 1) := by decide +kernel
theorem dX12_comes_65 : decode cX12_comes 65 = .ok (.iload_n 1, 1) := by decide +kernel
theorem dX12_comes_66 : decode cX12_comes 66 = .ok (.iadd, 1) := by decide +kernel
theorem dX12_comes_67 : decode cX12_comes 67 = .ok (.iconst 0, 1) := by decide +kernel
theorem dX12_comes_68 : decode cX12_comes 68 = .ok (.iastore, 1) := by decide +kernel
theorem dX12_comes_69 : decode cX12_comes 69 = .ok (.aload_n 0, 1) := by decide +kernel
theorem dX12_comes_70 : decode cX12_comes 70 = .ok (.getfield 106, 3) := by decide +kernel
theorem dX12_comes_73 : decode cX12_comes 73 = .ok (.aload_n 0, 1) := by decide +kernel
theorem dX12_comes_74 : decode cX12_comes 74 = .ok (.getfield 193, 3) := by decide +kernel
theorem dX12_comes_77 : decode cX12_comes 77 = .ok (.dup2, 1) := by decide +kernel
theorem dX12_comes_78 : decode cX12_comes 78 = .ok (.iaload, 1) := by decide +kernel
theorem dX12_comes_79 : decode cX12_comes 79 = .ok (.iconst 1, 1) := by decide +kernel
theorem dX12_comes_80 : decode cX12_comes 80 = .ok (.iadd, 1) := by decide +kernel
theorem dX12_comes_81 : decode cX12_comes 81 = .ok (.iastore, 1) := by decide +kernel
theorem dX12_comes_82 : decode cX12_comes 82 = .ok (.iconst 1, 1) := by decide +kernel
theorem dX12_comes_83 : decode cX12_comes 83 = .ok (.ireturn, 1) := by decide +kernel
theorem dX12_comesIf_0 : decode cX12_comesIf 0 = .ok (.iload_n 1, 1) := by decide +kernel
theorem dX12_comesIf_1 : decode cX12_comesIf 1 = .ok (.iconst (-1), 1) := by decide +kernel
theorem dX12_comesIf_2 : decode cX12_comesIf 2 = .ok (.if_icmp .eq 21, 3) := by decide +kernel
theorem dX12_comesIf_5 : decode cX12_comesIf 5 = .ok (.aload_n 0, 1) := by decide +kernel
theorem dX12_comesIf_6 : decode cX12_comesIf 6 = .ok (.getfield 25, 3) := by decide +kernel
theorem dX12_comesIf_9 : decode cX12_comesIf 9 = .ok (.iload_n 1, 1) := by decide +kernel
theorem dX12_comesIf_10 : decode cX12_comesIf 10 = .ok (.iaload, 1) := by decide +kernel
theorem dX12_comesIf_11 : decode cX12_comesIf 11 = .ok (.iload_n 2, 1) := by decide +kernel
theorem dX12_comesIf_12 : decode cX12_comesIf 12 = .ok (.if_icmp .ne 11, 3) := by decide +kernel
theorem dX12_comesIf_15 : decode cX12_comesIf 15 = .ok (.aload_n 0, 1) := by decide +kernel
theorem dX12_comesIf_16 : decode cX12_comesIf 16 = .ok (.iload_n 1, 1) := by decide +kernel
theorem dX12_comesIf_17 : decode cX12_comesIf 17 = .ok (.invokevirtual 208, 3) := by decide +kernel
theorem dX12_comesIf_20 : decode cX12_comesIf 20 = .ok (.goto 4, 3) := by decide +kernel
theorem dX12_comesIf_23 : decode cX12_comesIf 23 = .ok (.iconst 0, 1) := by decide +kernel
theorem dX12_comesIf_24 : decode cX12_comesIf 24 = .ok (.ireturn, 1) := by decide +kernel
theorem dX12_ownKind_0 : decode cX12_ownKind 0 = .ok (.aload_n 0, 1) := by decide +kernel
theorem dX12_ownKind_1 : decode cX12_ownKind 1 = .ok (.getfield 193, 3) := by decide +kernel
theorem dX12_ownKind_4 : decode cX12_ownKind 4 = .ok (.ifCond .eq 12, 3) := by decide +kernel
theorem dX12_ownKind_7 : decode cX12_ownKind 7 = .ok (.aload_n 0, 1) := by decide +kernel
theorem dX12_ownKind_8 : decode cX12_ownKind 8 = .ok (.getfield 193, 3) := by decide +kernel
theorem dX12_ownKind_11 : decode cX12_ownKind 11 = .ok (.bipush 7, 2) := by decide +kernel
theorem dX12_ownKind_13 : decode cX12_ownKind 13 = .ok (.if_icmp .ne 7, 3) := by decide +kernel
theorem dX12_ownKind_16 : decode cX12_ownKind 16 = .ok (.iconst 0, 1) := by decide +kernel
theorem dX12_ownKind_17 : decode cX12_ownKind 17 = .ok (.goto 53, 3) := by decide +kernel
theorem dX12_ownKind_20 : decode cX12_ownKind 20 = .ok (.aload_n 0, 1) := by decide +kernel
theorem dX12_ownKind_21 : decode cX12_ownKind 21 = .ok (.getfield 193, 3) := by decide +kernel
theorem dX12_ownKind_24 : decode cX12_ownKind 24 = .ok (.iconst 1, 1) := by decide +kernel
theorem dX12_ownKind_25 : decode cX12_ownKind 25 = .ok (.if_icmp .ne 7, 3) := by decide +kernel
theorem dX12_ownKind_28 : decode cX12_ownKind 28 = .ok (.iconst 1, 1) := by decide +kernel
theorem dX12_ownKind_29 : decode cX12_ownKind 29 = .ok (.goto 41, 3) := by decide +kernel
theorem dX12_ownKind_32 : decode cX12_ownKind 32 = .ok (.aload_n 0, 1) := by decide +kernel
theorem dX12_ownKind_33 : decode cX12_ownKind 33 = .ok (.getfield 193, 3) := by decide +kernel
theorem dX12_ownKind_36 : decode cX12_ownKind 36 = .ok (.iconst 2, 1) := by decide +kernel
theorem dX12_ownKind_37 : decode cX12_ownKind 37 = .ok (.if_icmp .ne 7, 3) := by decide +kernel
theorem dX12_ownKind_40 : decode cX12_ownKind 40 = .ok (.iconst 3, 1) := by decide +kernel
theorem dX12_ownKind_41 : decode cX12_ownKind 41 = .ok (.goto 29, 3) := by decide +kernel
theorem dX12_ownKind_44 : decode cX12_ownKind 44 = .ok (.aload_n 0, 1) := by decide +kernel
theorem dX12_ownKind_45 : decode cX12_ownKind 45 = .ok (.getfield 193, 3) := by decide +kernel
theorem dX12_ownKind_48 : decode cX12_ownKind 48 = .ok (.bipush 6, 2) := by decide +kernel
theorem dX12_ownKind_50 : decode cX12_ownKind 50 = .ok (.if_icmp .ne 7, 3) := by decide +kernel
theorem dX12_ownKind_53 : decode cX12_ownKind 53 = .ok (.iconst 5, 1) := by decide +kernel
theorem dX12_ownKind_54 : decode cX12_ownKind 54 = .ok (.goto 16, 3) := by decide +kernel
theorem dX12_ownKind_57 : decode cX12_ownKind 57 = .ok (.aload_n 0, 1) := by decide +kernel
theorem dX12_ownKind_58 : decode cX12_ownKind 58 = .ok (.getfield 193, 3) := by decide +kernel
theorem dX12_ownKind_61 : decode cX12_ownKind 61 = .ok (.iconst 5, 1) := by decide +kernel
theorem dX12_ownKind_62 : decode cX12_ownKind 62 = .ok (.if_icmp .ne 7, 3) := by decide +kernel
theorem dX12_ownKind_65 : decode cX12_ownKind 65 = .ok (.iconst (-1), 1) := by decide +kernel
theorem dX12_ownKind_66 : decode cX12_ownKind 66 = .ok (.goto 4, 3) := by decide +kernel
theorem dX12_ownKind_69 : decode cX12_ownKind 69 = .ok (.iconst 2, 1) := by decide +kernel
theorem dX12_ownKind_70 : decode cX12_ownKind 70 = .ok (.ireturn, 1) := by decide +kernel
theorem dX12_comeAll_0 : decode cX12_comeAll 0 = .ok (.iconst 0, 1) := by decide +kernel
theorem dX12_comeAll_1 : decode cX12_comeAll 1 = .ok (.istore_n 3, 1) := by decide +kernel
theorem dX12_comeAll_2 : decode cX12_comeAll 2 = .ok (.iconst 0, 1) := by decide +kernel
theorem dX12_comeAll_3 : decode cX12_comeAll 3 = .ok (.istore 4, 2) := by decide +kernel
theorem dX12_comeAll_5 : decode cX12_comeAll 5 = .ok (.iload 4, 2) := by decide +kernel
theorem dX12_comeAll_7 : decode cX12_comeAll 7 = .ok (.aload_n 0, 1) := by decide +kernel
theorem dX12_comeAll_8 : decode cX12_comeAll 8 = .ok (.getfield 137, 3) := by decide +kernel
theorem dX12_comeAll_11 : decode cX12_comeAll 11 = .ok (.if_icmp .ge 215, 3) := by decide +kernel
theorem dX12_comeAll_14 : decode cX12_comeAll 14 = .ok (.aload_n 0, 1) := by decide +kernel
theorem dX12_comeAll_15 : decode cX12_comeAll 15 = .ok (.iload 4, 2) := by decide +kernel
theorem dX12_comeAll_17 : decode cX12_comeAll 17 = .ok (.invokevirtual 211, 3) := by decide +kernel
theorem dX12_comeAll_20 : decode cX12_comeAll 20 = .ok (.ifCond .ne 7, 3) := by decide +kernel
theorem dX12_comeAll_23 : decode cX12_comeAll 23 = .ok (.iconst 1, 1) := by decide +kernel
theorem dX12_comeAll_24 : decode cX12_comeAll 24 = .ok (.goto 4, 3) := by decide +kernel
theorem dX12_comeAll_27 : decode cX12_comeAll 27 = .ok (.iconst 0, 1) := by decide +kernel
theorem dX12_comeAll_28 : decode cX12_comeAll 28 = .ok (.istore 5, 2) := by decide +kernel
theorem dX12_comeAll_30 : decode cX12_comeAll 30 = .ok (.iload 5, 2) := by decide +kernel
theorem dX12_comeAll_32 : decode cX12_comeAll 32 = .ok (.ifCond .eq 18, 3) := by decide +kernel
theorem dX12_comeAll_35 : decode cX12_comeAll 35 = .ok (.aload_n 0, 1) := by decide +kernel
theorem dX12_comeAll_36 : decode cX12_comeAll 36 = .ok (.getfield 25, 3) := by decide +kernel
theorem dX12_comeAll_39 : decode cX12_comeAll 39 = .ok (.iload 4, 2) := by decide +kernel
theorem dX12_comeAll_41 : decode cX12_comeAll 41 = .ok (.iaload, 1) := by decide +kernel
theorem dX12_comeAll_42 : decode cX12_comeAll 42 = .ok (.iconst 2, 1) := by decide +kernel
theorem dX12_comeAll_43 : decode cX12_comeAll 43 = .ok (.if_icmp .ne 7, 3) := by decide +kernel
theorem dX12_comeAll_46 : decode cX12_comeAll 46 = .ok (.iconst 1, 1) := by decide +kernel
theorem dX12_comeAll_47 : decode cX12_comeAll 47 = .ok (.goto 4, 3) := by decide +kernel
theorem dX12_comeAll_50 : decode cX12_comeAll 50 = .ok (.iconst 0, 1) := by decide +kernel
theorem dX12_comeAll_51 : decode cX12_comeAll 51 = .ok (.istore 6, 2) := by decide +kernel
theorem dX12_comeAll_53 : decode cX12_comeAll 53 = .ok (.iload 6, 2) := by decide +kernel
theorem dX12_comeAll_55 : decode cX12_comeAll 55 = .ok (.ifCond .eq 40, 3) := by decide +kernel
theorem dX12_comeAll_58 : decode cX12_comeAll 58 = .ok (.aload_n 0, 1) := by decide +kernel
theorem dX12_comeAll_59 : decode cX12_comeAll 59 = .ok (.iload 4, 2) := by decide +kernel
theorem dX12_comeAll_61 : decode cX12_comeAll 61 = .ok (.bipush 13, 2) := by decide +kernel
theorem dX12_comeAll_63 : decode cX12_comeAll 63 = .ok (.invokevirtual 204, 3) := by decide +kernel
theorem dX12_comeAll_66 : decode cX12_comeAll 66 = .ok (.ifCond .ne 29, 3) := by decide +kernel
theorem dX12_comeAll_69 : decode cX12_comeAll 69 = .ok (.aload_n 0, 1) := by decide +kernel
theorem dX12_comeAll_70 : decode cX12_comeAll 70 = .ok (.iload 4, 2) := by decide +kernel
theorem dX12_comeAll_72 : decode cX12_comeAll 72 = .ok (.bipush 16, 2) := by decide +kernel
theorem dX12_comeAll_74 : decode cX12_comeAll 74 = .ok (.invokevirtual 204, 3) := by decide +kernel
theorem dX12_comeAll_77 : decode cX12_comeAll 77 = .ok (.ifCond .ne 18, 3) := by decide +kernel
theorem dX12_comeAll_80 : decode cX12_comeAll 80 = .ok (.aload_n 0, 1) := by decide +kernel
theorem dX12_comeAll_81 : decode cX12_comeAll 81 = .ok (.iload 4, 2) := by decide +kernel
theorem dX12_comeAll_83 : decode cX12_comeAll 83 = .ok (.bipush 15, 2) := by decide +kernel
theorem dX12_comeAll_85 : decode cX12_comeAll 85 = .ok (.invokevirtual 204, 3) := by decide +kernel
theorem dX12_comeAll_88 : decode cX12_comeAll 88 = .ok (.ifCond .ne 7, 3) := by decide +kernel
theorem dX12_comeAll_91 : decode cX12_comeAll 91 = .ok (.iconst 1, 1) := by decide +kernel
theorem dX12_comeAll_92 : decode cX12_comeAll 92 = .ok (.goto 4, 3) := by decide +kernel
theorem dX12_comeAll_95 : decode cX12_comeAll 95 = .ok (.iconst 0, 1) := by decide +kernel
theorem dX12_comeAll_96 : decode cX12_comeAll 96 = .ok (.istore 7, 2) := by decide +kernel
theorem dX12_comeAll_98 : decode cX12_comeAll 98 = .ok (.iload 6, 2) := by decide +kernel
theorem dX12_comeAll_100 : decode cX12_comeAll 100 = .ok (.ifCond .eq 21, 3) := by decide +kernel
theorem dX12_comeAll_103 : decode cX12_comeAll 103 = .ok (.aload_n 0, 1) := by decide +kernel
theorem dX12_comeAll_104 : decode cX12_comeAll 104 = .ok (.iload 4, 2) := by decide +kernel
theorem dX12_comeAll_106 : decode cX12_comeAll 106 = .ok (.bipush 15, 2) := by decide +kernel
theorem dX12_comeAll_108 : decode cX12_comeAll 108 = .ok (.invokevirtual 204, 3) := by decide +kernel
theorem dX12_comeAll_111 : decode cX12_comeAll 111 = .ok (.iload_n 2, 1) := by decide +kernel
theorem dX12_comeAll_112 : decode cX12_comeAll 112 = .ok (.iconst 1, 1) := by decide +kernel
theorem dX12_comeAll_113 : decode cX12_comeAll 113 = .ok (.iadd, 1) := by decide +kernel
theorem dX12_comeAll_114 : decode cX12_comeAll 114 = .ok (.if_icmp .ne 7, 3) := by decide +kernel
theorem dX12_comeAll_117 : decode cX12_comeAll 117 = .ok (.iconst 1, 1) := by decide +kernel
theorem dX12_comeAll_118 : decode cX12_comeAll 118 = .ok (.goto 4, 3) := by decide +kernel
theorem dX12_comeAll_121 : decode cX12_comeAll 121 = .ok (.iconst 0, 1) := by decide +kernel
theorem dX12_comeAll_122 : decode cX12_comeAll 122 = .ok (.istore 8, 2) := by decide +kernel
theorem dX12_comeAll_124 : decode cX12_comeAll 124 = .ok (.iload 5, 2) := by decide +kernel
theorem dX12_comeAll_126 : decode cX12_comeAll 126 = .ok (.ifCond .eq 21, 3) := by decide +kernel
theorem dX12_comeAll_129 : decode cX12_comeAll 129 = .ok (.aload_n 0, 1) := by decide +kernel
theorem dX12_comeAll_130 : decode cX12_comeAll 130 = .ok (.aload_n 0, 1) := by decide +kernel
theorem dX12_comeAll_131 : decode cX12_comeAll 131 = .ok (.iload 4, 2) := by decide +kernel
theorem dX12_comeAll_133 : decode cX12_comeAll 133 = .ok (.invokevirtual 196, 3) := by decide +kernel
theorem dX12_comeAll_136 : decode cX12_comeAll 136 = .ok (.invokevirtual 214, 3) := by decide +kernel
theorem dX12_comeAll_139 : decode cX12_comeAll 139 = .ok (.iload_n 2, 1) := by decide +kernel
theorem dX12_comeAll_140 : decode cX12_comeAll 140 = .ok (.if_icmp .ne 7, 3) := by decide +kernel
theorem dX12_comeAll_143 : decode cX12_comeAll 143 = .ok (.iconst 1, 1) := by decide +kernel
theorem dX12_comeAll_144 : decode cX12_comeAll 144 = .ok (.goto 4, 3) := by decide +kernel
theorem dX12_comeAll_147 : decode cX12_comeAll 147 = .ok (.iconst 0, 1) := by decide +kernel
theorem dX12_comeAll_148 : decode cX12_comeAll 148 = .ok (.istore 9, 2) := by decide +kernel
theorem dX12_comeAll_150 : decode cX12_comeAll 150 = .ok (.iload_n 1, 1) := by decide +kernel
theorem dX12_comeAll_151 : decode cX12_comeAll 151 = .ok (.ifCond .ne 27, 3) := by decide +kernel
theorem dX12_comeAll_154 : decode cX12_comeAll 154 = .ok (.iload 5, 2) := by decide +kernel
theorem dX12_comeAll_156 : decode cX12_comeAll 156 = .ok (.ifCond .eq 18, 3) := by decide +kernel
theorem dX12_comeAll_159 : decode cX12_comeAll 159 = .ok (.aload_n 0, 1) := by decide +kernel
theorem dX12_comeAll_160 : decode cX12_comeAll 160 = .ok (.getfield 25, 3) := by decide +kernel
theorem dX12_comeAll_163 : decode cX12_comeAll 163 = .ok (.iload 4, 2) := by decide +kernel
theorem dX12_comeAll_165 : decode cX12_comeAll 165 = .ok (.iaload, 1) := by decide +kernel
theorem dX12_comeAll_166 : decode cX12_comeAll 166 = .ok (.iconst 5, 1) := by decide +kernel
theorem dX12_comeAll_167 : decode cX12_comeAll 167 = .ok (.if_icmp .ne 7, 3) := by decide +kernel
theorem dX12_comeAll_170 : decode cX12_comeAll 170 = .ok (.iconst 1, 1) := by decide +kernel
theorem dX12_comeAll_171 : decode cX12_comeAll 171 = .ok (.goto 29, 3) := by decide +kernel
theorem dX12_comeAll_174 : decode cX12_comeAll 174 = .ok (.iconst 0, 1) := by decide +kernel
theorem dX12_comeAll_175 : decode cX12_comeAll 175 = .ok (.goto 25, 3) := by decide +kernel
theorem dX12_comeAll_178 : decode cX12_comeAll 178 = .ok (.iload_n 1, 1) := by decide +kernel
theorem dX12_comeAll_179 : decode cX12_comeAll 179 = .ok (.iconst 1, 1) := by decide +kernel
theorem dX12_comeAll_180 : decode cX12_comeAll 180 = .ok (.if_icmp .ne 8, 3) := by decide +kernel
theorem dX12_comeAll_183 : decode cX12_comeAll 183 = .ok (.iload 7, 2) := by decide +kernel
theorem dX12_comeAll_185 : decode cX12_comeAll 185 = .ok (.goto 15, 3) := by decide +kernel
theorem dX12_comeAll_188 : decode cX12_comeAll 188 = .ok (.iload_n 1, 1) := by decide +kernel
theorem dX12_comeAll_189 : decode cX12_comeAll 189 = .ok (.iconst 2, 1) := by decide +kernel
theorem dX12_comeAll_190 : decode cX12_comeAll 190 = .ok (.if_icmp .ne 8, 3) := by decide +kernel
theorem dX12_comeAll_193 : decode cX12_comeAll 193 = .ok (.iload 8, 2) := by decide +kernel
theorem dX12_comeAll_195 : decode cX12_comeAll 195 = .ok (.goto 5, 3) := by decide +kernel
theorem dX12_comeAll_198 : decode cX12_comeAll 198 = .ok (.iload 9, 2) := by decide +kernel
theorem dX12_comeAll_200 : decode cX12_comeAll 200 = .ok (.istore 10, 2) := by decide +kernel
theorem dX12_comeAll_202 : decode cX12_comeAll 202 = .ok (.iload_n 3, 1) := by decide +kernel
theorem dX12_comeAll_203 : decode cX12_comeAll 203 = .ok (.iload 10, 2) := by decide +kernel
theorem dX12_comeAll_205 : decode cX12_comeAll 205 = .ok (.ifCond .eq 12, 3) := by decide +kernel
theorem dX12_comeAll_208 : decode cX12_comeAll 208 = .ok (.aload_n 0, 1) := by decide +kernel
theorem dX12_comeAll_209 : decode cX12_comeAll 209 = .ok (.iload 4, 2) := by decide +kernel
theorem dX12_comeAll_211 : decode cX12_comeAll 211 = .ok (.invokevirtual 208, 3) := by decide +kernel
theorem dX12_comeAll_214 : decode cX12_comeAll 214 = .ok (.goto 4, 3) := by decide +kernel
theorem dX12_comeAll_217 : decode cX12_comeAll 217 = .ok (.iconst 0, 1) := by decide +kernel
theorem dX12_comeAll_218 : decode cX12_comeAll 218 = .ok (.iadd, 1) := by decide +kernel
theorem dX12_comeAll_219 : decode cX12_comeAll 219 = .ok (.istore_n 3, 1) := by decide +kernel
theorem dX12_comeAll_220 : decode cX12_comeAll 220 = .ok (.iinc 4 1, 3) := by decide +kernel
theorem dX12_comeAll_223 : decode cX12_comeAll 223 = .ok (.goto (-218), 3) := by decide +kernel
theorem dX12_comeAll_226 : decode cX12_comeAll 226 = .ok (.iload_n 3, 1) := by decide +kernel
theorem dX12_comeAll_227 : decode cX12_comeAll 227 = .ok (.ireturn, 1) := by decide +kernel
theorem dX12_ownersOwner_0 : decode cX12_ownersOwner 0 = .ok (.iload_n 1, 1) := by decide +kernel
theorem dX12_ownersOwner_1 : decode cX12_ownersOwner 1 = .ok (.iconst (-1), 1) := by decide +kernel
theorem dX12_ownersOwner_2 : decode cX12_ownersOwner 2 = .ok (.if_icmp .eq 33, 3) := by decide +kernel
theorem dX12_ownersOwner_5 : decode cX12_ownersOwner 5 = .ok (.aload_n 0, 1) := by decide +kernel
theorem dX12_ownersOwner_6 : decode cX12_ownersOwner 6 = .ok (.getfield 25, 3) := by decide +kernel
theorem dX12_ownersOwner_9 : decode cX12_ownersOwner 9 = .ok (.iload_n 1, 1) := by decide +kernel
theorem dX12_ownersOwner_10 : decode cX12_ownersOwner 10 = .ok (.iaload, 1) := by decide +kernel
theorem dX12_ownersOwner_11 : decode cX12_ownersOwner 11 = .ok (.iconst 1, 1) := by decide +kernel
theorem dX12_ownersOwner_12 : decode cX12_ownersOwner 12 = .ok (.if_icmp .ne 23, 3) := by decide +kernel
theorem dX12_ownersOwner_15 : decode cX12_ownersOwner 15 = .ok (.aload_n 0, 1) := by decide +kernel
theorem dX12_ownersOwner_16 : decode cX12_ownersOwner 16 = .ok (.iload_n 1, 1) := by decide +kernel
theorem dX12_ownersOwner_17 : decode cX12_ownersOwner 17 = .ok (.invokevirtual 200, 3) := by decide +kernel
theorem dX12_ownersOwner_20 : decode cX12_ownersOwner 20 = .ok (.ifCond .eq 15, 3) := by decide +kernel
theorem dX12_ownersOwner_23 : decode cX12_ownersOwner 23 = .ok (.aload_n 0, 1) := by decide +kernel
theorem dX12_ownersOwner_24 : decode cX12_ownersOwner 24 = .ok (.aload_n 0, 1) := by decide +kernel
theorem dX12_ownersOwner_25 : decode cX12_ownersOwner 25 = .ok (.iload_n 1, 1) := by decide +kernel
theorem dX12_ownersOwner_26 : decode cX12_ownersOwner 26 = .ok (.invokevirtual 196, 3) := by decide +kernel
theorem dX12_ownersOwner_29 : decode cX12_ownersOwner 29 = .ok (.invokevirtual 214, 3) := by decide +kernel
theorem dX12_ownersOwner_32 : decode cX12_ownersOwner 32 = .ok (.goto 4, 3) := by decide +kernel
theorem dX12_ownersOwner_35 : decode cX12_ownersOwner 35 = .ok (.iconst (-1), 1) := by decide +kernel
theorem dX12_ownersOwner_36 : decode cX12_ownersOwner 36 = .ok (.ireturn, 1) := by decide +kernel
theorem dX12_keys_0 : decode cX12_keys 0 = .ok (.aload_n 0, 1) := by decide +kernel
theorem dX12_keys_1 : decode cX12_keys 1 = .ok (.getfield 25, 3) := by decide +kernel
theorem dX12_keys_4 : decode cX12_keys 4 = .ok (.iload_n 1, 1) := by decide +kernel
theorem dX12_keys_5 : decode cX12_keys 5 = .ok (.iaload, 1) := by decide +kernel
theorem dX12_keys_6 : decode cX12_keys 6 = .ok (.istore_n 3, 1) := by decide +kernel
theorem dX12_keys_7 : decode cX12_keys 7 = .ok (.aload_n 0, 1) := by decide +kernel
theorem dX12_keys_8 : decode cX12_keys 8 = .ok (.getfield 193, 3) := by decide +kernel
theorem dX12_keys_11 : decode cX12_keys 11 = .ok (.iconst 5, 1) := by decide +kernel
theorem dX12_keys_12 : decode cX12_keys 12 = .ok (.if_icmp .ne 31, 3) := by decide +kernel
theorem dX12_keys_15 : decode cX12_keys 15 = .ok (.aload_n 0, 1) := by decide +kernel
theorem dX12_keys_16 : decode cX12_keys 16 = .ok (.iload_n 1, 1) := by decide +kernel
theorem dX12_keys_17 : decode cX12_keys 17 = .ok (.invokevirtual 208, 3) := by decide +kernel
theorem dX12_keys_20 : decode cX12_keys 20 = .ok (.iload_n 2, 1) := by decide +kernel
theorem dX12_keys_21 : decode cX12_keys 21 = .ok (.iconst (-1), 1) := by decide +kernel
theorem dX12_keys_22 : decode cX12_keys 22 = .ok (.if_icmp .ne 7, 3) := by decide +kernel
theorem dX12_keys_25 : decode cX12_keys 25 = .ok (.iconst 0, 1) := by decide +kernel
theorem dX12_keys_26 : decode cX12_keys 26 = .ok (.goto 8, 3) := by decide +kernel
theorem dX12_keys_29 : decode cX12_keys 29 = .ok (.aload_n 0, 1) := by decide +kernel
theorem dX12_keys_30 : decode cX12_keys 30 = .ok (.iload_n 2, 1) := by decide +kernel
theorem dX12_keys_31 : decode cX12_keys 31 = .ok (.invokevirtual 208, 3) := by decide +kernel
theorem dX12_keys_34 : decode cX12_keys 34 = .ok (.iadd, 1) := by decide +kernel
theorem dX12_keys_35 : decode cX12_keys 35 = .ok (.aload_n 0, 1) := by decide +kernel
theorem dX12_keys_36 : decode cX12_keys 36 = .ok (.iconst 3, 1) := by decide +kernel
theorem dX12_keys_37 : decode cX12_keys 37 = .ok (.iload_n 1, 1) := by decide +kernel
theorem dX12_keys_38 : decode cX12_keys 38 = .ok (.invokevirtual 218, 3) := by decide +kernel
theorem dX12_keys_41 : decode cX12_keys 41 = .ok (.iadd, 1) := by decide +kernel
theorem dX12_keys_42 : decode cX12_keys 42 = .ok (.ireturn, 1) := by decide +kernel
theorem dX12_keys_43 : decode cX12_keys 43 = .ok (.iload_n 3, 1) := by decide +kernel
theorem dX12_keys_44 : decode cX12_keys 44 = .ok (.aload_n 0, 1) := by decide +kernel
theorem dX12_keys_45 : decode cX12_keys 45 = .ok (.invokevirtual 221, 3) := by decide +kernel
theorem dX12_keys_48 : decode cX12_keys 48 = .ok (.if_icmp .ne 11, 3) := by decide +kernel
theorem dX12_keys_51 : decode cX12_keys 51 = .ok (.aload_n 0, 1) := by decide +kernel
theorem dX12_keys_52 : decode cX12_keys 52 = .ok (.iload_n 1, 1) := by decide +kernel
theorem dX12_keys_53 : decode cX12_keys 53 = .ok (.invokevirtual 208, 3) := by decide +kernel
theorem dX12_keys_56 : decode cX12_keys 56 = .ok (.goto 4, 3) := by decide +kernel
theorem dX12_keys_59 : decode cX12_keys 59 = .ok (.iconst 0, 1) := by decide +kernel
theorem dX12_keys_60 : decode cX12_keys 60 = .ok (.istore 4, 2) := by decide +kernel
theorem dX12_keys_62 : decode cX12_keys 62 = .ok (.aload_n 0, 1) := by decide +kernel
theorem dX12_keys_63 : decode cX12_keys 63 = .ok (.getfield 193, 3) := by decide +kernel
theorem dX12_keys_66 : decode cX12_keys 66 = .ok (.ifCond .ne 30, 3) := by decide +kernel
theorem dX12_keys_69 : decode cX12_keys 69 = .ok (.iload_n 3, 1) := by decide +kernel
theorem dX12_keys_70 : decode cX12_keys 70 = .ok (.iconst 1, 1) := by decide +kernel
theorem dX12_keys_71 : decode cX12_keys 71 = .ok (.if_icmp .ne 25, 3) := by decide +kernel
theorem dX12_keys_74 : decode cX12_keys 74 = .ok (.iload 4, 2) := by decide +kernel
theorem dX12_keys_76 : decode cX12_keys 76 = .ok (.iload_n 2, 1) := by decide +kernel
theorem dX12_keys_77 : decode cX12_keys 77 = .ok (.iconst (-1), 1) := by decide +kernel
theorem dX12_keys_78 : decode cX12_keys 78 = .ok (.if_icmp .ne 7, 3) := by decide +kernel
theorem dX12_keys_81 : decode cX12_keys 81 = .ok (.iconst 0, 1) := by decide +kernel
theorem dX12_keys_82 : decode cX12_keys 82 = .ok (.goto 8, 3) := by decide +kernel
theorem dX12_keys_85 : decode cX12_keys 85 = .ok (.aload_n 0, 1) := by decide +kernel
theorem dX12_keys_86 : decode cX12_keys 86 = .ok (.iload_n 2, 1) := by decide +kernel
theorem dX12_keys_87 : decode cX12_keys 87 = .ok (.invokevirtual 208, 3) := by decide +kernel
theorem dX12_keys_90 : decode cX12_keys 90 = .ok (.iadd, 1) := by decide +kernel
theorem dX12_keys_91 : decode cX12_keys 91 = .ok (.istore 4, 2) := by decide +kernel
theorem dX12_keys_93 : decode cX12_keys 93 = .ok (.goto 171, 3) := by decide +kernel
theorem dX12_keys_96 : decode cX12_keys 96 = .ok (.aload_n 0, 1) := by decide +kernel
theorem dX12_keys_97 : decode cX12_keys 97 = .ok (.getfield 193, 3) := by decide +kernel
theorem dX12_keys_100 : decode cX12_keys 100 = .ok (.ifCond .ne 38, 3) := by decide +kernel
theorem dX12_keys_103 : decode cX12_keys 103 = .ok (.iload_n 3, 1) := by decide +kernel
theorem dX12_keys_104 : decode cX12_keys 104 = .ok (.iconst 2, 1) := by decide +kernel
theorem dX12_keys_105 : decode cX12_keys 105 = .ok (.if_icmp .ne 33, 3) := by decide +kernel
theorem dX12_keys_108 : decode cX12_keys 108 = .ok (.iload 4, 2) := by decide +kernel
theorem dX12_keys_110 : decode cX12_keys 110 = .ok (.aload_n 0, 1) := by decide +kernel
theorem dX12_keys_111 : decode cX12_keys 111 = .ok (.iload_n 2, 1) := by decide +kernel
theorem dX12_keys_112 : decode cX12_keys 112 = .ok (.invokevirtual 225, 3) := by decide +kernel
theorem dX12_keys_115 : decode cX12_keys 115 = .ok (.iconst (-1), 1) := by decide +kernel
theorem dX12_keys_116 : decode cX12_keys 116 = .ok (.if_icmp .ne 7, 3) := by decide +kernel
theorem dX12_keys_119 : decode cX12_keys 119 = .ok (.iconst 0, 1) := by decide +kernel
theorem dX12_keys_120 : decode cX12_keys 120 = .ok (.goto 12, 3) := by decide +kernel
theorem dX12_keys_123 : decode cX12_keys 123 = .ok (.aload_n 0, 1) := by decide +kernel
theorem dX12_keys_124 : decode cX12_keys 124 = .ok (.aload_n 0, 1) := by decide +kernel
theorem dX12_keys_125 : decode cX12_keys 125 = .ok (.iload_n 2, 1) := by decide +kernel
theorem dX12_keys_126 : decode cX12_keys 126 = .ok (.invokevirtual 225, 3) := by decide +kernel
theorem dX12_keys_129 : decode cX12_keys 129 = .ok (.invokevirtual 208, 3) := by decide +kernel
theorem dX12_keys_132 : decode cX12_keys 132 = .ok (.iadd, 1) := by decide +kernel
theorem dX12_keys_133 : decode cX12_keys 133 = .ok (.istore 4, 2) := by decide +kernel
theorem dX12_keys_135 : decode cX12_keys 135 = .ok (.goto 129, 3) := by decide +kernel
theorem dX12_keys_138 : decode cX12_keys 138 = .ok (.aload_n 0, 1) := by decide +kernel
theorem dX12_keys_139 : decode cX12_keys 139 = .ok (.getfield 193, 3) := by decide +kernel
theorem dX12_keys_142 : decode cX12_keys 142 = .ok (.iconst 1, 1) := by decide +kernel
theorem dX12_keys_143 : decode cX12_keys 143 = .ok (.if_icmp .eq 11, 3) := by decide +kernel
theorem dX12_keys_146 : decode cX12_keys 146 = .ok (.aload_n 0, 1) := by decide +kernel
theorem dX12_keys_147 : decode cX12_keys 147 = .ok (.getfield 193, 3) := by decide +kernel
theorem dX12_keys_150 : decode cX12_keys 150 = .ok (.iconst 2, 1) := by decide +kernel
theorem dX12_keys_151 : decode cX12_keys 151 = .ok (.if_icmp .ne 34, 3) := by decide +kernel
theorem dX12_keys_154 : decode cX12_keys 154 = .ok (.iload_n 3, 1) := by decide +kernel
theorem dX12_keys_155 : decode cX12_keys 155 = .ok (.iconst 2, 1) := by decide +kernel
theorem dX12_keys_156 : decode cX12_keys 156 = .ok (.if_icmp .ne 29, 3) := by decide +kernel
theorem dX12_keys_159 : decode cX12_keys 159 = .ok (.iload 4, 2) := by decide +kernel
theorem dX12_keys_161 : decode cX12_keys 161 = .ok (.aload_n 0, 1) := by decide +kernel
theorem dX12_keys_162 : decode cX12_keys 162 = .ok (.iload_n 2, 1) := by decide +kernel
theorem dX12_keys_163 : decode cX12_keys 163 = .ok (.aload_n 0, 1) := by decide +kernel
theorem dX12_keys_164 : decode cX12_keys 164 = .ok (.getfield 193, 3) := by decide +kernel
theorem dX12_keys_167 : decode cX12_keys 167 = .ok (.iconst 1, 1) := by decide +kernel
theorem dX12_keys_168 : decode cX12_keys 168 = .ok (.if_icmp .ne 7, 3) := by decide +kernel
theorem dX12_keys_171 : decode cX12_keys 171 = .ok (.iconst 1, 1) := by decide +kernel
theorem dX12_keys_172 : decode cX12_keys 172 = .ok (.goto 4, 3) := by decide +kernel
theorem dX12_keys_175 : decode cX12_keys 175 = .ok (.iconst 3, 1) := by decide +kernel
theorem dX12_keys_176 : decode cX12_keys 176 = .ok (.invokevirtual 228, 3) := by decide +kernel
theorem dX12_keys_179 : decode cX12_keys 179 = .ok (.iadd, 1) := by decide +kernel
theorem dX12_keys_180 : decode cX12_keys 180 = .ok (.istore 4, 2) := by decide +kernel
theorem dX12_keys_182 : decode cX12_keys 182 = .ok (.goto 82, 3) := by decide +kernel
theorem dX12_keys_185 : decode cX12_keys 185 = .ok (.aload_n 0, 1) := by decide +kernel
theorem dX12_keys_186 : decode cX12_keys 186 = .ok (.getfield 193, 3) := by decide +kernel
theorem dX12_keys_189 : decode cX12_keys 189 = .ok (.iconst 3, 1) := by decide +kernel
theorem dX12_keys_190 : decode cX12_keys 190 = .ok (.if_icmp .ne 22, 3) := by decide +kernel
theorem dX12_keys_193 : decode cX12_keys 193 = .ok (.iload_n 3, 1) := by decide +kernel
theorem dX12_keys_194 : decode cX12_keys 194 = .ok (.iconst 4, 1) := by decide +kernel
theorem dX12_keys_195 : decode cX12_keys 195 = .ok (.if_icmp .ne 17, 3) := by decide +kernel
theorem dX12_keys_198 : decode cX12_keys 198 = .ok (.iload 4, 2) := by decide +kernel
theorem dX12_keys_200 : decode cX12_keys 200 = .ok (.aload_n 0, 1) := by decide +kernel
theorem dX12_keys_201 : decode cX12_keys 201 = .ok (.iconst 1, 1) := by decide +kernel
theorem dX12_keys_202 : decode cX12_keys 202 = .ok (.iload_n 1, 1) := by decide +kernel
theorem dX12_keys_203 : decode cX12_keys 203 = .ok (.invokevirtual 218, 3) := by decide +kernel
theorem dX12_keys_206 : decode cX12_keys 206 = .ok (.iadd, 1) := by decide +kernel
theorem dX12_keys_207 : decode cX12_keys 207 = .ok (.istore 4, 2) := by decide +kernel
theorem dX12_keys_209 : decode cX12_keys 209 = .ok (.goto 55, 3) := by decide +kernel
theorem dX12_keys_212 : decode cX12_keys 212 = .ok (.aload_n 0, 1) := by decide +kernel
theorem dX12_keys_213 : decode cX12_keys 213 = .ok (.getfield 193, 3) := by decide +kernel
theorem dX12_keys_216 : decode cX12_keys 216 = .ok (.iconst 4, 1) := by decide +kernel
theorem dX12_keys_217 : decode cX12_keys 217 = .ok (.if_icmp .ne 22, 3) := by decide +kernel
theorem dX12_keys_220 : decode cX12_keys 220 = .ok (.iload_n 3, 1) := by decide +kernel
theorem dX12_keys_221 : decode cX12_keys 221 = .ok (.iconst 4, 1) := by decide +kernel
theorem dX12_keys_222 : decode cX12_keys 222 = .ok (.if_icmp .ne 17, 3) := by decide +kernel
theorem dX12_keys_225 : decode cX12_keys 225 = .ok (.iload 4, 2) := by decide +kernel
theorem dX12_keys_227 : decode cX12_keys 227 = .ok (.aload_n 0, 1) := by decide +kernel
theorem dX12_keys_228 : decode cX12_keys 228 = .ok (.iconst 2, 1) := by decide +kernel
theorem dX12_keys_229 : decode cX12_keys 229 = .ok (.iload_n 1, 1) := by decide +kernel
theorem dX12_keys_230 : decode cX12_keys 230 = .ok (.invokevirtual 218, 3) := by decide +kernel
theorem dX12_keys_233 : decode cX12_keys 233 = .ok (.iadd, 1) := by decide +kernel
theorem dX12_keys_234 : decode cX12_keys 234 = .ok (.istore 4, 2) := by decide +kernel
theorem dX12_keys_236 : decode cX12_keys 236 = .ok (.goto 28, 3) := by decide +kernel
theorem dX12_keys_239 : decode cX12_keys 239 = .ok (.aload_n 0, 1) := by decide +kernel
theorem dX12_keys_240 : decode cX12_keys 240 = .ok (.getfield 193, 3) := by decide +kernel
theorem dX12_keys_243 : decode cX12_keys 243 = .ok (.bipush 6, 2) := by decide +kernel
theorem dX12_keys_245 : decode cX12_keys 245 = .ok (.if_icmp .ne 19, 3) := by decide +kernel
theorem dX12_keys_248 : decode cX12_keys 248 = .ok (.iload_n 3, 1) := by decide +kernel
theorem dX12_keys_249 : decode cX12_keys 249 = .ok (.iconst 2, 1) := by decide +kernel
theorem dX12_keys_250 : decode cX12_keys 250 = .ok (.if_icmp .ne 14, 3) := by decide +kernel
theorem dX12_keys_253 : decode cX12_keys 253 = .ok (.iload 4, 2) := by decide +kernel
theorem dX12_keys_255 : decode cX12_keys 255 = .ok (.aload_n 0, 1) := by decide +kernel
theorem dX12_keys_256 : decode cX12_keys 256 = .ok (.iconst 0, 1) := by decide +kernel
theorem dX12_keys_257 : decode cX12_keys 257 = .ok (.iload_n 1, 1) := by decide +kernel
theorem dX12_keys_258 : decode cX12_keys 258 = .ok (.invokevirtual 218, 3) := by decide +kernel
theorem dX12_keys_261 : decode cX12_keys 261 = .ok (.iadd, 1) := by decide +kernel
theorem dX12_keys_262 : decode cX12_keys 262 = .ok (.istore 4, 2) := by decide +kernel
theorem dX12_keys_264 : decode cX12_keys 264 = .ok (.iload 4, 2) := by decide +kernel
theorem dX12_keys_266 : decode cX12_keys 266 = .ok (.ireturn, 1) := by decide +kernel
theorem dX12_seesOne_0 : decode cX12_seesOne 0 = .ok (.aload_n 0, 1) := by decide +kernel
theorem dX12_seesOne_1 : decode cX12_seesOne 1 = .ok (.getfield 90, 3) := by decide +kernel
theorem dX12_seesOne_4 : decode cX12_seesOne 4 = .ok (.aload_n 0, 1) := by decide +kernel
theorem dX12_seesOne_5 : decode cX12_seesOne 5 = .ok (.getfield 193, 3) := by decide +kernel
theorem dX12_seesOne_8 : decode cX12_seesOne 8 = .ok (.iaload, 1) := by decide +kernel
theorem dX12_seesOne_9 : decode cX12_seesOne 9 = .ok (.iconst 1, 1) := by decide +kernel
theorem dX12_seesOne_10 : decode cX12_seesOne 10 = .ok (.iadd, 1) := by decide +kernel
theorem dX12_seesOne_11 : decode cX12_seesOne 11 = .ok (.istore_n 1, 1) := by decide +kernel
theorem dX12_seesOne_12 : decode cX12_seesOne 12 = .ok (.aload_n 0, 1) := by decide +kernel
theorem dX12_seesOne_13 : decode cX12_seesOne 13 = .ok (.getfield 50, 3) := by decide +kernel
theorem dX12_seesOne_16 : decode cX12_seesOne 16 = .ok (.iload_n 1, 1) := by decide +kernel
theorem dX12_seesOne_17 : decode cX12_seesOne 17 = .ok (.iaload, 1) := by decide +kernel
theorem dX12_seesOne_18 : decode cX12_seesOne 18 = .ok (.istore_n 2, 1) := by decide +kernel
theorem dX12_seesOne_19 : decode cX12_seesOne 19 = .ok (.bipush 60, 2) := by decide +kernel
theorem dX12_seesOne_21 : decode cX12_seesOne 21 = .ok (.aload_n 0, 1) := by decide +kernel
theorem dX12_seesOne_22 : decode cX12_seesOne 22 = .ok (.getfield 193, 3) := by decide +kernel
theorem dX12_seesOne_25 : decode cX12_seesOne 25 = .ok (.imul, 1) := by decide +kernel
theorem dX12_seesOne_26 : decode cX12_seesOne 26 = .ok (.iload_n 2, 1) := by decide +kernel
theorem dX12_seesOne_27 : decode cX12_seesOne 27 = .ok (.iadd, 1) := by decide +kernel
theorem dX12_seesOne_28 : decode cX12_seesOne 28 = .ok (.istore_n 3, 1) := by decide +kernel
theorem dX12_seesOne_29 : decode cX12_seesOne 29 = .ok (.aload_n 0, 1) := by decide +kernel
theorem dX12_seesOne_30 : decode cX12_seesOne 30 = .ok (.aload_n 0, 1) := by decide +kernel
theorem dX12_seesOne_31 : decode cX12_seesOne 31 = .ok (.getfield 53, 3) := by decide +kernel
theorem dX12_seesOne_34 : decode cX12_seesOne 34 = .ok (.iload_n 1, 1) := by decide +kernel
theorem dX12_seesOne_35 : decode cX12_seesOne 35 = .ok (.laload, 1) := by decide +kernel
theorem dX12_seesOne_36 : decode cX12_seesOne 36 = .ok (.invokevirtual 214, 3) := by decide +kernel
theorem dX12_seesOne_39 : decode cX12_seesOne 39 = .ok (.istore 4, 2) := by decide +kernel
theorem dX12_seesOne_41 : decode cX12_seesOne 41 = .ok (.iload 4, 2) := by decide +kernel
theorem dX12_seesOne_43 : decode cX12_seesOne 43 = .ok (.iconst (-1), 1) := by decide +kernel
theorem dX12_seesOne_44 : decode cX12_seesOne 44 = .ok (.if_icmp .ne 25, 3) := by decide +kernel
theorem dX12_seesOne_47 : decode cX12_seesOne 47 = .ok (.aload_n 0, 1) := by decide +kernel
theorem dX12_seesOne_48 : decode cX12_seesOne 48 = .ok (.getfield 93, 3) := by decide +kernel
theorem dX12_seesOne_51 : decode cX12_seesOne 51 = .ok (.iload_n 3, 1) := by decide +kernel
theorem dX12_seesOne_52 : decode cX12_seesOne 52 = .ok (.baload, 1) := by decide +kernel
theorem dX12_seesOne_53 : decode cX12_seesOne 53 = .ok (.ifCond .eq 16, 3) := by decide +kernel
theorem dX12_seesOne_56 : decode cX12_seesOne 56 = .ok (.aload_n 0, 1) := by decide +kernel
theorem dX12_seesOne_57 : decode cX12_seesOne 57 = .ok (.aload_n 0, 1) := by decide +kernel
theorem dX12_seesOne_58 : decode cX12_seesOne 58 = .ok (.getfield 97, 3) := by decide +kernel
theorem dX12_seesOne_61 : decode cX12_seesOne 61 = .ok (.iload_n 3, 1) := by decide +kernel
theorem dX12_seesOne_62 : decode cX12_seesOne 62 = .ok (.laload, 1) := by decide +kernel
theorem dX12_seesOne_63 : decode cX12_seesOne 63 = .ok (.invokevirtual 214, 3) := by decide +kernel
theorem dX12_seesOne_66 : decode cX12_seesOne 66 = .ok (.goto 5, 3) := by decide +kernel
theorem dX12_seesOne_69 : decode cX12_seesOne 69 = .ok (.iload 4, 2) := by decide +kernel
theorem dX12_seesOne_71 : decode cX12_seesOne 71 = .ok (.istore 4, 2) := by decide +kernel
theorem dX12_seesOne_73 : decode cX12_seesOne 73 = .ok (.aload_n 0, 1) := by decide +kernel
theorem dX12_seesOne_74 : decode cX12_seesOne 74 = .ok (.getfield 93, 3) := by decide +kernel
theorem dX12_seesOne_77 : decode cX12_seesOne 77 = .ok (.iload_n 3, 1) := by decide +kernel
theorem dX12_seesOne_78 : decode cX12_seesOne 78 = .ok (.iconst 1, 1) := by decide +kernel
theorem dX12_seesOne_79 : decode cX12_seesOne 79 = .ok (.bastore, 1) := by decide +kernel
theorem dX12_seesOne_80 : decode cX12_seesOne 80 = .ok (.aload_n 0, 1) := by decide +kernel
theorem dX12_seesOne_81 : decode cX12_seesOne 81 = .ok (.getfield 97, 3) := by decide +kernel
theorem dX12_seesOne_84 : decode cX12_seesOne 84 = .ok (.iload_n 3, 1) := by decide +kernel
theorem dX12_seesOne_85 : decode cX12_seesOne 85 = .ok (.aload_n 0, 1) := by decide +kernel
theorem dX12_seesOne_86 : decode cX12_seesOne 86 = .ok (.getfield 53, 3) := by decide +kernel
theorem dX12_seesOne_89 : decode cX12_seesOne 89 = .ok (.iload_n 1, 1) := by decide +kernel
theorem dX12_seesOne_90 : decode cX12_seesOne 90 = .ok (.laload, 1) := by decide +kernel
theorem dX12_seesOne_91 : decode cX12_seesOne 91 = .ok (.lastore, 1) := by decide +kernel
theorem dX12_seesOne_92 : decode cX12_seesOne 92 = .ok (.aload_n 0, 1) := by decide +kernel
theorem dX12_seesOne_93 : decode cX12_seesOne 93 = .ok (.getfield 100, 3) := by decide +kernel
theorem dX12_seesOne_96 : decode cX12_seesOne 96 = .ok (.iload_n 3, 1) := by decide +kernel
theorem dX12_seesOne_97 : decode cX12_seesOne 97 = .ok (.aload_n 0, 1) := by decide +kernel
theorem dX12_seesOne_98 : decode cX12_seesOne 98 = .ok (.getfield 56, 3) := by decide +kernel
theorem dX12_seesOne_101 : decode cX12_seesOne 101 = .ok (.iload_n 1, 1) := by decide +kernel
theorem dX12_seesOne_102 : decode cX12_seesOne 102 = .ok (.laload, 1) := by decide +kernel
theorem dX12_seesOne_103 : decode cX12_seesOne 103 = .ok (.lastore, 1) := by decide +kernel
theorem dX12_seesOne_104 : decode cX12_seesOne 104 = .ok (.aload_n 0, 1) := by decide +kernel
theorem dX12_seesOne_105 : decode cX12_seesOne 105 = .ok (.getfield 103, 3) := by decide +kernel
theorem dX12_seesOne_108 : decode cX12_seesOne 108 = .ok (.iload_n 3, 1) := by decide +kernel
theorem dX12_seesOne_109 : decode cX12_seesOne 109 = .ok (.iload_n 1, 1) := by decide +kernel
theorem dX12_seesOne_110 : decode cX12_seesOne 110 = .ok (.iastore, 1) := by decide +kernel
theorem dX12_seesOne_111 : decode cX12_seesOne 111 = .ok (.aload_n 0, 1) := by decide +kernel
theorem dX12_seesOne_112 : decode cX12_seesOne 112 = .ok (.getfield 90, 3) := by decide +kernel
theorem dX12_seesOne_115 : decode cX12_seesOne 115 = .ok (.aload_n 0, 1) := by decide +kernel
theorem dX12_seesOne_116 : decode cX12_seesOne 116 = .ok (.getfield 193, 3) := by decide +kernel
theorem dX12_seesOne_119 : decode cX12_seesOne 119 = .ok (.iload_n 1, 1) := by decide +kernel
theorem dX12_seesOne_120 : decode cX12_seesOne 120 = .ok (.iastore, 1) := by decide +kernel
theorem dX12_seesOne_121 : decode cX12_seesOne 121 = .ok (.aload_n 0, 1) := by decide +kernel
theorem dX12_seesOne_122 : decode cX12_seesOne 122 = .ok (.iload_n 2, 1) := by decide +kernel
theorem dX12_seesOne_123 : decode cX12_seesOne 123 = .ok (.iload 4, 2) := by decide +kernel
theorem dX12_seesOne_125 : decode cX12_seesOne 125 = .ok (.invokevirtual 231, 3) := by decide +kernel
theorem dX12_seesOne_128 : decode cX12_seesOne 128 = .ok (.ireturn, 1) := by decide +kernel
theorem dX12_lists_0 : decode cX12_lists 0 = .ok (.iconst 0, 1) := by decide +kernel
theorem dX12_lists_1 : decode cX12_lists 1 = .ok (.istore_n 1, 1) := by decide +kernel
theorem dX12_lists_2 : decode cX12_lists 2 = .ok (.iconst 0, 1) := by decide +kernel
theorem dX12_lists_3 : decode cX12_lists 3 = .ok (.istore_n 2, 1) := by decide +kernel
theorem dX12_lists_4 : decode cX12_lists 4 = .ok (.iload_n 2, 1) := by decide +kernel
theorem dX12_lists_5 : decode cX12_lists 5 = .ok (.aload_n 0, 1) := by decide +kernel
theorem dX12_lists_6 : decode cX12_lists 6 = .ok (.getfield 137, 3) := by decide +kernel
theorem dX12_lists_9 : decode cX12_lists 9 = .ok (.if_icmp .ge 123, 3) := by decide +kernel
theorem dX12_lists_12 : decode cX12_lists 12 = .ok (.bipush 60, 2) := by decide +kernel
theorem dX12_lists_14 : decode cX12_lists 14 = .ok (.aload_n 0, 1) := by decide +kernel
theorem dX12_lists_15 : decode cX12_lists 15 = .ok (.getfield 193, 3) := by decide +kernel
theorem dX12_lists_18 : decode cX12_lists 18 = .ok (.imul, 1) := by decide +kernel
theorem dX12_lists_19 : decode cX12_lists 19 = .ok (.iload_n 2, 1) := by decide +kernel
theorem dX12_lists_20 : decode cX12_lists 20 = .ok (.iadd, 1) := by decide +kernel
theorem dX12_lists_21 : decode cX12_lists 21 = .ok (.istore_n 3, 1) := by decide +kernel
theorem dX12_lists_22 : decode cX12_lists 22 = .ok (.aload_n 0, 1) := by decide +kernel
theorem dX12_lists_23 : decode cX12_lists 23 = .ok (.getfield 93, 3) := by decide +kernel
theorem dX12_lists_26 : decode cX12_lists 26 = .ok (.iload_n 3, 1) := by decide +kernel
theorem dX12_lists_27 : decode cX12_lists 27 = .ok (.iconst 1, 1) := by decide +kernel
theorem dX12_lists_28 : decode cX12_lists 28 = .ok (.bastore, 1) := by decide +kernel
theorem dX12_lists_29 : decode cX12_lists 29 = .ok (.aload_n 0, 1) := by decide +kernel
theorem dX12_lists_30 : decode cX12_lists 30 = .ok (.getfield 97, 3) := by decide +kernel
theorem dX12_lists_33 : decode cX12_lists 33 = .ok (.iload_n 3, 1) := by decide +kernel
theorem dX12_lists_34 : decode cX12_lists 34 = .ok (.aload_n 0, 1) := by decide +kernel
theorem dX12_lists_35 : decode cX12_lists 35 = .ok (.getfield 28, 3) := by decide +kernel
theorem dX12_lists_38 : decode cX12_lists 38 = .ok (.iload_n 2, 1) := by decide +kernel
theorem dX12_lists_39 : decode cX12_lists 39 = .ok (.laload, 1) := by decide +kernel
theorem dX12_lists_40 : decode cX12_lists 40 = .ok (.lastore, 1) := by decide +kernel
theorem dX12_lists_41 : decode cX12_lists 41 = .ok (.aload_n 0, 1) := by decide +kernel
theorem dX12_lists_42 : decode cX12_lists 42 = .ok (.getfield 100, 3) := by decide +kernel
theorem dX12_lists_45 : decode cX12_lists 45 = .ok (.iload_n 3, 1) := by decide +kernel
theorem dX12_lists_46 : decode cX12_lists 46 = .ok (.aload_n 0, 1) := by decide +kernel
theorem dX12_lists_47 : decode cX12_lists 47 = .ok (.getfield 32, 3) := by decide +kernel
theorem dX12_lists_50 : decode cX12_lists 50 = .ok (.iload_n 2, 1) := by decide +kernel
theorem dX12_lists_51 : decode cX12_lists 51 = .ok (.laload, 1) := by decide +kernel
theorem dX12_lists_52 : decode cX12_lists 52 = .ok (.lastore, 1) := by decide +kernel
theorem dX12_lists_53 : decode cX12_lists 53 = .ok (.aload_n 0, 1) := by decide +kernel
theorem dX12_lists_54 : decode cX12_lists 54 = .ok (.getfield 103, 3) := by decide +kernel
theorem dX12_lists_57 : decode cX12_lists 57 = .ok (.iload_n 3, 1) := by decide +kernel
theorem dX12_lists_58 : decode cX12_lists 58 = .ok (.aload_n 0, 1) := by decide +kernel
theorem dX12_lists_59 : decode cX12_lists 59 = .ok (.getfield 35, 3) := by decide +kernel
theorem dX12_lists_62 : decode cX12_lists 62 = .ok (.iload_n 2, 1) := by decide +kernel
theorem dX12_lists_63 : decode cX12_lists 63 = .ok (.iaload, 1) := by decide +kernel
theorem dX12_lists_64 : decode cX12_lists 64 = .ok (.iastore, 1) := by decide +kernel
theorem dX12_lists_65 : decode cX12_lists 65 = .ok (.aload_n 0, 1) := by decide +kernel
theorem dX12_lists_66 : decode cX12_lists 66 = .ok (.aload_n 0, 1) := by decide +kernel
theorem dX12_lists_67 : decode cX12_lists 67 = .ok (.getfield 28, 3) := by decide +kernel
theorem dX12_lists_70 : decode cX12_lists 70 = .ok (.iload_n 2, 1) := by decide +kernel
theorem dX12_lists_71 : decode cX12_lists 71 = .ok (.laload, 1) := by decide +kernel
theorem dX12_lists_72 : decode cX12_lists 72 = .ok (.bipush 13, 2) := by decide +kernel
theorem dX12_lists_74 : decode cX12_lists 74 = .ok (.invokevirtual 146, 3) := by decide +kernel
theorem dX12_lists_77 : decode cX12_lists 77 = .ok (.iconst 4, 1) := by decide +kernel
theorem dX12_lists_78 : decode cX12_lists 78 = .ok (.if_icmp .eq 28, 3) := by decide +kernel
theorem dX12_lists_81 : decode cX12_lists 81 = .ok (.aload_n 0, 1) := by decide +kernel
theorem dX12_lists_82 : decode cX12_lists 82 = .ok (.invokevirtual 221, 3) := by decide +kernel
theorem dX12_lists_85 : decode cX12_lists 85 = .ok (.iconst (-1), 1) := by decide +kernel
theorem dX12_lists_86 : decode cX12_lists 86 = .ok (.if_icmp .eq 16, 3) := by decide +kernel
theorem dX12_lists_89 : decode cX12_lists 89 = .ok (.aload_n 0, 1) := by decide +kernel
theorem dX12_lists_90 : decode cX12_lists 90 = .ok (.getfield 25, 3) := by decide +kernel
theorem dX12_lists_93 : decode cX12_lists 93 = .ok (.iload_n 2, 1) := by decide +kernel
theorem dX12_lists_94 : decode cX12_lists 94 = .ok (.iaload, 1) := by decide +kernel
theorem dX12_lists_95 : decode cX12_lists 95 = .ok (.aload_n 0, 1) := by decide +kernel
theorem dX12_lists_96 : decode cX12_lists 96 = .ok (.invokevirtual 221, 3) := by decide +kernel
theorem dX12_lists_99 : decode cX12_lists 99 = .ok (.if_icmp .ne 7, 3) := by decide +kernel
theorem dX12_lists_102 : decode cX12_lists 102 = .ok (.iconst 1, 1) := by decide +kernel
theorem dX12_lists_103 : decode cX12_lists 103 = .ok (.goto 4, 3) := by decide +kernel
theorem dX12_lists_106 : decode cX12_lists 106 = .ok (.iconst 0, 1) := by decide +kernel
theorem dX12_lists_107 : decode cX12_lists 107 = .ok (.istore 4, 2) := by decide +kernel
theorem dX12_lists_109 : decode cX12_lists 109 = .ok (.iload_n 1, 1) := by decide +kernel
theorem dX12_lists_110 : decode cX12_lists 110 = .ok (.iload 4, 2) := by decide +kernel
theorem dX12_lists_112 : decode cX12_lists 112 = .ok (.ifCond .eq 11, 3) := by decide +kernel
theorem dX12_lists_115 : decode cX12_lists 115 = .ok (.aload_n 0, 1) := by decide +kernel
theorem dX12_lists_116 : decode cX12_lists 116 = .ok (.iload_n 2, 1) := by decide +kernel
theorem dX12_lists_117 : decode cX12_lists 117 = .ok (.invokevirtual 208, 3) := by decide +kernel
theorem dX12_lists_120 : decode cX12_lists 120 = .ok (.goto 4, 3) := by decide +kernel
theorem dX12_lists_123 : decode cX12_lists 123 = .ok (.iconst 0, 1) := by decide +kernel
theorem dX12_lists_124 : decode cX12_lists 124 = .ok (.iadd, 1) := by decide +kernel
theorem dX12_lists_125 : decode cX12_lists 125 = .ok (.istore_n 1, 1) := by decide +kernel
theorem dX12_lists_126 : decode cX12_lists 126 = .ok (.iinc 2 1, 3) := by decide +kernel
theorem dX12_lists_129 : decode cX12_lists 129 = .ok (.goto (-125), 3) := by decide +kernel
theorem dX12_lists_132 : decode cX12_lists 132 = .ok (.aload_n 0, 1) := by decide +kernel
theorem dX12_lists_133 : decode cX12_lists 133 = .ok (.getfield 90, 3) := by decide +kernel
theorem dX12_lists_136 : decode cX12_lists 136 = .ok (.aload_n 0, 1) := by decide +kernel
theorem dX12_lists_137 : decode cX12_lists 137 = .ok (.getfield 193, 3) := by decide +kernel
theorem dX12_lists_140 : decode cX12_lists 140 = .ok (.aload_n 0, 1) := by decide +kernel
theorem dX12_lists_141 : decode cX12_lists 141 = .ok (.getfield 154, 3) := by decide +kernel
theorem dX12_lists_144 : decode cX12_lists 144 = .ok (.iastore, 1) := by decide +kernel
theorem dX12_lists_145 : decode cX12_lists 145 = .ok (.iload_n 1, 1) := by decide +kernel
theorem dX12_lists_146 : decode cX12_lists 146 = .ok (.ireturn, 1) := by decide +kernel
theorem dX12_sees_0 : decode cX12_sees 0 = .ok (.aload_n 0, 1) := by decide +kernel
theorem dX12_sees_1 : decode cX12_sees 1 = .ok (.getfield 90, 3) := by decide +kernel
theorem dX12_sees_4 : decode cX12_sees 4 = .ok (.aload_n 0, 1) := by decide +kernel
theorem dX12_sees_5 : decode cX12_sees 5 = .ok (.getfield 193, 3) := by decide +kernel
theorem dX12_sees_8 : decode cX12_sees 8 = .ok (.iaload, 1) := by decide +kernel
theorem dX12_sees_9 : decode cX12_sees 9 = .ok (.aload_n 0, 1) := by decide +kernel
theorem dX12_sees_10 : decode cX12_sees 10 = .ok (.getfield 234, 3) := by decide +kernel
theorem dX12_sees_13 : decode cX12_sees 13 = .ok (.if_icmp .ge 8, 3) := by decide +kernel
theorem dX12_sees_16 : decode cX12_sees 16 = .ok (.aload_n 0, 1) := by decide +kernel
theorem dX12_sees_17 : decode cX12_sees 17 = .ok (.invokevirtual 237, 3) := by decide +kernel
theorem dX12_sees_20 : decode cX12_sees 20 = .ok (.ireturn, 1) := by decide +kernel
theorem dX12_sees_21 : decode cX12_sees 21 = .ok (.iconst 0, 1) := by decide +kernel
theorem dX12_sees_22 : decode cX12_sees 22 = .ok (.istore_n 2, 1) := by decide +kernel
theorem dX12_sees_23 : decode cX12_sees 23 = .ok (.iconst 0, 1) := by decide +kernel
theorem dX12_sees_24 : decode cX12_sees 24 = .ok (.istore_n 3, 1) := by decide +kernel
theorem dX12_sees_25 : decode cX12_sees 25 = .ok (.iload_n 3, 1) := by decide +kernel
theorem dX12_sees_26 : decode cX12_sees 26 = .ok (.iload_n 1, 1) := by decide +kernel
theorem dX12_sees_27 : decode cX12_sees 27 = .ok (.if_icmp .ge 32, 3) := by decide +kernel
theorem dX12_sees_30 : decode cX12_sees 30 = .ok (.aload_n 0, 1) := by decide +kernel
theorem dX12_sees_31 : decode cX12_sees 31 = .ok (.getfield 90, 3) := by decide +kernel
theorem dX12_sees_34 : decode cX12_sees 34 = .ok (.aload_n 0, 1) := by decide +kernel
theorem dX12_sees_35 : decode cX12_sees 35 = .ok (.getfield 193, 3) := by decide +kernel
theorem dX12_sees_38 : decode cX12_sees 38 = .ok (.iaload, 1) := by decide +kernel
theorem dX12_sees_39 : decode cX12_sees 39 = .ok (.aload_n 0, 1) := by decide +kernel
theorem dX12_sees_40 : decode cX12_sees 40 = .ok (.getfield 154, 3) := by decide +kernel
theorem dX12_sees_43 : decode cX12_sees 43 = .ok (.if_icmp .ge 16, 3) := by decide +kernel
theorem dX12_sees_46 : decode cX12_sees 46 = .ok (.iload_n 2, 1) := by decide +kernel
theorem dX12_sees_47 : decode cX12_sees 47 = .ok (.aload_n 0, 1) := by decide +kernel
theorem dX12_sees_48 : decode cX12_sees 48 = .ok (.invokevirtual 240, 3) := by decide +kernel
theorem dX12_sees_51 : decode cX12_sees 51 = .ok (.iadd, 1) := by decide +kernel
theorem dX12_sees_52 : decode cX12_sees 52 = .ok (.istore_n 2, 1) := by decide +kernel
theorem dX12_sees_53 : decode cX12_sees 53 = .ok (.iinc 3 1, 3) := by decide +kernel
theorem dX12_sees_56 : decode cX12_sees 56 = .ok (.goto (-31), 3) := by decide +kernel
theorem dX12_sees_59 : decode cX12_sees 59 = .ok (.iload_n 2, 1) := by decide +kernel
theorem dX12_sees_60 : decode cX12_sees 60 = .ok (.ireturn, 1) := by decide +kernel
theorem dX12_wrote_0 : decode cX12_wrote 0 = .ok (.aload_n 0, 1) := by decide +kernel
theorem dX12_wrote_1 : decode cX12_wrote 1 = .ok (.getfield 118, 3) := by decide +kernel
theorem dX12_wrote_4 : decode cX12_wrote 4 = .ok (.bipush 60, 2) := by decide +kernel
theorem dX12_wrote_6 : decode cX12_wrote 6 = .ok (.aload_n 0, 1) := by decide +kernel
theorem dX12_wrote_7 : decode cX12_wrote 7 = .ok (.getfield 193, 3) := by decide +kernel
theorem dX12_wrote_10 : decode cX12_wrote 10 = .ok (.imul, 1) := by decide +kernel
theorem dX12_wrote_11 : decode cX12_wrote 11 = .ok (.aload_n 0, 1) := by decide +kernel
theorem dX12_wrote_12 : decode cX12_wrote 12 = .ok (.getfield 243, 3) := by decide +kernel
theorem dX12_wrote_15 : decode cX12_wrote 15 = .ok (.iadd, 1) := by decide +kernel
theorem dX12_wrote_16 : decode cX12_wrote 16 = .ok (.aload_n 0, 1) := by decide +kernel
theorem dX12_wrote_17 : decode cX12_wrote 17 = .ok (.getfield 154, 3) := by decide +kernel
theorem dX12_wrote_20 : decode cX12_wrote 20 = .ok (.iload_n 1, 1) := by decide +kernel
theorem dX12_wrote_21 : decode cX12_wrote 21 = .ok (.if_icmp .le 10, 3) := by decide +kernel
theorem dX12_wrote_24 : decode cX12_wrote 24 = .ok (.aload_n 0, 1) := by decide +kernel
theorem dX12_wrote_25 : decode cX12_wrote 25 = .ok (.getfield 154, 3) := by decide +kernel
theorem dX12_wrote_28 : decode cX12_wrote 28 = .ok (.goto 20, 3) := by decide +kernel
theorem dX12_wrote_31 : decode cX12_wrote 31 = .ok (.aload_n 0, 1) := by decide +kernel
theorem dX12_wrote_32 : decode cX12_wrote 32 = .ok (.getfield 118, 3) := by decide +kernel
theorem dX12_wrote_35 : decode cX12_wrote 35 = .ok (.bipush 60, 2) := by decide +kernel
theorem dX12_wrote_37 : decode cX12_wrote 37 = .ok (.aload_n 0, 1) := by decide +kernel
theorem dX12_wrote_38 : decode cX12_wrote 38 = .ok (.getfield 193, 3) := by decide +kernel
theorem dX12_wrote_41 : decode cX12_wrote 41 = .ok (.imul, 1) := by decide +kernel
theorem dX12_wrote_42 : decode cX12_wrote 42 = .ok (.aload_n 0, 1) := by decide +kernel
theorem dX12_wrote_43 : decode cX12_wrote 43 = .ok (.getfield 243, 3) := by decide +kernel
theorem dX12_wrote_46 : decode cX12_wrote 46 = .ok (.iadd, 1) := by decide +kernel
theorem dX12_wrote_47 : decode cX12_wrote 47 = .ok (.iaload, 1) := by decide +kernel
theorem dX12_wrote_48 : decode cX12_wrote 48 = .ok (.iastore, 1) := by decide +kernel
theorem dX12_wrote_49 : decode cX12_wrote 49 = .ok (.return_, 1) := by decide +kernel
theorem dX12_isCurrent_0 : decode cX12_isCurrent 0 = .ok (.aload_n 0, 1) := by decide +kernel
theorem dX12_isCurrent_1 : decode cX12_isCurrent 1 = .ok (.getfield 35, 3) := by decide +kernel
theorem dX12_isCurrent_4 : decode cX12_isCurrent 4 = .ok (.iload_n 1, 1) := by decide +kernel
theorem dX12_isCurrent_5 : decode cX12_isCurrent 5 = .ok (.iaload, 1) := by decide +kernel
theorem dX12_isCurrent_6 : decode cX12_isCurrent 6 = .ok (.aload_n 0, 1) := by decide +kernel
theorem dX12_isCurrent_7 : decode cX12_isCurrent 7 = .ok (.getfield 103, 3) := by decide +kernel
theorem dX12_isCurrent_10 : decode cX12_isCurrent 10 = .ok (.bipush 60, 2) := by decide +kernel
theorem dX12_isCurrent_12 : decode cX12_isCurrent 12 = .ok (.aload_n 0, 1) := by decide +kernel
theorem dX12_isCurrent_13 : decode cX12_isCurrent 13 = .ok (.getfield 193, 3) := by decide +kernel
theorem dX12_isCurrent_16 : decode cX12_isCurrent 16 = .ok (.imul, 1) := by decide +kernel
theorem dX12_isCurrent_17 : decode cX12_isCurrent 17 = .ok (.iload_n 1, 1) := by decide +kernel
theorem dX12_isCurrent_18 : decode cX12_isCurrent 18 = .ok (.iadd, 1) := by decide +kernel
theorem dX12_isCurrent_19 : decode cX12_isCurrent 19 = .ok (.iaload, 1) := by decide +kernel
theorem dX12_isCurrent_20 : decode cX12_isCurrent 20 = .ok (.if_icmp .ne 7, 3) := by decide +kernel
theorem dX12_isCurrent_23 : decode cX12_isCurrent 23 = .ok (.iconst 1, 1) := by decide +kernel
theorem dX12_isCurrent_24 : decode cX12_isCurrent 24 = .ok (.goto 4, 3) := by decide +kernel
theorem dX12_isCurrent_27 : decode cX12_isCurrent 27 = .ok (.iconst 0, 1) := by decide +kernel
theorem dX12_isCurrent_28 : decode cX12_isCurrent 28 = .ok (.ireturn, 1) := by decide +kernel
theorem dX12_writesIt_0 : decode cX12_writesIt 0 = .ok (.aload_n 0, 1) := by decide +kernel
theorem dX12_writesIt_1 : decode cX12_writesIt 1 = .ok (.getfield 154, 3) := by decide +kernel
theorem dX12_writesIt_4 : decode cX12_writesIt 4 = .ok (.istore 6, 2) := by decide +kernel
theorem dX12_writesIt_6 : decode cX12_writesIt 6 = .ok (.aload_n 0, 1) := by decide +kernel
theorem dX12_writesIt_7 : decode cX12_writesIt 7 = .ok (.iload_n 1, 1) := by decide +kernel
theorem dX12_writesIt_8 : decode cX12_writesIt 8 = .ok (.invokevirtual 246, 3) := by decide +kernel
theorem dX12_writesIt_11 : decode cX12_writesIt 11 = .ok (.ifCond .eq 19, 3) := by decide +kernel
theorem dX12_writesIt_14 : decode cX12_writesIt 14 = .ok (.aload_n 0, 1) := by decide +kernel
theorem dX12_writesIt_15 : decode cX12_writesIt 15 = .ok (.iload_n 1, 1) := by decide +kernel
theorem dX12_writesIt_16 : decode cX12_writesIt 16 = .ok (.lload_n 2, 1) := by decide +kernel
theorem dX12_writesIt_17 : decode cX12_writesIt 17 = .ok (.lload 4, 2) := by decide +kernel
theorem dX12_writesIt_19 : decode cX12_writesIt 19 = .ok (.iconst 0, 1) := by decide +kernel
theorem dX12_writesIt_20 : decode cX12_writesIt 20 = .ok (.invokevirtual 185, 3) := by decide +kernel
theorem dX12_writesIt_23 : decode cX12_writesIt 23 = .ok (.ifCond .eq 7, 3) := by decide +kernel
theorem dX12_writesIt_26 : decode cX12_writesIt 26 = .ok (.iconst 1, 1) := by decide +kernel
theorem dX12_writesIt_27 : decode cX12_writesIt 27 = .ok (.goto 4, 3) := by decide +kernel
theorem dX12_writesIt_30 : decode cX12_writesIt 30 = .ok (.iconst 0, 1) := by decide +kernel
theorem dX12_writesIt_31 : decode cX12_writesIt 31 = .ok (.istore 7, 2) := by decide +kernel
theorem dX12_writesIt_33 : decode cX12_writesIt 33 = .ok (.aload_n 0, 1) := by decide +kernel
theorem dX12_writesIt_34 : decode cX12_writesIt 34 = .ok (.iload 6, 2) := by decide +kernel
theorem dX12_writesIt_36 : decode cX12_writesIt 36 = .ok (.invokevirtual 249, 3) := by decide +kernel
theorem dX12_writesIt_39 : decode cX12_writesIt 39 = .ok (.iload 7, 2) := by decide +kernel
theorem dX12_writesIt_41 : decode cX12_writesIt 41 = .ok (.ireturn, 1) := by decide +kernel
theorem dX12_wants_0 : decode cX12_wants 0 = .ok (.aload_n 0, 1) := by decide +kernel
theorem dX12_wants_1 : decode cX12_wants 1 = .ok (.getfield 154, 3) := by decide +kernel
theorem dX12_wants_4 : decode cX12_wants 4 = .ok (.istore_n 3, 1) := by decide +kernel
theorem dX12_wants_5 : decode cX12_wants 5 = .ok (.aload_n 0, 1) := by decide +kernel
theorem dX12_wants_6 : decode cX12_wants 6 = .ok (.iload_n 1, 1) := by decide +kernel
theorem dX12_wants_7 : decode cX12_wants 7 = .ok (.invokevirtual 246, 3) := by decide +kernel
theorem dX12_wants_10 : decode cX12_wants 10 = .ok (.ifCond .eq 18, 3) := by decide +kernel
theorem dX12_wants_13 : decode cX12_wants 13 = .ok (.aload_n 0, 1) := by decide +kernel
theorem dX12_wants_14 : decode cX12_wants 14 = .ok (.iconst 4, 1) := by decide +kernel
theorem dX12_wants_15 : decode cX12_wants 15 = .ok (.iload_n 1, 1) := by decide +kernel
theorem dX12_wants_16 : decode cX12_wants 16 = .ok (.iconst 0, 1) := by decide +kernel
theorem dX12_wants_17 : decode cX12_wants 17 = .ok (.iload_n 2, 1) := by decide +kernel
theorem dX12_wants_18 : decode cX12_wants 18 = .ok (.invokevirtual 253, 3) := by decide +kernel
theorem dX12_wants_21 : decode cX12_wants 21 = .ok (.ifCond .eq 7, 3) := by decide +kernel
theorem dX12_wants_24 : decode cX12_wants 24 = .ok (.iconst 1, 1) := by decide +kernel
theorem dX12_wants_25 : decode cX12_wants 25 = .ok (.goto 4, 3) := by decide +kernel
theorem dX12_wants_28 : decode cX12_wants 28 = .ok (.iconst 0, 1) := by decide +kernel
theorem dX12_wants_29 : decode cX12_wants 29 = .ok (.istore 4, 2) := by decide +kernel
theorem dX12_wants_31 : decode cX12_wants 31 = .ok (.aload_n 0, 1) := by decide +kernel
theorem dX12_wants_32 : decode cX12_wants 32 = .ok (.iload_n 3, 1) := by decide +kernel
theorem dX12_wants_33 : decode cX12_wants 33 = .ok (.invokevirtual 249, 3) := by decide +kernel
theorem dX12_wants_36 : decode cX12_wants 36 = .ok (.iload 4, 2) := by decide +kernel
theorem dX12_wants_38 : decode cX12_wants 38 = .ok (.ireturn, 1) := by decide +kernel
theorem dX12_deletes_0 : decode cX12_deletes 0 = .ok (.aload_n 0, 1) := by decide +kernel
theorem dX12_deletes_1 : decode cX12_deletes 1 = .ok (.iload_n 1, 1) := by decide +kernel
theorem dX12_deletes_2 : decode cX12_deletes 2 = .ok (.aload_n 0, 1) := by decide +kernel
theorem dX12_deletes_3 : decode cX12_deletes 3 = .ok (.iload_n 1, 1) := by decide +kernel
theorem dX12_deletes_4 : decode cX12_deletes 4 = .ok (.aload_n 0, 1) := by decide +kernel
theorem dX12_deletes_5 : decode cX12_deletes 5 = .ok (.getfield 28, 3) := by decide +kernel
theorem dX12_deletes_8 : decode cX12_deletes 8 = .ok (.iload_n 1, 1) := by decide +kernel
theorem dX12_deletes_9 : decode cX12_deletes 9 = .ok (.laload, 1) := by decide +kernel
theorem dX12_deletes_10 : decode cX12_deletes 10 = .ok (.iconst 2, 1) := by decide +kernel
theorem dX12_deletes_11 : decode cX12_deletes 11 = .ok (.invokevirtual 257, 3) := by decide +kernel
theorem dX12_deletes_14 : decode cX12_deletes 14 = .ok (.aload_n 0, 1) := by decide +kernel
theorem dX12_deletes_15 : decode cX12_deletes 15 = .ok (.getfield 32, 3) := by decide +kernel
theorem dX12_deletes_18 : decode cX12_deletes 18 = .ok (.iload_n 1, 1) := by decide +kernel
theorem dX12_deletes_19 : decode cX12_deletes 19 = .ok (.laload, 1) := by decide +kernel
theorem dX12_deletes_20 : decode cX12_deletes 20 = .ok (.invokevirtual 261, 3) := by decide +kernel
theorem dX12_deletes_23 : decode cX12_deletes 23 = .ok (.ireturn, 1) := by decide +kernel
theorem dX12_makesOne_0 : decode cX12_makesOne 0 = .ok (.aload_n 0, 1) := by decide +kernel
theorem dX12_makesOne_1 : decode cX12_makesOne 1 = .ok (.getfield 154, 3) := by decide +kernel
theorem dX12_makesOne_4 : decode cX12_makesOne 4 = .ok (.istore 4, 2) := by decide +kernel
theorem dX12_makesOne_6 : decode cX12_makesOne 6 = .ok (.aload_n 0, 1) := by decide +kernel
theorem dX12_makesOne_7 : decode cX12_makesOne 7 = .ok (.iconst 4, 1) := by decide +kernel
theorem dX12_makesOne_8 : decode cX12_makesOne 8 = .ok (.iload_n 1, 1) := by decide +kernel
theorem dX12_makesOne_9 : decode cX12_makesOne 9 = .ok (.iload_n 2, 1) := by decide +kernel
theorem dX12_makesOne_10 : decode cX12_makesOne 10 = .ok (.iload_n 3, 1) := by decide +kernel
theorem dX12_makesOne_11 : decode cX12_makesOne 11 = .ok (.invokevirtual 265, 3) := by decide +kernel
theorem dX12_makesOne_14 : decode cX12_makesOne 14 = .ok (.iconst (-1), 1) := by decide +kernel
theorem dX12_makesOne_15 : decode cX12_makesOne 15 = .ok (.if_icmp .eq 7, 3) := by decide +kernel
theorem dX12_makesOne_18 : decode cX12_makesOne 18 = .ok (.iconst 1, 1) := by decide +kernel
theorem dX12_makesOne_19 : decode cX12_makesOne 19 = .ok (.goto 4, 3) := by decide +kernel
theorem dX12_makesOne_22 : decode cX12_makesOne 22 = .ok (.iconst 0, 1) := by decide +kernel
theorem dX12_makesOne_23 : decode cX12_makesOne 23 = .ok (.istore 5, 2) := by decide +kernel
theorem dX12_makesOne_25 : decode cX12_makesOne 25 = .ok (.aload_n 0, 1) := by decide +kernel
theorem dX12_makesOne_26 : decode cX12_makesOne 26 = .ok (.iload 4, 2) := by decide +kernel
theorem dX12_makesOne_28 : decode cX12_makesOne 28 = .ok (.invokevirtual 249, 3) := by decide +kernel
theorem dX12_makesOne_31 : decode cX12_makesOne 31 = .ok (.iload 5, 2) := by decide +kernel
theorem dX12_makesOne_33 : decode cX12_makesOne 33 = .ok (.ireturn, 1) := by decide +kernel
theorem dX12_isOwned_0 : decode cX12_isOwned 0 = .ok (.aload_n 0, 1) := by decide +kernel
theorem dX12_isOwned_1 : decode cX12_isOwned 1 = .ok (.iload_n 1, 1) := by decide +kernel
theorem dX12_isOwned_2 : decode cX12_isOwned 2 = .ok (.iload_n 2, 1) := by decide +kernel
theorem dX12_isOwned_3 : decode cX12_isOwned 3 = .ok (.invokevirtual 269, 3) := by decide +kernel
theorem dX12_isOwned_6 : decode cX12_isOwned 6 = .ok (.ifCond .eq 20, 3) := by decide +kernel
theorem dX12_isOwned_9 : decode cX12_isOwned 9 = .ok (.aload_n 0, 1) := by decide +kernel
theorem dX12_isOwned_10 : decode cX12_isOwned 10 = .ok (.aload_n 0, 1) := by decide +kernel
theorem dX12_isOwned_11 : decode cX12_isOwned 11 = .ok (.iload_n 1, 1) := by decide +kernel
theorem dX12_isOwned_12 : decode cX12_isOwned 12 = .ok (.invokevirtual 196, 3) := by decide +kernel
theorem dX12_isOwned_15 : decode cX12_isOwned 15 = .ok (.invokevirtual 214, 3) := by decide +kernel
theorem dX12_isOwned_18 : decode cX12_isOwned 18 = .ok (.iload_n 3, 1) := by decide +kernel
theorem dX12_isOwned_19 : decode cX12_isOwned 19 = .ok (.if_icmp .ne 7, 3) := by decide +kernel
theorem dX12_isOwned_22 : decode cX12_isOwned 22 = .ok (.iconst 1, 1) := by decide +kernel
theorem dX12_isOwned_23 : decode cX12_isOwned 23 = .ok (.goto 4, 3) := by decide +kernel
theorem dX12_isOwned_26 : decode cX12_isOwned 26 = .ok (.iconst 0, 1) := by decide +kernel
theorem dX12_isOwned_27 : decode cX12_isOwned 27 = .ok (.ireturn, 1) := by decide +kernel
theorem dX12_pods_0 : decode cX12_pods 0 = .ok (.iconst 0, 1) := by decide +kernel
theorem dX12_pods_1 : decode cX12_pods 1 = .ok (.istore_n 3, 1) := by decide +kernel
theorem dX12_pods_2 : decode cX12_pods 2 = .ok (.iconst 0, 1) := by decide +kernel
theorem dX12_pods_3 : decode cX12_pods 3 = .ok (.istore 4, 2) := by decide +kernel
theorem dX12_pods_5 : decode cX12_pods 5 = .ok (.iload 4, 2) := by decide +kernel
theorem dX12_pods_7 : decode cX12_pods 7 = .ok (.aload_n 0, 1) := by decide +kernel
theorem dX12_pods_8 : decode cX12_pods 8 = .ok (.getfield 137, 3) := by decide +kernel
theorem dX12_pods_11 : decode cX12_pods 11 = .ok (.if_icmp .ge 44, 3) := by decide +kernel
theorem dX12_pods_14 : decode cX12_pods 14 = .ok (.iload_n 3, 1) := by decide +kernel
theorem dX12_pods_15 : decode cX12_pods 15 = .ok (.aload_n 0, 1) := by decide +kernel
theorem dX12_pods_16 : decode cX12_pods 16 = .ok (.iload 4, 2) := by decide +kernel
theorem dX12_pods_18 : decode cX12_pods 18 = .ok (.iconst 2, 1) := by decide +kernel
theorem dX12_pods_19 : decode cX12_pods 19 = .ok (.iload_n 1, 1) := by decide +kernel
theorem dX12_pods_20 : decode cX12_pods 20 = .ok (.invokevirtual 273, 3) := by decide +kernel
theorem dX12_pods_23 : decode cX12_pods 23 = .ok (.ifCond .eq 23, 3) := by decide +kernel
theorem dX12_pods_26 : decode cX12_pods 26 = .ok (.iload_n 2, 1) := by decide +kernel
theorem dX12_pods_27 : decode cX12_pods 27 = .ok (.aload_n 0, 1) := by decide +kernel
theorem dX12_pods_28 : decode cX12_pods 28 = .ok (.iload 4, 2) := by decide +kernel
theorem dX12_pods_30 : decode cX12_pods 30 = .ok (.bipush 16, 2) := by decide +kernel
theorem dX12_pods_32 : decode cX12_pods 32 = .ok (.invokevirtual 204, 3) := by decide +kernel
theorem dX12_pods_35 : decode cX12_pods 35 = .ok (.ishr, 1) := by decide +kernel
theorem dX12_pods_36 : decode cX12_pods 36 = .ok (.iconst 1, 1) := by decide +kernel
theorem dX12_pods_37 : decode cX12_pods 37 = .ok (.iand, 1) := by decide +kernel
theorem dX12_pods_38 : decode cX12_pods 38 = .ok (.iconst 1, 1) := by decide +kernel
theorem dX12_pods_39 : decode cX12_pods 39 = .ok (.if_icmp .ne 7, 3) := by decide +kernel
theorem dX12_pods_42 : decode cX12_pods 42 = .ok (.iconst 1, 1) := by decide +kernel
theorem dX12_pods_43 : decode cX12_pods 43 = .ok (.goto 4, 3) := by decide +kernel
theorem dX12_pods_46 : decode cX12_pods 46 = .ok (.iconst 0, 1) := by decide +kernel
theorem dX12_pods_47 : decode cX12_pods 47 = .ok (.iadd, 1) := by decide +kernel
theorem dX12_pods_48 : decode cX12_pods 48 = .ok (.istore_n 3, 1) := by decide +kernel
theorem dX12_pods_49 : decode cX12_pods 49 = .ok (.iinc 4 1, 3) := by decide +kernel
theorem dX12_pods_52 : decode cX12_pods 52 = .ok (.goto (-47), 3) := by decide +kernel
theorem dX12_pods_55 : decode cX12_pods 55 = .ok (.iload_n 3, 1) := by decide +kernel
theorem dX12_pods_56 : decode cX12_pods 56 = .ok (.ireturn, 1) := by decide +kernel
theorem dX12_need_0 : decode cX12_need 0 = .ok (.iconst 1, 1) := by decide +kernel
theorem dX12_need_1 : decode cX12_need 1 = .ok (.iload_n 0, 1) := by decide +kernel
theorem dX12_need_2 : decode cX12_need 2 = .ok (.iconst 3, 1) := by decide +kernel
theorem dX12_need_3 : decode cX12_need 3 = .ok (.irem, 1) := by decide +kernel
theorem dX12_need_4 : decode cX12_need 4 = .ok (.iadd, 1) := by decide +kernel
theorem dX12_need_5 : decode cX12_need 5 = .ok (.ireturn, 1) := by decide +kernel
theorem dX12_used_0 : decode cX12_used 0 = .ok (.iconst 0, 1) := by decide +kernel
theorem dX12_used_1 : decode cX12_used 1 = .ok (.istore_n 3, 1) := by decide +kernel
theorem dX12_used_2 : decode cX12_used 2 = .ok (.iconst 0, 1) := by decide +kernel
theorem dX12_used_3 : decode cX12_used 3 = .ok (.istore 4, 2) := by decide +kernel
theorem dX12_used_5 : decode cX12_used 5 = .ok (.iload 4, 2) := by decide +kernel
theorem dX12_used_7 : decode cX12_used 7 = .ok (.aload_n 0, 1) := by decide +kernel
theorem dX12_used_8 : decode cX12_used 8 = .ok (.getfield 137, 3) := by decide +kernel
theorem dX12_used_11 : decode cX12_used 11 = .ok (.if_icmp .ge 111, 3) := by decide +kernel
theorem dX12_used_14 : decode cX12_used 14 = .ok (.aload_n 0, 1) := by decide +kernel
theorem dX12_used_15 : decode cX12_used 15 = .ok (.iload 4, 2) := by decide +kernel
theorem dX12_used_17 : decode cX12_used 17 = .ok (.invokevirtual 211, 3) := by decide +kernel
theorem dX12_used_20 : decode cX12_used 20 = .ok (.ifCond .ne 32, 3) := by decide +kernel
theorem dX12_used_23 : decode cX12_used 23 = .ok (.aload_n 0, 1) := by decide +kernel
theorem dX12_used_24 : decode cX12_used 24 = .ok (.getfield 25, 3) := by decide +kernel
theorem dX12_used_27 : decode cX12_used 27 = .ok (.iload 4, 2) := by decide +kernel
theorem dX12_used_29 : decode cX12_used 29 = .ok (.iaload, 1) := by decide +kernel
theorem dX12_used_30 : decode cX12_used 30 = .ok (.iconst 2, 1) := by decide +kernel
theorem dX12_used_31 : decode cX12_used 31 = .ok (.if_icmp .ne 21, 3) := by decide +kernel
theorem dX12_used_34 : decode cX12_used 34 = .ok (.aload_n 0, 1) := by decide +kernel
theorem dX12_used_35 : decode cX12_used 35 = .ok (.iload 4, 2) := by decide +kernel
theorem dX12_used_37 : decode cX12_used 37 = .ok (.bipush 15, 2) := by decide +kernel
theorem dX12_used_39 : decode cX12_used 39 = .ok (.invokevirtual 204, 3) := by decide +kernel
theorem dX12_used_42 : decode cX12_used 42 = .ok (.iload_n 1, 1) := by decide +kernel
theorem dX12_used_43 : decode cX12_used 43 = .ok (.iconst 1, 1) := by decide +kernel
theorem dX12_used_44 : decode cX12_used 44 = .ok (.iadd, 1) := by decide +kernel
theorem dX12_used_45 : decode cX12_used 45 = .ok (.if_icmp .ne 7, 3) := by decide +kernel
theorem dX12_used_48 : decode cX12_used 48 = .ok (.iconst 1, 1) := by decide +kernel
theorem dX12_used_49 : decode cX12_used 49 = .ok (.goto 4, 3) := by decide +kernel
theorem dX12_used_52 : decode cX12_used 52 = .ok (.iconst 0, 1) := by decide +kernel
theorem dX12_used_53 : decode cX12_used 53 = .ok (.istore 5, 2) := by decide +kernel
theorem dX12_used_55 : decode cX12_used 55 = .ok (.iload 5, 2) := by decide +kernel
theorem dX12_used_57 : decode cX12_used 57 = .ok (.ifCond .eq 34, 3) := by decide +kernel
theorem dX12_used_60 : decode cX12_used 60 = .ok (.aload_n 0, 1) := by decide +kernel
theorem dX12_used_61 : decode cX12_used 61 = .ok (.iload 4, 2) := by decide +kernel
theorem dX12_used_63 : decode cX12_used 63 = .ok (.bipush 16, 2) := by decide +kernel
theorem dX12_used_65 : decode cX12_used 65 = .ok (.invokevirtual 204, 3) := by decide +kernel
theorem dX12_used_68 : decode cX12_used 68 = .ok (.iconst 1, 1) := by decide +kernel
theorem dX12_used_69 : decode cX12_used 69 = .ok (.if_icmp .eq 18, 3) := by decide +kernel
theorem dX12_used_72 : decode cX12_used 72 = .ok (.iload_n 2, 1) := by decide +kernel
theorem dX12_used_73 : decode cX12_used 73 = .ok (.ifCond .ne 18, 3) := by decide +kernel
theorem dX12_used_76 : decode cX12_used 76 = .ok (.aload_n 0, 1) := by decide +kernel
theorem dX12_used_77 : decode cX12_used 77 = .ok (.iload 4, 2) := by decide +kernel
theorem dX12_used_79 : decode cX12_used 79 = .ok (.bipush 16, 2) := by decide +kernel
theorem dX12_used_81 : decode cX12_used 81 = .ok (.invokevirtual 204, 3) := by decide +kernel
theorem dX12_used_84 : decode cX12_used 84 = .ok (.ifCond .ne 7, 3) := by decide +kernel
theorem dX12_used_87 : decode cX12_used 87 = .ok (.iconst 1, 1) := by decide +kernel
theorem dX12_used_88 : decode cX12_used 88 = .ok (.goto 4, 3) := by decide +kernel
theorem dX12_used_91 : decode cX12_used 91 = .ok (.iconst 0, 1) := by decide +kernel
theorem dX12_used_92 : decode cX12_used 92 = .ok (.istore 6, 2) := by decide +kernel
theorem dX12_used_94 : decode cX12_used 94 = .ok (.iload_n 3, 1) := by decide +kernel
theorem dX12_used_95 : decode cX12_used 95 = .ok (.iload 6, 2) := by decide +kernel
theorem dX12_used_97 : decode cX12_used 97 = .ok (.ifCond .eq 16, 3) := by decide +kernel
theorem dX12_used_100 : decode cX12_used 100 = .ok (.aload_n 0, 1) := by decide +kernel
theorem dX12_used_101 : decode cX12_used 101 = .ok (.iload 4, 2) := by decide +kernel
theorem dX12_used_103 : decode cX12_used 103 = .ok (.iconst 1, 1) := by decide +kernel
theorem dX12_used_104 : decode cX12_used 104 = .ok (.invokevirtual 204, 3) := by decide +kernel
theorem dX12_used_107 : decode cX12_used 107 = .ok (.invokestatic 276, 3) := by decide +kernel
theorem dX12_used_110 : decode cX12_used 110 = .ok (.goto 4, 3) := by decide +kernel
theorem dX12_used_113 : decode cX12_used 113 = .ok (.iconst 0, 1) := by decide +kernel
theorem dX12_used_114 : decode cX12_used 114 = .ok (.iadd, 1) := by decide +kernel
theorem dX12_used_115 : decode cX12_used 115 = .ok (.istore_n 3, 1) := by decide +kernel
theorem dX12_used_116 : decode cX12_used 116 = .ok (.iinc 4 1, 3) := by decide +kernel
theorem dX12_used_119 : decode cX12_used 119 = .ok (.goto (-114), 3) := by decide +kernel
theorem dX12_used_122 : decode cX12_used 122 = .ok (.iload_n 3, 1) := by decide +kernel
theorem dX12_used_123 : decode cX12_used 123 = .ok (.ireturn, 1) := by decide +kernel
theorem dX12_setOf_0 : decode cX12_setOf 0 = .ok (.iconst (-1), 1) := by decide +kernel
theorem dX12_setOf_1 : decode cX12_setOf 1 = .ok (.istore 4, 2) := by decide +kernel
theorem dX12_setOf_3 : decode cX12_setOf 3 = .ok (.aload_n 0, 1) := by decide +kernel
theorem dX12_setOf_4 : decode cX12_setOf 4 = .ok (.getfield 137, 3) := by decide +kernel
theorem dX12_setOf_7 : decode cX12_setOf 7 = .ok (.iconst 1, 1) := by decide +kernel
theorem dX12_setOf_8 : decode cX12_setOf 8 = .ok (.isub, 1) := by decide +kernel
theorem dX12_setOf_9 : decode cX12_setOf 9 = .ok (.istore 5, 2) := by decide +kernel
theorem dX12_setOf_11 : decode cX12_setOf 11 = .ok (.iload 5, 2) := by decide +kernel
theorem dX12_setOf_13 : decode cX12_setOf 13 = .ok (.ifCond .lt 88, 3) := by decide +kernel
theorem dX12_setOf_16 : decode cX12_setOf 16 = .ok (.aload_n 0, 1) := by decide +kernel
theorem dX12_setOf_17 : decode cX12_setOf 17 = .ok (.iload 5, 2) := by decide +kernel
theorem dX12_setOf_19 : decode cX12_setOf 19 = .ok (.iconst 1, 1) := by decide +kernel
theorem dX12_setOf_20 : decode cX12_setOf 20 = .ok (.iload_n 1, 1) := by decide +kernel
theorem dX12_setOf_21 : decode cX12_setOf 21 = .ok (.invokevirtual 273, 3) := by decide +kernel
theorem dX12_setOf_24 : decode cX12_setOf 24 = .ok (.ifCond .eq 13, 3) := by decide +kernel
theorem dX12_setOf_27 : decode cX12_setOf 27 = .ok (.iload 5, 2) := by decide +kernel
theorem dX12_setOf_29 : decode cX12_setOf 29 = .ok (.iload_n 3, 1) := by decide +kernel
theorem dX12_setOf_30 : decode cX12_setOf 30 = .ok (.if_icmp .eq 7, 3) := by decide +kernel
theorem dX12_setOf_33 : decode cX12_setOf 33 = .ok (.iconst 1, 1) := by decide +kernel
theorem dX12_setOf_34 : decode cX12_setOf 34 = .ok (.goto 4, 3) := by decide +kernel
theorem dX12_setOf_37 : decode cX12_setOf 37 = .ok (.iconst 0, 1) := by decide +kernel
theorem dX12_setOf_38 : decode cX12_setOf 38 = .ok (.istore 6, 2) := by decide +kernel
theorem dX12_setOf_40 : decode cX12_setOf 40 = .ok (.iload 6, 2) := by decide +kernel
theorem dX12_setOf_42 : decode cX12_setOf 42 = .ok (.ifCond .eq 36, 3) := by decide +kernel
theorem dX12_setOf_45 : decode cX12_setOf 45 = .ok (.iload_n 2, 1) := by decide +kernel
theorem dX12_setOf_46 : decode cX12_setOf 46 = .ok (.iconst (-1), 1) := by decide +kernel
theorem dX12_setOf_47 : decode cX12_setOf 47 = .ok (.if_icmp .ne 16, 3) := by decide +kernel
theorem dX12_setOf_50 : decode cX12_setOf 50 = .ok (.aload_n 0, 1) := by decide +kernel
theorem dX12_setOf_51 : decode cX12_setOf 51 = .ok (.iload 5, 2) := by decide +kernel
theorem dX12_setOf_53 : decode cX12_setOf 53 = .ok (.iconst 0, 1) := by decide +kernel
theorem dX12_setOf_54 : decode cX12_setOf 54 = .ok (.invokevirtual 204, 3) := by decide +kernel
theorem dX12_setOf_57 : decode cX12_setOf 57 = .ok (.ifCond .le 21, 3) := by decide +kernel
theorem dX12_setOf_60 : decode cX12_setOf 60 = .ok (.goto 14, 3) := by decide +kernel
theorem dX12_setOf_63 : decode cX12_setOf 63 = .ok (.aload_n 0, 1) := by decide +kernel
theorem dX12_setOf_64 : decode cX12_setOf 64 = .ok (.iload 5, 2) := by decide +kernel
theorem dX12_setOf_66 : decode cX12_setOf 66 = .ok (.iconst 1, 1) := by decide +kernel
theorem dX12_setOf_67 : decode cX12_setOf 67 = .ok (.invokevirtual 204, 3) := by decide +kernel
theorem dX12_setOf_70 : decode cX12_setOf 70 = .ok (.iload_n 2, 1) := by decide +kernel
theorem dX12_setOf_71 : decode cX12_setOf 71 = .ok (.if_icmp .ne 7, 3) := by decide +kernel
theorem dX12_setOf_74 : decode cX12_setOf 74 = .ok (.iconst 1, 1) := by decide +kernel
theorem dX12_setOf_75 : decode cX12_setOf 75 = .ok (.goto 4, 3) := by decide +kernel
theorem dX12_setOf_78 : decode cX12_setOf 78 = .ok (.iconst 0, 1) := by decide +kernel
theorem dX12_setOf_79 : decode cX12_setOf 79 = .ok (.istore 7, 2) := by decide +kernel
theorem dX12_setOf_81 : decode cX12_setOf 81 = .ok (.iload 7, 2) := by decide +kernel
theorem dX12_setOf_83 : decode cX12_setOf 83 = .ok (.ifCond .eq 8, 3) := by decide +kernel
theorem dX12_setOf_86 : decode cX12_setOf 86 = .ok (.iload 5, 2) := by decide +kernel
theorem dX12_setOf_88 : decode cX12_setOf 88 = .ok (.goto 5, 3) := by decide +kernel
theorem dX12_setOf_91 : decode cX12_setOf 91 = .ok (.iload 4, 2) := by decide +kernel
theorem dX12_setOf_93 : decode cX12_setOf 93 = .ok (.istore 4, 2) := by decide +kernel
theorem dX12_setOf_95 : decode cX12_setOf 95 = .ok (.iinc 5 (-1), 3) := by decide +kernel
theorem dX12_setOf_98 : decode cX12_setOf 98 = .ok (.goto (-87), 3) := by decide +kernel
theorem dX12_setOf_101 : decode cX12_setOf 101 = .ok (.iload 4, 2) := by decide +kernel
theorem dX12_setOf_103 : decode cX12_setOf 103 = .ok (.ireturn, 1) := by decide +kernel
theorem dX12_together_0 : decode cX12_together 0 = .ok (.iconst 0, 1) := by decide +kernel
theorem dX12_together_1 : decode cX12_together 1 = .ok (.istore_n 3, 1) := by decide +kernel
theorem dX12_together_2 : decode cX12_together 2 = .ok (.iconst 0, 1) := by decide +kernel
theorem dX12_together_3 : decode cX12_together 3 = .ok (.istore 4, 2) := by decide +kernel
theorem dX12_together_5 : decode cX12_together 5 = .ok (.iload 4, 2) := by decide +kernel
theorem dX12_together_7 : decode cX12_together 7 = .ok (.aload_n 0, 1) := by decide +kernel
theorem dX12_together_8 : decode cX12_together 8 = .ok (.getfield 137, 3) := by decide +kernel
theorem dX12_together_11 : decode cX12_together 11 = .ok (.if_icmp .ge 44, 3) := by decide +kernel
theorem dX12_together_14 : decode cX12_together 14 = .ok (.aload_n 0, 1) := by decide +kernel
theorem dX12_together_15 : decode cX12_together 15 = .ok (.iload 4, 2) := by decide +kernel
theorem dX12_together_17 : decode cX12_together 17 = .ok (.iconst 1, 1) := by decide +kernel
theorem dX12_together_18 : decode cX12_together 18 = .ok (.iload_n 1, 1) := by decide +kernel
theorem dX12_together_19 : decode cX12_together 19 = .ok (.invokevirtual 273, 3) := by decide +kernel
theorem dX12_together_22 : decode cX12_together 22 = .ok (.ifCond .eq 27, 3) := by decide +kernel
theorem dX12_together_25 : decode cX12_together 25 = .ok (.iload_n 3, 1) := by decide +kernel
theorem dX12_together_26 : decode cX12_together 26 = .ok (.iload_n 2, 1) := by decide +kernel
theorem dX12_together_27 : decode cX12_together 27 = .ok (.ifCond .eq 13, 3) := by decide +kernel
theorem dX12_together_30 : decode cX12_together 30 = .ok (.aload_n 0, 1) := by decide +kernel
theorem dX12_together_31 : decode cX12_together 31 = .ok (.iload 4, 2) := by decide +kernel
theorem dX12_together_33 : decode cX12_together 33 = .ok (.iconst 2, 1) := by decide +kernel
theorem dX12_together_34 : decode cX12_together 34 = .ok (.invokevirtual 279, 3) := by decide +kernel
theorem dX12_together_37 : decode cX12_together 37 = .ok (.goto 10, 3) := by decide +kernel
theorem dX12_together_40 : decode cX12_together 40 = .ok (.aload_n 0, 1) := by decide +kernel
theorem dX12_together_41 : decode cX12_together 41 = .ok (.iload 4, 2) := by decide +kernel
theorem dX12_together_43 : decode cX12_together 43 = .ok (.iconst 0, 1) := by decide +kernel
theorem dX12_together_44 : decode cX12_together 44 = .ok (.invokevirtual 204, 3) := by decide +kernel
theorem dX12_together_47 : decode cX12_together 47 = .ok (.iadd, 1) := by decide +kernel
theorem dX12_together_48 : decode cX12_together 48 = .ok (.istore_n 3, 1) := by decide +kernel
theorem dX12_together_49 : decode cX12_together 49 = .ok (.iinc 4 1, 3) := by decide +kernel
theorem dX12_together_52 : decode cX12_together 52 = .ok (.goto (-47), 3) := by decide +kernel
theorem dX12_together_55 : decode cX12_together 55 = .ok (.iload_n 3, 1) := by decide +kernel
theorem dX12_together_56 : decode cX12_together 56 = .ok (.ireturn, 1) := by decide +kernel
theorem dX12_deploys_0 : decode cX12_deploys 0 = .ok (.aload_n 0, 1) := by decide +kernel
theorem dX12_deploys_1 : decode cX12_deploys 1 = .ok (.aload_n 0, 1) := by decide +kernel
theorem dX12_deploys_2 : decode cX12_deploys 2 = .ok (.getfield 243, 3) := by decide +kernel
theorem dX12_deploys_5 : decode cX12_deploys 5 = .ok (.iconst 0, 1) := by decide +kernel
theorem dX12_deploys_6 : decode cX12_deploys 6 = .ok (.invokevirtual 269, 3) := by decide +kernel
theorem dX12_deploys_9 : decode cX12_deploys 9 = .ok (.ifCond .eq 16, 3) := by decide +kernel
theorem dX12_deploys_12 : decode cX12_deploys 12 = .ok (.aload_n 0, 1) := by decide +kernel
theorem dX12_deploys_13 : decode cX12_deploys 13 = .ok (.aload_n 0, 1) := by decide +kernel
theorem dX12_deploys_14 : decode cX12_deploys 14 = .ok (.getfield 243, 3) := by decide +kernel
theorem dX12_deploys_17 : decode cX12_deploys 17 = .ok (.iconst 4, 1) := by decide +kernel
theorem dX12_deploys_18 : decode cX12_deploys 18 = .ok (.invokevirtual 204, 3) := by decide +kernel
theorem dX12_deploys_21 : decode cX12_deploys 21 = .ok (.iconst 1, 1) := by decide +kernel
theorem dX12_deploys_22 : decode cX12_deploys 22 = .ok (.if_icmp .ne 5, 3) := by decide +kernel
theorem dX12_deploys_25 : decode cX12_deploys 25 = .ok (.iconst 1, 1) := by decide +kernel
theorem dX12_deploys_26 : decode cX12_deploys 26 = .ok (.ireturn, 1) := by decide +kernel
theorem dX12_deploys_27 : decode cX12_deploys 27 = .ok (.aload_n 0, 1) := by decide +kernel
theorem dX12_deploys_28 : decode cX12_deploys 28 = .ok (.aload_n 0, 1) := by decide +kernel
theorem dX12_deploys_29 : decode cX12_deploys 29 = .ok (.getfield 243, 3) := by decide +kernel
theorem dX12_deploys_32 : decode cX12_deploys 32 = .ok (.iconst 0, 1) := by decide +kernel
theorem dX12_deploys_33 : decode cX12_deploys 33 = .ok (.invokevirtual 204, 3) := by decide +kernel
theorem dX12_deploys_36 : decode cX12_deploys 36 = .ok (.istore_n 1, 1) := by decide +kernel
theorem dX12_deploys_37 : decode cX12_deploys 37 = .ok (.aload_n 0, 1) := by decide +kernel
theorem dX12_deploys_38 : decode cX12_deploys 38 = .ok (.aload_n 0, 1) := by decide +kernel
theorem dX12_deploys_39 : decode cX12_deploys 39 = .ok (.getfield 243, 3) := by decide +kernel
theorem dX12_deploys_42 : decode cX12_deploys 42 = .ok (.aload_n 0, 1) := by decide +kernel
theorem dX12_deploys_43 : decode cX12_deploys 43 = .ok (.aload_n 0, 1) := by decide +kernel
theorem dX12_deploys_44 : decode cX12_deploys 44 = .ok (.getfield 243, 3) := by decide +kernel
theorem dX12_deploys_47 : decode cX12_deploys 47 = .ok (.iconst 1, 1) := by decide +kernel
theorem dX12_deploys_48 : decode cX12_deploys 48 = .ok (.invokevirtual 204, 3) := by decide +kernel
theorem dX12_deploys_51 : decode cX12_deploys 51 = .ok (.iconst (-1), 1) := by decide +kernel
theorem dX12_deploys_52 : decode cX12_deploys 52 = .ok (.invokevirtual 282, 3) := by decide +kernel
theorem dX12_deploys_55 : decode cX12_deploys 55 = .ok (.istore_n 2, 1) := by decide +kernel
theorem dX12_deploys_56 : decode cX12_deploys 56 = .ok (.iload_n 2, 1) := by decide +kernel
theorem dX12_deploys_57 : decode cX12_deploys 57 = .ok (.iconst (-1), 1) := by decide +kernel
theorem dX12_deploys_58 : decode cX12_deploys 58 = .ok (.if_icmp .ne 22, 3) := by decide +kernel
theorem dX12_deploys_61 : decode cX12_deploys 61 = .ok (.aload_n 0, 1) := by decide +kernel
theorem dX12_deploys_62 : decode cX12_deploys 62 = .ok (.iconst 1, 1) := by decide +kernel
theorem dX12_deploys_63 : decode cX12_deploys 63 = .ok (.aload_n 0, 1) := by decide +kernel
theorem dX12_deploys_64 : decode cX12_deploys 64 = .ok (.getfield 243, 3) := by decide +kernel
theorem dX12_deploys_67 : decode cX12_deploys 67 = .ok (.aload_n 0, 1) := by decide +kernel
theorem dX12_deploys_68 : decode cX12_deploys 68 = .ok (.aload_n 0, 1) := by decide +kernel
theorem dX12_deploys_69 : decode cX12_deploys 69 = .ok (.getfield 243, 3) := by decide +kernel
theorem dX12_deploys_72 : decode cX12_deploys 72 = .ok (.iconst 1, 1) := by decide +kernel
theorem dX12_deploys_73 : decode cX12_deploys 73 = .ok (.invokevirtual 204, 3) := by decide +kernel
theorem dX12_deploys_76 : decode cX12_deploys 76 = .ok (.invokevirtual 286, 3) := by decide +kernel
theorem dX12_deploys_79 : decode cX12_deploys 79 = .ok (.ireturn, 1) := by decide +kernel
theorem dX12_deploys_80 : decode cX12_deploys 80 = .ok (.aload_n 0, 1) := by decide +kernel
theorem dX12_deploys_81 : decode cX12_deploys 81 = .ok (.iload_n 2, 1) := by decide +kernel
theorem dX12_deploys_82 : decode cX12_deploys 82 = .ok (.iconst 0, 1) := by decide +kernel
theorem dX12_deploys_83 : decode cX12_deploys 83 = .ok (.invokevirtual 204, 3) := by decide +kernel
theorem dX12_deploys_86 : decode cX12_deploys 86 = .ok (.iload_n 1, 1) := by decide +kernel
theorem dX12_deploys_87 : decode cX12_deploys 87 = .ok (.if_icmp .le 10, 3) := by decide +kernel
theorem dX12_deploys_90 : decode cX12_deploys 90 = .ok (.aload_n 0, 1) := by decide +kernel
theorem dX12_deploys_91 : decode cX12_deploys 91 = .ok (.iload_n 2, 1) := by decide +kernel
theorem dX12_deploys_92 : decode cX12_deploys 92 = .ok (.iload_n 1, 1) := by decide +kernel
theorem dX12_deploys_93 : decode cX12_deploys 93 = .ok (.invokevirtual 289, 3) := by decide +kernel
theorem dX12_deploys_96 : decode cX12_deploys 96 = .ok (.ireturn, 1) := by decide +kernel
theorem dX12_deploys_97 : decode cX12_deploys 97 = .ok (.iload_n 1, 1) := by decide +kernel
theorem dX12_deploys_98 : decode cX12_deploys 98 = .ok (.aload_n 0, 1) := by decide +kernel
theorem dX12_deploys_99 : decode cX12_deploys 99 = .ok (.aload_n 0, 1) := by decide +kernel
theorem dX12_deploys_100 : decode cX12_deploys 100 = .ok (.getfield 243, 3) := by decide +kernel
theorem dX12_deploys_103 : decode cX12_deploys 103 = .ok (.iconst 2, 1) := by decide +kernel
theorem dX12_deploys_104 : decode cX12_deploys 104 = .ok (.invokevirtual 204, 3) := by decide +kernel
theorem dX12_deploys_107 : decode cX12_deploys 107 = .ok (.iadd, 1) := by decide +kernel
theorem dX12_deploys_108 : decode cX12_deploys 108 = .ok (.aload_n 0, 1) := by decide +kernel
theorem dX12_deploys_109 : decode cX12_deploys 109 = .ok (.aload_n 0, 1) := by decide +kernel
theorem dX12_deploys_110 : decode cX12_deploys 110 = .ok (.getfield 243, 3) := by decide +kernel
theorem dX12_deploys_113 : decode cX12_deploys 113 = .ok (.iconst 0, 1) := by decide +kernel
theorem dX12_deploys_114 : decode cX12_deploys 114 = .ok (.invokevirtual 292, 3) := by decide +kernel
theorem dX12_deploys_117 : decode cX12_deploys 117 = .ok (.isub, 1) := by decide +kernel
theorem dX12_deploys_118 : decode cX12_deploys 118 = .ok (.istore_n 3, 1) := by decide +kernel
theorem dX12_deploys_119 : decode cX12_deploys 119 = .ok (.aload_n 0, 1) := by decide +kernel
theorem dX12_deploys_120 : decode cX12_deploys 120 = .ok (.iload_n 2, 1) := by decide +kernel
theorem dX12_deploys_121 : decode cX12_deploys 121 = .ok (.iconst 0, 1) := by decide +kernel
theorem dX12_deploys_122 : decode cX12_deploys 122 = .ok (.invokevirtual 204, 3) := by decide +kernel
theorem dX12_deploys_125 : decode cX12_deploys 125 = .ok (.iload_n 1, 1) := by decide +kernel
theorem dX12_deploys_126 : decode cX12_deploys 126 = .ok (.if_icmp .ge 42, 3) := by decide +kernel
theorem dX12_deploys_129 : decode cX12_deploys 129 = .ok (.iload_n 3, 1) := by decide +kernel
theorem dX12_deploys_130 : decode cX12_deploys 130 = .ok (.ifCond .le 38, 3) := by decide +kernel
theorem dX12_deploys_133 : decode cX12_deploys 133 = .ok (.iload_n 1, 1) := by decide +kernel
theorem dX12_deploys_134 : decode cX12_deploys 134 = .ok (.aload_n 0, 1) := by decide +kernel
theorem dX12_deploys_135 : decode cX12_deploys 135 = .ok (.iload_n 2, 1) := by decide +kernel
theorem dX12_deploys_136 : decode cX12_deploys 136 = .ok (.iconst 0, 1) := by decide +kernel
theorem dX12_deploys_137 : decode cX12_deploys 137 = .ok (.invokevirtual 204, 3) := by decide +kernel
theorem dX12_deploys_140 : decode cX12_deploys 140 = .ok (.isub, 1) := by decide +kernel
theorem dX12_deploys_141 : decode cX12_deploys 141 = .ok (.istore 4, 2) := by decide +kernel
theorem dX12_deploys_143 : decode cX12_deploys 143 = .ok (.aload_n 0, 1) := by decide +kernel
theorem dX12_deploys_144 : decode cX12_deploys 144 = .ok (.iload_n 2, 1) := by decide +kernel
theorem dX12_deploys_145 : decode cX12_deploys 145 = .ok (.aload_n 0, 1) := by decide +kernel
theorem dX12_deploys_146 : decode cX12_deploys 146 = .ok (.iload_n 2, 1) := by decide +kernel
theorem dX12_deploys_147 : decode cX12_deploys 147 = .ok (.iconst 0, 1) := by decide +kernel
theorem dX12_deploys_148 : decode cX12_deploys 148 = .ok (.invokevirtual 204, 3) := by decide +kernel
theorem dX12_deploys_151 : decode cX12_deploys 151 = .ok (.iload 4, 2) := by decide +kernel
theorem dX12_deploys_153 : decode cX12_deploys 153 = .ok (.iload_n 3, 1) := by decide +kernel
theorem dX12_deploys_154 : decode cX12_deploys 154 = .ok (.if_icmp .ge 8, 3) := by decide +kernel
theorem dX12_deploys_157 : decode cX12_deploys 157 = .ok (.iload 4, 2) := by decide +kernel
theorem dX12_deploys_159 : decode cX12_deploys 159 = .ok (.goto 4, 3) := by decide +kernel
theorem dX12_deploys_162 : decode cX12_deploys 162 = .ok (.iload_n 3, 1) := by decide +kernel
theorem dX12_deploys_163 : decode cX12_deploys 163 = .ok (.iadd, 1) := by decide +kernel
theorem dX12_deploys_164 : decode cX12_deploys 164 = .ok (.invokevirtual 289, 3) := by decide +kernel
theorem dX12_deploys_167 : decode cX12_deploys 167 = .ok (.ireturn, 1) := by decide +kernel
theorem dX12_deploys_168 : decode cX12_deploys 168 = .ok (.aload_n 0, 1) := by decide +kernel
theorem dX12_deploys_169 : decode cX12_deploys 169 = .ok (.aload_n 0, 1) := by decide +kernel
theorem dX12_deploys_170 : decode cX12_deploys 170 = .ok (.getfield 243, 3) := by decide +kernel
theorem dX12_deploys_173 : decode cX12_deploys 173 = .ok (.iconst (-1), 1) := by decide +kernel
theorem dX12_deploys_174 : decode cX12_deploys 174 = .ok (.iload_n 2, 1) := by decide +kernel
theorem dX12_deploys_175 : decode cX12_deploys 175 = .ok (.invokevirtual 282, 3) := by decide +kernel
theorem dX12_deploys_178 : decode cX12_deploys 178 = .ok (.istore 4, 2) := by decide +kernel
theorem dX12_deploys_180 : decode cX12_deploys 180 = .ok (.iload 4, 2) := by decide +kernel
theorem dX12_deploys_182 : decode cX12_deploys 182 = .ok (.iconst (-1), 1) := by decide +kernel
theorem dX12_deploys_183 : decode cX12_deploys 183 = .ok (.if_icmp .eq 33, 3) := by decide +kernel
theorem dX12_deploys_186 : decode cX12_deploys 186 = .ok (.aload_n 0, 1) := by decide +kernel
theorem dX12_deploys_187 : decode cX12_deploys 187 = .ok (.iload 4, 2) := by decide +kernel
theorem dX12_deploys_189 : decode cX12_deploys 189 = .ok (.aload_n 0, 1) := by decide +kernel
theorem dX12_deploys_190 : decode cX12_deploys 190 = .ok (.aload_n 0, 1) := by decide +kernel
theorem dX12_deploys_191 : decode cX12_deploys 191 = .ok (.getfield 243, 3) := by decide +kernel
theorem dX12_deploys_194 : decode cX12_deploys 194 = .ok (.iconst 1, 1) := by decide +kernel
theorem dX12_deploys_195 : decode cX12_deploys 195 = .ok (.invokevirtual 292, 3) := by decide +kernel
theorem dX12_deploys_198 : decode cX12_deploys 198 = .ok (.iload_n 1, 1) := by decide +kernel
theorem dX12_deploys_199 : decode cX12_deploys 199 = .ok (.isub, 1) := by decide +kernel
theorem dX12_deploys_200 : decode cX12_deploys 200 = .ok (.aload_n 0, 1) := by decide +kernel
theorem dX12_deploys_201 : decode cX12_deploys 201 = .ok (.aload_n 0, 1) := by decide +kernel
theorem dX12_deploys_202 : decode cX12_deploys 202 = .ok (.getfield 243, 3) := by decide +kernel
theorem dX12_deploys_205 : decode cX12_deploys 205 = .ok (.iconst 3, 1) := by decide +kernel
theorem dX12_deploys_206 : decode cX12_deploys 206 = .ok (.invokevirtual 204, 3) := by decide +kernel
theorem dX12_deploys_209 : decode cX12_deploys 209 = .ok (.iadd, 1) := by decide +kernel
theorem dX12_deploys_210 : decode cX12_deploys 210 = .ok (.invokevirtual 296, 3) := by decide +kernel
theorem dX12_deploys_213 : decode cX12_deploys 213 = .ok (.ifCond .eq 7, 3) := by decide +kernel
theorem dX12_deploys_216 : decode cX12_deploys 216 = .ok (.iconst 1, 1) := by decide +kernel
theorem dX12_deploys_217 : decode cX12_deploys 217 = .ok (.goto 4, 3) := by decide +kernel
theorem dX12_deploys_220 : decode cX12_deploys 220 = .ok (.iconst 0, 1) := by decide +kernel
theorem dX12_deploys_221 : decode cX12_deploys 221 = .ok (.ireturn, 1) := by decide +kernel
theorem dX12_lessens_0 : decode cX12_lessens 0 = .ok (.aload_n 0, 1) := by decide +kernel
theorem dX12_lessens_1 : decode cX12_lessens 1 = .ok (.iload_n 1, 1) := by decide +kernel
theorem dX12_lessens_2 : decode cX12_lessens 2 = .ok (.iconst 0, 1) := by decide +kernel
theorem dX12_lessens_3 : decode cX12_lessens 3 = .ok (.invokevirtual 204, 3) := by decide +kernel
theorem dX12_lessens_6 : decode cX12_lessens 6 = .ok (.istore_n 3, 1) := by decide +kernel
theorem dX12_lessens_7 : decode cX12_lessens 7 = .ok (.aload_n 0, 1) := by decide +kernel
theorem dX12_lessens_8 : decode cX12_lessens 8 = .ok (.iload_n 1, 1) := by decide +kernel
theorem dX12_lessens_9 : decode cX12_lessens 9 = .ok (.iconst 2, 1) := by decide +kernel
theorem dX12_lessens_10 : decode cX12_lessens 10 = .ok (.invokevirtual 279, 3) := by decide +kernel
theorem dX12_lessens_13 : decode cX12_lessens 13 = .ok (.istore 4, 2) := by decide +kernel
theorem dX12_lessens_15 : decode cX12_lessens 15 = .ok (.iload_n 3, 1) := by decide +kernel
theorem dX12_lessens_16 : decode cX12_lessens 16 = .ok (.iload 4, 2) := by decide +kernel
theorem dX12_lessens_18 : decode cX12_lessens 18 = .ok (.if_icmp .le 11, 3) := by decide +kernel
theorem dX12_lessens_21 : decode cX12_lessens 21 = .ok (.aload_n 0, 1) := by decide +kernel
theorem dX12_lessens_22 : decode cX12_lessens 22 = .ok (.iload_n 1, 1) := by decide +kernel
theorem dX12_lessens_23 : decode cX12_lessens 23 = .ok (.iload 4, 2) := by decide +kernel
theorem dX12_lessens_25 : decode cX12_lessens 25 = .ok (.invokevirtual 289, 3) := by decide +kernel
theorem dX12_lessens_28 : decode cX12_lessens 28 = .ok (.ireturn, 1) := by decide +kernel
theorem dX12_lessens_29 : decode cX12_lessens 29 = .ok (.iload_n 2, 1) := by decide +kernel
theorem dX12_lessens_30 : decode cX12_lessens 30 = .ok (.ifCond .le 23, 3) := by decide +kernel
theorem dX12_lessens_33 : decode cX12_lessens 33 = .ok (.aload_n 0, 1) := by decide +kernel
theorem dX12_lessens_34 : decode cX12_lessens 34 = .ok (.iload_n 1, 1) := by decide +kernel
theorem dX12_lessens_35 : decode cX12_lessens 35 = .ok (.iload_n 2, 1) := by decide +kernel
theorem dX12_lessens_36 : decode cX12_lessens 36 = .ok (.iload_n 3, 1) := by decide +kernel
theorem dX12_lessens_37 : decode cX12_lessens 37 = .ok (.if_icmp .ge 9, 3) := by decide +kernel
theorem dX12_lessens_40 : decode cX12_lessens 40 = .ok (.iload_n 3, 1) := by decide +kernel
theorem dX12_lessens_41 : decode cX12_lessens 41 = .ok (.iload_n 2, 1) := by decide +kernel
theorem dX12_lessens_42 : decode cX12_lessens 42 = .ok (.isub, 1) := by decide +kernel
theorem dX12_lessens_43 : decode cX12_lessens 43 = .ok (.goto 4, 3) := by decide +kernel
theorem dX12_lessens_46 : decode cX12_lessens 46 = .ok (.iconst 0, 1) := by decide +kernel
theorem dX12_lessens_47 : decode cX12_lessens 47 = .ok (.invokevirtual 289, 3) := by decide +kernel
theorem dX12_lessens_50 : decode cX12_lessens 50 = .ok (.ifCond .eq 7, 3) := by decide +kernel
theorem dX12_lessens_53 : decode cX12_lessens 53 = .ok (.iconst 1, 1) := by decide +kernel
theorem dX12_lessens_54 : decode cX12_lessens 54 = .ok (.goto 4, 3) := by decide +kernel
theorem dX12_lessens_57 : decode cX12_lessens 57 = .ok (.iconst 0, 1) := by decide +kernel
theorem dX12_lessens_58 : decode cX12_lessens 58 = .ok (.ireturn, 1) := by decide +kernel
theorem dX12_podOf_0 : decode cX12_podOf 0 = .ok (.iconst (-1), 1) := by decide +kernel
theorem dX12_podOf_1 : decode cX12_podOf 1 = .ok (.istore_n 3, 1) := by decide +kernel
theorem dX12_podOf_2 : decode cX12_podOf 2 = .ok (.iconst 0, 1) := by decide +kernel
theorem dX12_podOf_3 : decode cX12_podOf 3 = .ok (.istore 4, 2) := by decide +kernel
theorem dX12_podOf_5 : decode cX12_podOf 5 = .ok (.iconst 0, 1) := by decide +kernel
theorem dX12_podOf_6 : decode cX12_podOf 6 = .ok (.istore 5, 2) := by decide +kernel
theorem dX12_podOf_8 : decode cX12_podOf 8 = .ok (.iload 5, 2) := by decide +kernel
theorem dX12_podOf_10 : decode cX12_podOf 10 = .ok (.aload_n 0, 1) := by decide +kernel
theorem dX12_podOf_11 : decode cX12_podOf 11 = .ok (.getfield 137, 3) := by decide +kernel
theorem dX12_podOf_14 : decode cX12_podOf 14 = .ok (.if_icmp .ge 146, 3) := by decide +kernel
theorem dX12_podOf_17 : decode cX12_podOf 17 = .ok (.aload_n 0, 1) := by decide +kernel
theorem dX12_podOf_18 : decode cX12_podOf 18 = .ok (.iload 5, 2) := by decide +kernel
theorem dX12_podOf_20 : decode cX12_podOf 20 = .ok (.iconst 2, 1) := by decide +kernel
theorem dX12_podOf_21 : decode cX12_podOf 21 = .ok (.iload_n 1, 1) := by decide +kernel
theorem dX12_podOf_22 : decode cX12_podOf 22 = .ok (.invokevirtual 273, 3) := by decide +kernel
theorem dX12_podOf_25 : decode cX12_podOf 25 = .ok (.ifCond .eq 129, 3) := by decide +kernel
theorem dX12_podOf_28 : decode cX12_podOf 28 = .ok (.aload_n 0, 1) := by decide +kernel
theorem dX12_podOf_29 : decode cX12_podOf 29 = .ok (.iload 5, 2) := by decide +kernel
theorem dX12_podOf_31 : decode cX12_podOf 31 = .ok (.bipush 15, 2) := by decide +kernel
theorem dX12_podOf_33 : decode cX12_podOf 33 = .ok (.invokevirtual 204, 3) := by decide +kernel
theorem dX12_podOf_36 : decode cX12_podOf 36 = .ok (.ifCond .ne 7, 3) := by decide +kernel
theorem dX12_podOf_39 : decode cX12_podOf 39 = .ok (.iconst 3, 1) := by decide +kernel
theorem dX12_podOf_40 : decode cX12_podOf 40 = .ok (.goto 19, 3) := by decide +kernel
theorem dX12_podOf_43 : decode cX12_podOf 43 = .ok (.aload_n 0, 1) := by decide +kernel
theorem dX12_podOf_44 : decode cX12_podOf 44 = .ok (.iload 5, 2) := by decide +kernel
theorem dX12_podOf_46 : decode cX12_podOf 46 = .ok (.bipush 16, 2) := by decide +kernel
theorem dX12_podOf_48 : decode cX12_podOf 48 = .ok (.invokevirtual 204, 3) := by decide +kernel
theorem dX12_podOf_51 : decode cX12_podOf 51 = .ok (.ifCond .ne 7, 3) := by decide +kernel
theorem dX12_podOf_54 : decode cX12_podOf 54 = .ok (.iconst 2, 1) := by decide +kernel
theorem dX12_podOf_55 : decode cX12_podOf 55 = .ok (.goto 4, 3) := by decide +kernel
theorem dX12_podOf_58 : decode cX12_podOf 58 = .ok (.iconst 1, 1) := by decide +kernel
theorem dX12_podOf_59 : decode cX12_podOf 59 = .ok (.istore 6, 2) := by decide +kernel
theorem dX12_podOf_61 : decode cX12_podOf 61 = .ok (.aload_n 0, 1) := by decide +kernel
theorem dX12_podOf_62 : decode cX12_podOf 62 = .ok (.iload 5, 2) := by decide +kernel
theorem dX12_podOf_64 : decode cX12_podOf 64 = .ok (.bipush 16, 2) := by decide +kernel
theorem dX12_podOf_66 : decode cX12_podOf 66 = .ok (.invokevirtual 204, 3) := by decide +kernel
theorem dX12_podOf_69 : decode cX12_podOf 69 = .ok (.iconst 2, 1) := by decide +kernel
theorem dX12_podOf_70 : decode cX12_podOf 70 = .ok (.if_icmp .eq 15, 3) := by decide +kernel
theorem dX12_podOf_73 : decode cX12_podOf 73 = .ok (.aload_n 0, 1) := by decide +kernel
theorem dX12_podOf_74 : decode cX12_podOf 74 = .ok (.iload 5, 2) := by decide +kernel
theorem dX12_podOf_76 : decode cX12_podOf 76 = .ok (.bipush 16, 2) := by decide +kernel
theorem dX12_podOf_78 : decode cX12_podOf 78 = .ok (.invokevirtual 204, 3) := by decide +kernel
theorem dX12_podOf_81 : decode cX12_podOf 81 = .ok (.iconst 3, 1) := by decide +kernel
theorem dX12_podOf_82 : decode cX12_podOf 82 = .ok (.if_icmp .ne 7, 3) := by decide +kernel
theorem dX12_podOf_85 : decode cX12_podOf 85 = .ok (.iconst 1, 1) := by decide +kernel
theorem dX12_podOf_86 : decode cX12_podOf 86 = .ok (.goto 4, 3) := by decide +kernel
theorem dX12_podOf_89 : decode cX12_podOf 89 = .ok (.iconst 0, 1) := by decide +kernel
theorem dX12_podOf_90 : decode cX12_podOf 90 = .ok (.istore 7, 2) := by decide +kernel
theorem dX12_podOf_92 : decode cX12_podOf 92 = .ok (.iload_n 2, 1) := by decide +kernel
theorem dX12_podOf_93 : decode cX12_podOf 93 = .ok (.ifCond .ne 21, 3) := by decide +kernel
theorem dX12_podOf_96 : decode cX12_podOf 96 = .ok (.iload 7, 2) := by decide +kernel
theorem dX12_podOf_98 : decode cX12_podOf 98 = .ok (.ifCond .eq 12, 3) := by decide +kernel
theorem dX12_podOf_101 : decode cX12_podOf 101 = .ok (.iload_n 3, 1) := by decide +kernel
theorem dX12_podOf_102 : decode cX12_podOf 102 = .ok (.iconst (-1), 1) := by decide +kernel
theorem dX12_podOf_103 : decode cX12_podOf 103 = .ok (.if_icmp .ne 7, 3) := by decide +kernel
theorem dX12_podOf_106 : decode cX12_podOf 106 = .ok (.iconst 1, 1) := by decide +kernel
theorem dX12_podOf_107 : decode cX12_podOf 107 = .ok (.goto 19, 3) := by decide +kernel
theorem dX12_podOf_110 : decode cX12_podOf 110 = .ok (.iconst 0, 1) := by decide +kernel
theorem dX12_podOf_111 : decode cX12_podOf 111 = .ok (.goto 15, 3) := by decide +kernel
theorem dX12_podOf_114 : decode cX12_podOf 114 = .ok (.iload 6, 2) := by decide +kernel
theorem dX12_podOf_116 : decode cX12_podOf 116 = .ok (.iload 4, 2) := by decide +kernel
theorem dX12_podOf_118 : decode cX12_podOf 118 = .ok (.if_icmp .lt 7, 3) := by decide +kernel
theorem dX12_podOf_121 : decode cX12_podOf 121 = .ok (.iconst 1, 1) := by decide +kernel
theorem dX12_podOf_122 : decode cX12_podOf 122 = .ok (.goto 4, 3) := by decide +kernel
theorem dX12_podOf_125 : decode cX12_podOf 125 = .ok (.iconst 0, 1) := by decide +kernel
theorem dX12_podOf_126 : decode cX12_podOf 126 = .ok (.istore 8, 2) := by decide +kernel
theorem dX12_podOf_128 : decode cX12_podOf 128 = .ok (.iload 8, 2) := by decide +kernel
theorem dX12_podOf_130 : decode cX12_podOf 130 = .ok (.ifCond .eq 8, 3) := by decide +kernel
theorem dX12_podOf_133 : decode cX12_podOf 133 = .ok (.iload 5, 2) := by decide +kernel
theorem dX12_podOf_135 : decode cX12_podOf 135 = .ok (.goto 4, 3) := by decide +kernel
theorem dX12_podOf_138 : decode cX12_podOf 138 = .ok (.iload_n 3, 1) := by decide +kernel
theorem dX12_podOf_139 : decode cX12_podOf 139 = .ok (.istore_n 3, 1) := by decide +kernel
theorem dX12_podOf_140 : decode cX12_podOf 140 = .ok (.iload 8, 2) := by decide +kernel
theorem dX12_podOf_142 : decode cX12_podOf 142 = .ok (.ifCond .eq 8, 3) := by decide +kernel
theorem dX12_podOf_145 : decode cX12_podOf 145 = .ok (.iload 6, 2) := by decide +kernel
theorem dX12_podOf_147 : decode cX12_podOf 147 = .ok (.goto 5, 3) := by decide +kernel
theorem dX12_podOf_150 : decode cX12_podOf 150 = .ok (.iload 4, 2) := by decide +kernel
theorem dX12_podOf_152 : decode cX12_podOf 152 = .ok (.istore 4, 2) := by decide +kernel
theorem dX12_podOf_154 : decode cX12_podOf 154 = .ok (.iinc 5 1, 3) := by decide +kernel
theorem dX12_podOf_157 : decode cX12_podOf 157 = .ok (.goto (-149), 3) := by decide +kernel
theorem dX12_podOf_160 : decode cX12_podOf 160 = .ok (.iload_n 3, 1) := by decide +kernel
theorem dX12_podOf_161 : decode cX12_podOf 161 = .ok (.ireturn, 1) := by decide +kernel
theorem dX12_replicates_0 : decode cX12_replicates 0 = .ok (.aload_n 0, 1) := by decide +kernel
theorem dX12_replicates_1 : decode cX12_replicates 1 = .ok (.aload_n 0, 1) := by decide +kernel
theorem dX12_replicates_2 : decode cX12_replicates 2 = .ok (.getfield 243, 3) := by decide +kernel
theorem dX12_replicates_5 : decode cX12_replicates 5 = .ok (.iconst 1, 1) := by decide +kernel
theorem dX12_replicates_6 : decode cX12_replicates 6 = .ok (.invokevirtual 269, 3) := by decide +kernel
theorem dX12_replicates_9 : decode cX12_replicates 9 = .ok (.ifCond .ne 5, 3) := by decide +kernel
theorem dX12_replicates_12 : decode cX12_replicates 12 = .ok (.iconst 1, 1) := by decide +kernel
theorem dX12_replicates_13 : decode cX12_replicates 13 = .ok (.ireturn, 1) := by decide +kernel
theorem dX12_replicates_14 : decode cX12_replicates 14 = .ok (.aload_n 0, 1) := by decide +kernel
theorem dX12_replicates_15 : decode cX12_replicates 15 = .ok (.aload_n 0, 1) := by decide +kernel
theorem dX12_replicates_16 : decode cX12_replicates 16 = .ok (.getfield 243, 3) := by decide +kernel
theorem dX12_replicates_19 : decode cX12_replicates 19 = .ok (.iconst 0, 1) := by decide +kernel
theorem dX12_replicates_20 : decode cX12_replicates 20 = .ok (.invokevirtual 299, 3) := by decide +kernel
theorem dX12_replicates_23 : decode cX12_replicates 23 = .ok (.istore_n 1, 1) := by decide +kernel
theorem dX12_replicates_24 : decode cX12_replicates 24 = .ok (.iload_n 1, 1) := by decide +kernel
theorem dX12_replicates_25 : decode cX12_replicates 25 = .ok (.iconst (-1), 1) := by decide +kernel
theorem dX12_replicates_26 : decode cX12_replicates 26 = .ok (.if_icmp .eq 9, 3) := by decide +kernel
theorem dX12_replicates_29 : decode cX12_replicates 29 = .ok (.aload_n 0, 1) := by decide +kernel
theorem dX12_replicates_30 : decode cX12_replicates 30 = .ok (.iload_n 1, 1) := by decide +kernel
theorem dX12_replicates_31 : decode cX12_replicates 31 = .ok (.invokevirtual 302, 3) := by decide +kernel
theorem dX12_replicates_34 : decode cX12_replicates 34 = .ok (.ireturn, 1) := by decide +kernel
theorem dX12_replicates_35 : decode cX12_replicates 35 = .ok (.aload_n 0, 1) := by decide +kernel
theorem dX12_replicates_36 : decode cX12_replicates 36 = .ok (.aload_n 0, 1) := by decide +kernel
theorem dX12_replicates_37 : decode cX12_replicates 37 = .ok (.getfield 243, 3) := by decide +kernel
theorem dX12_replicates_40 : decode cX12_replicates 40 = .ok (.bipush 15, 2) := by decide +kernel
theorem dX12_replicates_42 : decode cX12_replicates 42 = .ok (.invokevirtual 279, 3) := by decide +kernel
theorem dX12_replicates_45 : decode cX12_replicates 45 = .ok (.istore_n 2, 1) := by decide +kernel
theorem dX12_replicates_46 : decode cX12_replicates 46 = .ok (.aload_n 0, 1) := by decide +kernel
theorem dX12_replicates_47 : decode cX12_replicates 47 = .ok (.aload_n 0, 1) := by decide +kernel
theorem dX12_replicates_48 : decode cX12_replicates 48 = .ok (.getfield 243, 3) := by decide +kernel
theorem dX12_replicates_51 : decode cX12_replicates 51 = .ok (.iconst 0, 1) := by decide +kernel
theorem dX12_replicates_52 : decode cX12_replicates 52 = .ok (.invokevirtual 204, 3) := by decide +kernel
theorem dX12_replicates_55 : decode cX12_replicates 55 = .ok (.istore_n 3, 1) := by decide +kernel
theorem dX12_replicates_56 : decode cX12_replicates 56 = .ok (.iload_n 2, 1) := by decide +kernel
theorem dX12_replicates_57 : decode cX12_replicates 57 = .ok (.iload_n 3, 1) := by decide +kernel
theorem dX12_replicates_58 : decode cX12_replicates 58 = .ok (.if_icmp .ge 22, 3) := by decide +kernel
theorem dX12_replicates_61 : decode cX12_replicates 61 = .ok (.aload_n 0, 1) := by decide +kernel
theorem dX12_replicates_62 : decode cX12_replicates 62 = .ok (.iconst 2, 1) := by decide +kernel
theorem dX12_replicates_63 : decode cX12_replicates 63 = .ok (.aload_n 0, 1) := by decide +kernel
theorem dX12_replicates_64 : decode cX12_replicates 64 = .ok (.getfield 243, 3) := by decide +kernel
theorem dX12_replicates_67 : decode cX12_replicates 67 = .ok (.aload_n 0, 1) := by decide +kernel
theorem dX12_replicates_68 : decode cX12_replicates 68 = .ok (.aload_n 0, 1) := by decide +kernel
theorem dX12_replicates_69 : decode cX12_replicates 69 = .ok (.getfield 243, 3) := by decide +kernel
theorem dX12_replicates_72 : decode cX12_replicates 72 = .ok (.iconst 1, 1) := by decide +kernel
theorem dX12_replicates_73 : decode cX12_replicates 73 = .ok (.invokevirtual 204, 3) := by decide +kernel
theorem dX12_replicates_76 : decode cX12_replicates 76 = .ok (.invokevirtual 286, 3) := by decide +kernel
theorem dX12_replicates_79 : decode cX12_replicates 79 = .ok (.ireturn, 1) := by decide +kernel
theorem dX12_replicates_80 : decode cX12_replicates 80 = .ok (.iload_n 2, 1) := by decide +kernel
theorem dX12_replicates_81 : decode cX12_replicates 81 = .ok (.iload_n 3, 1) := by decide +kernel
theorem dX12_replicates_82 : decode cX12_replicates 82 = .ok (.if_icmp .eq 19, 3) := by decide +kernel
theorem dX12_replicates_85 : decode cX12_replicates 85 = .ok (.aload_n 0, 1) := by decide +kernel
theorem dX12_replicates_86 : decode cX12_replicates 86 = .ok (.aload_n 0, 1) := by decide +kernel
theorem dX12_replicates_87 : decode cX12_replicates 87 = .ok (.aload_n 0, 1) := by decide +kernel
theorem dX12_replicates_88 : decode cX12_replicates 88 = .ok (.getfield 243, 3) := by decide +kernel
theorem dX12_replicates_91 : decode cX12_replicates 91 = .ok (.iconst 1, 1) := by decide +kernel
theorem dX12_replicates_92 : decode cX12_replicates 92 = .ok (.invokevirtual 299, 3) := by decide +kernel
theorem dX12_replicates_95 : decode cX12_replicates 95 = .ok (.invokevirtual 302, 3) := by decide +kernel
theorem dX12_replicates_98 : decode cX12_replicates 98 = .ok (.ifCond .eq 7, 3) := by decide +kernel
theorem dX12_replicates_101 : decode cX12_replicates 101 = .ok (.iconst 1, 1) := by decide +kernel
theorem dX12_replicates_102 : decode cX12_replicates 102 = .ok (.goto 4, 3) := by decide +kernel
theorem dX12_replicates_105 : decode cX12_replicates 105 = .ok (.iconst 0, 1) := by decide +kernel
theorem dX12_replicates_106 : decode cX12_replicates 106 = .ok (.ireturn, 1) := by decide +kernel
theorem dX12_doesJobs_0 : decode cX12_doesJobs 0 = .ok (.aload_n 0, 1) := by decide +kernel
theorem dX12_doesJobs_1 : decode cX12_doesJobs 1 = .ok (.aload_n 0, 1) := by decide +kernel
theorem dX12_doesJobs_2 : decode cX12_doesJobs 2 = .ok (.getfield 243, 3) := by decide +kernel
theorem dX12_doesJobs_5 : decode cX12_doesJobs 5 = .ok (.iconst 3, 1) := by decide +kernel
theorem dX12_doesJobs_6 : decode cX12_doesJobs 6 = .ok (.invokevirtual 269, 3) := by decide +kernel
theorem dX12_doesJobs_9 : decode cX12_doesJobs 9 = .ok (.ifCond .ne 5, 3) := by decide +kernel
theorem dX12_doesJobs_12 : decode cX12_doesJobs 12 = .ok (.iconst 1, 1) := by decide +kernel
theorem dX12_doesJobs_13 : decode cX12_doesJobs 13 = .ok (.ireturn, 1) := by decide +kernel
theorem dX12_doesJobs_14 : decode cX12_doesJobs 14 = .ok (.aload_n 0, 1) := by decide +kernel
theorem dX12_doesJobs_15 : decode cX12_doesJobs 15 = .ok (.aload_n 0, 1) := by decide +kernel
theorem dX12_doesJobs_16 : decode cX12_doesJobs 16 = .ok (.getfield 243, 3) := by decide +kernel
theorem dX12_doesJobs_19 : decode cX12_doesJobs 19 = .ok (.iconst 3, 1) := by decide +kernel
theorem dX12_doesJobs_20 : decode cX12_doesJobs 20 = .ok (.invokevirtual 279, 3) := by decide +kernel
theorem dX12_doesJobs_23 : decode cX12_doesJobs 23 = .ok (.istore_n 1, 1) := by decide +kernel
theorem dX12_doesJobs_24 : decode cX12_doesJobs 24 = .ok (.iload_n 1, 1) := by decide +kernel
theorem dX12_doesJobs_25 : decode cX12_doesJobs 25 = .ok (.aload_n 0, 1) := by decide +kernel
theorem dX12_doesJobs_26 : decode cX12_doesJobs 26 = .ok (.aload_n 0, 1) := by decide +kernel
theorem dX12_doesJobs_27 : decode cX12_doesJobs 27 = .ok (.getfield 243, 3) := by decide +kernel
theorem dX12_doesJobs_30 : decode cX12_doesJobs 30 = .ok (.iconst 4, 1) := by decide +kernel
theorem dX12_doesJobs_31 : decode cX12_doesJobs 31 = .ok (.invokevirtual 279, 3) := by decide +kernel
theorem dX12_doesJobs_34 : decode cX12_doesJobs 34 = .ok (.iadd, 1) := by decide +kernel
theorem dX12_doesJobs_35 : decode cX12_doesJobs 35 = .ok (.aload_n 0, 1) := by decide +kernel
theorem dX12_doesJobs_36 : decode cX12_doesJobs 36 = .ok (.aload_n 0, 1) := by decide +kernel
theorem dX12_doesJobs_37 : decode cX12_doesJobs 37 = .ok (.getfield 243, 3) := by decide +kernel
theorem dX12_doesJobs_40 : decode cX12_doesJobs 40 = .ok (.iconst 0, 1) := by decide +kernel
theorem dX12_doesJobs_41 : decode cX12_doesJobs 41 = .ok (.invokevirtual 204, 3) := by decide +kernel
theorem dX12_doesJobs_44 : decode cX12_doesJobs 44 = .ok (.if_icmp .ge 21, 3) := by decide +kernel
theorem dX12_doesJobs_47 : decode cX12_doesJobs 47 = .ok (.iload_n 1, 1) := by decide +kernel
theorem dX12_doesJobs_48 : decode cX12_doesJobs 48 = .ok (.aload_n 0, 1) := by decide +kernel
theorem dX12_doesJobs_49 : decode cX12_doesJobs 49 = .ok (.aload_n 0, 1) := by decide +kernel
theorem dX12_doesJobs_50 : decode cX12_doesJobs 50 = .ok (.getfield 243, 3) := by decide +kernel
theorem dX12_doesJobs_53 : decode cX12_doesJobs 53 = .ok (.bipush 10, 2) := by decide +kernel
theorem dX12_doesJobs_55 : decode cX12_doesJobs 55 = .ok (.invokevirtual 204, 3) := by decide +kernel
theorem dX12_doesJobs_58 : decode cX12_doesJobs 58 = .ok (.if_icmp .ge 7, 3) := by decide +kernel
theorem dX12_doesJobs_61 : decode cX12_doesJobs 61 = .ok (.iconst 1, 1) := by decide +kernel
theorem dX12_doesJobs_62 : decode cX12_doesJobs 62 = .ok (.goto 4, 3) := by decide +kernel
theorem dX12_doesJobs_65 : decode cX12_doesJobs 65 = .ok (.iconst 0, 1) := by decide +kernel
theorem dX12_doesJobs_66 : decode cX12_doesJobs 66 = .ok (.istore_n 2, 1) := by decide +kernel
theorem dX12_doesJobs_67 : decode cX12_doesJobs 67 = .ok (.iload_n 2, 1) := by decide +kernel
theorem dX12_doesJobs_68 : decode cX12_doesJobs 68 = .ok (.ifCond .eq 24, 3) := by decide +kernel
theorem dX12_doesJobs_71 : decode cX12_doesJobs 71 = .ok (.aload_n 0, 1) := by decide +kernel
theorem dX12_doesJobs_72 : decode cX12_doesJobs 72 = .ok (.iconst 2, 1) := by decide +kernel
theorem dX12_doesJobs_73 : decode cX12_doesJobs 73 = .ok (.aload_n 0, 1) := by decide +kernel
theorem dX12_doesJobs_74 : decode cX12_doesJobs 74 = .ok (.getfield 243, 3) := by decide +kernel
theorem dX12_doesJobs_77 : decode cX12_doesJobs 77 = .ok (.aload_n 0, 1) := by decide +kernel
theorem dX12_doesJobs_78 : decode cX12_doesJobs 78 = .ok (.aload_n 0, 1) := by decide +kernel
theorem dX12_doesJobs_79 : decode cX12_doesJobs 79 = .ok (.getfield 243, 3) := by decide +kernel
theorem dX12_doesJobs_82 : decode cX12_doesJobs 82 = .ok (.iconst 1, 1) := by decide +kernel
theorem dX12_doesJobs_83 : decode cX12_doesJobs 83 = .ok (.invokevirtual 204, 3) := by decide +kernel
theorem dX12_doesJobs_86 : decode cX12_doesJobs 86 = .ok (.invokevirtual 286, 3) := by decide +kernel
theorem dX12_doesJobs_89 : decode cX12_doesJobs 89 = .ok (.ifCond .eq 7, 3) := by decide +kernel
theorem dX12_doesJobs_92 : decode cX12_doesJobs 92 = .ok (.iconst 1, 1) := by decide +kernel
theorem dX12_doesJobs_93 : decode cX12_doesJobs 93 = .ok (.goto 4, 3) := by decide +kernel
theorem dX12_doesJobs_96 : decode cX12_doesJobs 96 = .ok (.iconst 0, 1) := by decide +kernel
theorem dX12_doesJobs_97 : decode cX12_doesJobs 97 = .ok (.ireturn, 1) := by decide +kernel
theorem dX12_isUsable_0 : decode cX12_isUsable 0 = .ok (.aload_n 0, 1) := by decide +kernel
theorem dX12_isUsable_1 : decode cX12_isUsable 1 = .ok (.iload_n 1, 1) := by decide +kernel
theorem dX12_isUsable_2 : decode cX12_isUsable 2 = .ok (.iconst 4, 1) := by decide +kernel
theorem dX12_isUsable_3 : decode cX12_isUsable 3 = .ok (.invokevirtual 269, 3) := by decide +kernel
theorem dX12_isUsable_6 : decode cX12_isUsable 6 = .ok (.ifCond .eq 28, 3) := by decide +kernel
theorem dX12_isUsable_9 : decode cX12_isUsable 9 = .ok (.aload_n 0, 1) := by decide +kernel
theorem dX12_isUsable_10 : decode cX12_isUsable 10 = .ok (.iload_n 1, 1) := by decide +kernel
theorem dX12_isUsable_11 : decode cX12_isUsable 11 = .ok (.bipush 14, 2) := by decide +kernel
theorem dX12_isUsable_13 : decode cX12_isUsable 13 = .ok (.invokevirtual 204, 3) := by decide +kernel
theorem dX12_isUsable_16 : decode cX12_isUsable 16 = .ok (.iconst 1, 1) := by decide +kernel
theorem dX12_isUsable_17 : decode cX12_isUsable 17 = .ok (.if_icmp .ne 17, 3) := by decide +kernel
theorem dX12_isUsable_20 : decode cX12_isUsable 20 = .ok (.aload_n 0, 1) := by decide +kernel
theorem dX12_isUsable_21 : decode cX12_isUsable 21 = .ok (.iload_n 1, 1) := by decide +kernel
theorem dX12_isUsable_22 : decode cX12_isUsable 22 = .ok (.bipush 9, 2) := by decide +kernel
theorem dX12_isUsable_24 : decode cX12_isUsable 24 = .ok (.invokevirtual 204, 3) := by decide +kernel
theorem dX12_isUsable_27 : decode cX12_isUsable 27 = .ok (.ifCond .ne 7, 3) := by decide +kernel
theorem dX12_isUsable_30 : decode cX12_isUsable 30 = .ok (.iconst 1, 1) := by decide +kernel
theorem dX12_isUsable_31 : decode cX12_isUsable 31 = .ok (.goto 4, 3) := by decide +kernel
theorem dX12_isUsable_34 : decode cX12_isUsable 34 = .ok (.iconst 0, 1) := by decide +kernel
theorem dX12_isUsable_35 : decode cX12_isUsable 35 = .ok (.ireturn, 1) := by decide +kernel
theorem dX12_zoned_0 : decode cX12_zoned 0 = .ok (.iconst 0, 1) := by decide +kernel
theorem dX12_zoned_1 : decode cX12_zoned 1 = .ok (.istore_n 3, 1) := by decide +kernel
theorem dX12_zoned_2 : decode cX12_zoned 2 = .ok (.iconst 0, 1) := by decide +kernel
theorem dX12_zoned_3 : decode cX12_zoned 3 = .ok (.istore 4, 2) := by decide +kernel
theorem dX12_zoned_5 : decode cX12_zoned 5 = .ok (.iload 4, 2) := by decide +kernel
theorem dX12_zoned_7 : decode cX12_zoned 7 = .ok (.aload_n 0, 1) := by decide +kernel
theorem dX12_zoned_8 : decode cX12_zoned 8 = .ok (.getfield 137, 3) := by decide +kernel
theorem dX12_zoned_11 : decode cX12_zoned 11 = .ok (.if_icmp .ge 124, 3) := by decide +kernel
theorem dX12_zoned_14 : decode cX12_zoned 14 = .ok (.aload_n 0, 1) := by decide +kernel
theorem dX12_zoned_15 : decode cX12_zoned 15 = .ok (.iload 4, 2) := by decide +kernel
theorem dX12_zoned_17 : decode cX12_zoned 17 = .ok (.invokevirtual 211, 3) := by decide +kernel
theorem dX12_zoned_20 : decode cX12_zoned 20 = .ok (.ifCond .ne 51, 3) := by decide +kernel
theorem dX12_zoned_23 : decode cX12_zoned 23 = .ok (.aload_n 0, 1) := by decide +kernel
theorem dX12_zoned_24 : decode cX12_zoned 24 = .ok (.getfield 25, 3) := by decide +kernel
theorem dX12_zoned_27 : decode cX12_zoned 27 = .ok (.iload 4, 2) := by decide +kernel
theorem dX12_zoned_29 : decode cX12_zoned 29 = .ok (.iaload, 1) := by decide +kernel
theorem dX12_zoned_30 : decode cX12_zoned 30 = .ok (.iconst 2, 1) := by decide +kernel
theorem dX12_zoned_31 : decode cX12_zoned 31 = .ok (.if_icmp .ne 40, 3) := by decide +kernel
theorem dX12_zoned_34 : decode cX12_zoned 34 = .ok (.aload_n 0, 1) := by decide +kernel
theorem dX12_zoned_35 : decode cX12_zoned 35 = .ok (.iload 4, 2) := by decide +kernel
theorem dX12_zoned_37 : decode cX12_zoned 37 = .ok (.bipush 15, 2) := by decide +kernel
theorem dX12_zoned_39 : decode cX12_zoned 39 = .ok (.invokevirtual 204, 3) := by decide +kernel
theorem dX12_zoned_42 : decode cX12_zoned 42 = .ok (.ifCond .le 29, 3) := by decide +kernel
theorem dX12_zoned_45 : decode cX12_zoned 45 = .ok (.aload_n 0, 1) := by decide +kernel
theorem dX12_zoned_46 : decode cX12_zoned 46 = .ok (.aload_n 0, 1) := by decide +kernel
theorem dX12_zoned_47 : decode cX12_zoned 47 = .ok (.iload 4, 2) := by decide +kernel
theorem dX12_zoned_49 : decode cX12_zoned 49 = .ok (.invokevirtual 196, 3) := by decide +kernel
theorem dX12_zoned_52 : decode cX12_zoned 52 = .ok (.invokevirtual 214, 3) := by decide +kernel
theorem dX12_zoned_55 : decode cX12_zoned 55 = .ok (.aload_n 0, 1) := by decide +kernel
theorem dX12_zoned_56 : decode cX12_zoned 56 = .ok (.aload_n 0, 1) := by decide +kernel
theorem dX12_zoned_57 : decode cX12_zoned 57 = .ok (.iload_n 1, 1) := by decide +kernel
theorem dX12_zoned_58 : decode cX12_zoned 58 = .ok (.invokevirtual 196, 3) := by decide +kernel
theorem dX12_zoned_61 : decode cX12_zoned 61 = .ok (.invokevirtual 214, 3) := by decide +kernel
theorem dX12_zoned_64 : decode cX12_zoned 64 = .ok (.if_icmp .ne 7, 3) := by decide +kernel
theorem dX12_zoned_67 : decode cX12_zoned 67 = .ok (.iconst 1, 1) := by decide +kernel
theorem dX12_zoned_68 : decode cX12_zoned 68 = .ok (.goto 4, 3) := by decide +kernel
theorem dX12_zoned_71 : decode cX12_zoned 71 = .ok (.iconst 0, 1) := by decide +kernel
theorem dX12_zoned_72 : decode cX12_zoned 72 = .ok (.istore 5, 2) := by decide +kernel
theorem dX12_zoned_74 : decode cX12_zoned 74 = .ok (.iload 5, 2) := by decide +kernel
theorem dX12_zoned_76 : decode cX12_zoned 76 = .ok (.ifCond .eq 16, 3) := by decide +kernel
theorem dX12_zoned_79 : decode cX12_zoned 79 = .ok (.aload_n 0, 1) := by decide +kernel
theorem dX12_zoned_80 : decode cX12_zoned 80 = .ok (.iload 4, 2) := by decide +kernel
theorem dX12_zoned_82 : decode cX12_zoned 82 = .ok (.bipush 15, 2) := by decide +kernel
theorem dX12_zoned_84 : decode cX12_zoned 84 = .ok (.invokevirtual 204, 3) := by decide +kernel
theorem dX12_zoned_87 : decode cX12_zoned 87 = .ok (.iconst 1, 1) := by decide +kernel
theorem dX12_zoned_88 : decode cX12_zoned 88 = .ok (.isub, 1) := by decide +kernel
theorem dX12_zoned_89 : decode cX12_zoned 89 = .ok (.goto 4, 3) := by decide +kernel
theorem dX12_zoned_92 : decode cX12_zoned 92 = .ok (.iconst (-1), 1) := by decide +kernel
theorem dX12_zoned_93 : decode cX12_zoned 93 = .ok (.istore 6, 2) := by decide +kernel
theorem dX12_zoned_95 : decode cX12_zoned 95 = .ok (.iload_n 3, 1) := by decide +kernel
theorem dX12_zoned_96 : decode cX12_zoned 96 = .ok (.iload 5, 2) := by decide +kernel
theorem dX12_zoned_98 : decode cX12_zoned 98 = .ok (.ifCond .eq 28, 3) := by decide +kernel
theorem dX12_zoned_101 : decode cX12_zoned 101 = .ok (.aload_n 0, 1) := by decide +kernel
theorem dX12_zoned_102 : decode cX12_zoned 102 = .ok (.iload 6, 2) := by decide +kernel
theorem dX12_zoned_104 : decode cX12_zoned 104 = .ok (.invokevirtual 211, 3) := by decide +kernel
theorem dX12_zoned_107 : decode cX12_zoned 107 = .ok (.ifCond .ne 19, 3) := by decide +kernel
theorem dX12_zoned_110 : decode cX12_zoned 110 = .ok (.aload_n 0, 1) := by decide +kernel
theorem dX12_zoned_111 : decode cX12_zoned 111 = .ok (.iload 6, 2) := by decide +kernel
theorem dX12_zoned_113 : decode cX12_zoned 113 = .ok (.bipush 8, 2) := by decide +kernel
theorem dX12_zoned_115 : decode cX12_zoned 115 = .ok (.invokevirtual 204, 3) := by decide +kernel
theorem dX12_zoned_118 : decode cX12_zoned 118 = .ok (.iload_n 2, 1) := by decide +kernel
theorem dX12_zoned_119 : decode cX12_zoned 119 = .ok (.if_icmp .ne 7, 3) := by decide +kernel
theorem dX12_zoned_122 : decode cX12_zoned 122 = .ok (.iconst 1, 1) := by decide +kernel
theorem dX12_zoned_123 : decode cX12_zoned 123 = .ok (.goto 4, 3) := by decide +kernel
theorem dX12_zoned_126 : decode cX12_zoned 126 = .ok (.iconst 0, 1) := by decide +kernel
theorem dX12_zoned_127 : decode cX12_zoned 127 = .ok (.iadd, 1) := by decide +kernel
theorem dX12_zoned_128 : decode cX12_zoned 128 = .ok (.istore_n 3, 1) := by decide +kernel
theorem dX12_zoned_129 : decode cX12_zoned 129 = .ok (.iinc 4 1, 3) := by decide +kernel
theorem dX12_zoned_132 : decode cX12_zoned 132 = .ok (.goto (-127), 3) := by decide +kernel
theorem dX12_zoned_135 : decode cX12_zoned 135 = .ok (.iload_n 3, 1) := by decide +kernel
theorem dX12_zoned_136 : decode cX12_zoned 136 = .ok (.ireturn, 1) := by decide +kernel
theorem dX12_nodeFor_0 : decode cX12_nodeFor 0 = .ok (.iconst (-1), 1) := by decide +kernel
theorem dX12_nodeFor_1 : decode cX12_nodeFor 1 = .ok (.istore_n 2, 1) := by decide +kernel
theorem dX12_nodeFor_2 : decode cX12_nodeFor 2 = .ok (.iconst 0, 1) := by decide +kernel
theorem dX12_nodeFor_3 : decode cX12_nodeFor 3 = .ok (.istore_n 3, 1) := by decide +kernel
theorem dX12_nodeFor_4 : decode cX12_nodeFor 4 = .ok (.iconst 0, 1) := by decide +kernel
theorem dX12_nodeFor_5 : decode cX12_nodeFor 5 = .ok (.istore 4, 2) := by decide +kernel
theorem dX12_nodeFor_7 : decode cX12_nodeFor 7 = .ok (.iconst 0, 1) := by decide +kernel
theorem dX12_nodeFor_8 : decode cX12_nodeFor 8 = .ok (.istore 5, 2) := by decide +kernel
theorem dX12_nodeFor_10 : decode cX12_nodeFor 10 = .ok (.iload 5, 2) := by decide +kernel
theorem dX12_nodeFor_12 : decode cX12_nodeFor 12 = .ok (.aload_n 0, 1) := by decide +kernel
theorem dX12_nodeFor_13 : decode cX12_nodeFor 13 = .ok (.getfield 137, 3) := by decide +kernel
theorem dX12_nodeFor_16 : decode cX12_nodeFor 16 = .ok (.if_icmp .ge 147, 3) := by decide +kernel
theorem dX12_nodeFor_19 : decode cX12_nodeFor 19 = .ok (.aload_n 0, 1) := by decide +kernel
theorem dX12_nodeFor_20 : decode cX12_nodeFor 20 = .ok (.iload 5, 2) := by decide +kernel
theorem dX12_nodeFor_22 : decode cX12_nodeFor 22 = .ok (.invokevirtual 305, 3) := by decide +kernel
theorem dX12_nodeFor_25 : decode cX12_nodeFor 25 = .ok (.ifCond .eq 22, 3) := by decide +kernel
theorem dX12_nodeFor_28 : decode cX12_nodeFor 28 = .ok (.aload_n 0, 1) := by decide +kernel
theorem dX12_nodeFor_29 : decode cX12_nodeFor 29 = .ok (.iload 5, 2) := by decide +kernel
theorem dX12_nodeFor_31 : decode cX12_nodeFor 31 = .ok (.bipush 7, 2) := by decide +kernel
theorem dX12_nodeFor_33 : decode cX12_nodeFor 33 = .ok (.invokevirtual 204, 3) := by decide +kernel
theorem dX12_nodeFor_36 : decode cX12_nodeFor 36 = .ok (.aload_n 0, 1) := by decide +kernel
theorem dX12_nodeFor_37 : decode cX12_nodeFor 37 = .ok (.iload 5, 2) := by decide +kernel
theorem dX12_nodeFor_39 : decode cX12_nodeFor 39 = .ok (.iconst 0, 1) := by decide +kernel
theorem dX12_nodeFor_40 : decode cX12_nodeFor 40 = .ok (.invokevirtual 308, 3) := by decide +kernel
theorem dX12_nodeFor_43 : decode cX12_nodeFor 43 = .ok (.isub, 1) := by decide +kernel
theorem dX12_nodeFor_44 : decode cX12_nodeFor 44 = .ok (.goto 4, 3) := by decide +kernel
theorem dX12_nodeFor_47 : decode cX12_nodeFor 47 = .ok (.iconst 0, 1) := by decide +kernel
theorem dX12_nodeFor_48 : decode cX12_nodeFor 48 = .ok (.istore 6, 2) := by decide +kernel
theorem dX12_nodeFor_50 : decode cX12_nodeFor 50 = .ok (.aload_n 0, 1) := by decide +kernel
theorem dX12_nodeFor_51 : decode cX12_nodeFor 51 = .ok (.iload 5, 2) := by decide +kernel
theorem dX12_nodeFor_53 : decode cX12_nodeFor 53 = .ok (.invokevirtual 305, 3) := by decide +kernel
theorem dX12_nodeFor_56 : decode cX12_nodeFor 56 = .ok (.ifCond .eq 101, 3) := by decide +kernel
theorem dX12_nodeFor_59 : decode cX12_nodeFor 59 = .ok (.iload 6, 2) := by decide +kernel
theorem dX12_nodeFor_61 : decode cX12_nodeFor 61 = .ok (.aload_n 0, 1) := by decide +kernel
theorem dX12_nodeFor_62 : decode cX12_nodeFor 62 = .ok (.iload_n 1, 1) := by decide +kernel
theorem dX12_nodeFor_63 : decode cX12_nodeFor 63 = .ok (.iconst 1, 1) := by decide +kernel
theorem dX12_nodeFor_64 : decode cX12_nodeFor 64 = .ok (.invokevirtual 204, 3) := by decide +kernel
theorem dX12_nodeFor_67 : decode cX12_nodeFor 67 = .ok (.invokestatic 276, 3) := by decide +kernel
theorem dX12_nodeFor_70 : decode cX12_nodeFor 70 = .ok (.if_icmp .lt 87, 3) := by decide +kernel
theorem dX12_nodeFor_73 : decode cX12_nodeFor 73 = .ok (.aload_n 0, 1) := by decide +kernel
theorem dX12_nodeFor_74 : decode cX12_nodeFor 74 = .ok (.iload_n 1, 1) := by decide +kernel
theorem dX12_nodeFor_75 : decode cX12_nodeFor 75 = .ok (.aload_n 0, 1) := by decide +kernel
theorem dX12_nodeFor_76 : decode cX12_nodeFor 76 = .ok (.iload 5, 2) := by decide +kernel
theorem dX12_nodeFor_78 : decode cX12_nodeFor 78 = .ok (.bipush 8, 2) := by decide +kernel
theorem dX12_nodeFor_80 : decode cX12_nodeFor 80 = .ok (.invokevirtual 204, 3) := by decide +kernel
theorem dX12_nodeFor_83 : decode cX12_nodeFor 83 = .ok (.invokevirtual 311, 3) := by decide +kernel
theorem dX12_nodeFor_86 : decode cX12_nodeFor 86 = .ok (.istore 7, 2) := by decide +kernel
theorem dX12_nodeFor_88 : decode cX12_nodeFor 88 = .ok (.iload_n 2, 1) := by decide +kernel
theorem dX12_nodeFor_89 : decode cX12_nodeFor 89 = .ok (.iconst (-1), 1) := by decide +kernel
theorem dX12_nodeFor_90 : decode cX12_nodeFor 90 = .ok (.if_icmp .eq 22, 3) := by decide +kernel
theorem dX12_nodeFor_93 : decode cX12_nodeFor 93 = .ok (.iload 7, 2) := by decide +kernel
theorem dX12_nodeFor_95 : decode cX12_nodeFor 95 = .ok (.iload_n 3, 1) := by decide +kernel
theorem dX12_nodeFor_96 : decode cX12_nodeFor 96 = .ok (.if_icmp .lt 16, 3) := by decide +kernel
theorem dX12_nodeFor_99 : decode cX12_nodeFor 99 = .ok (.iload 7, 2) := by decide +kernel
theorem dX12_nodeFor_101 : decode cX12_nodeFor 101 = .ok (.iload_n 3, 1) := by decide +kernel
theorem dX12_nodeFor_102 : decode cX12_nodeFor 102 = .ok (.if_icmp .ne 14, 3) := by decide +kernel
theorem dX12_nodeFor_105 : decode cX12_nodeFor 105 = .ok (.iload 6, 2) := by decide +kernel
theorem dX12_nodeFor_107 : decode cX12_nodeFor 107 = .ok (.iload 4, 2) := by decide +kernel
theorem dX12_nodeFor_109 : decode cX12_nodeFor 109 = .ok (.if_icmp .le 7, 3) := by decide +kernel
theorem dX12_nodeFor_112 : decode cX12_nodeFor 112 = .ok (.iconst 1, 1) := by decide +kernel
theorem dX12_nodeFor_113 : decode cX12_nodeFor 113 = .ok (.goto 4, 3) := by decide +kernel
theorem dX12_nodeFor_116 : decode cX12_nodeFor 116 = .ok (.iconst 0, 1) := by decide +kernel
theorem dX12_nodeFor_117 : decode cX12_nodeFor 117 = .ok (.istore 8, 2) := by decide +kernel
theorem dX12_nodeFor_119 : decode cX12_nodeFor 119 = .ok (.iload 8, 2) := by decide +kernel
theorem dX12_nodeFor_121 : decode cX12_nodeFor 121 = .ok (.ifCond .eq 8, 3) := by decide +kernel
theorem dX12_nodeFor_124 : decode cX12_nodeFor 124 = .ok (.iload 5, 2) := by decide +kernel
theorem dX12_nodeFor_126 : decode cX12_nodeFor 126 = .ok (.goto 4, 3) := by decide +kernel
theorem dX12_nodeFor_129 : decode cX12_nodeFor 129 = .ok (.iload_n 2, 1) := by decide +kernel
theorem dX12_nodeFor_130 : decode cX12_nodeFor 130 = .ok (.istore_n 2, 1) := by decide +kernel
theorem dX12_nodeFor_131 : decode cX12_nodeFor 131 = .ok (.iload 8, 2) := by decide +kernel
theorem dX12_nodeFor_133 : decode cX12_nodeFor 133 = .ok (.ifCond .eq 8, 3) := by decide +kernel
theorem dX12_nodeFor_136 : decode cX12_nodeFor 136 = .ok (.iload 7, 2) := by decide +kernel
theorem dX12_nodeFor_138 : decode cX12_nodeFor 138 = .ok (.goto 4, 3) := by decide +kernel
theorem dX12_nodeFor_141 : decode cX12_nodeFor 141 = .ok (.iload_n 3, 1) := by decide +kernel
theorem dX12_nodeFor_142 : decode cX12_nodeFor 142 = .ok (.istore_n 3, 1) := by decide +kernel
theorem dX12_nodeFor_143 : decode cX12_nodeFor 143 = .ok (.iload 8, 2) := by decide +kernel
theorem dX12_nodeFor_145 : decode cX12_nodeFor 145 = .ok (.ifCond .eq 8, 3) := by decide +kernel
theorem dX12_nodeFor_148 : decode cX12_nodeFor 148 = .ok (.iload 6, 2) := by decide +kernel
theorem dX12_nodeFor_150 : decode cX12_nodeFor 150 = .ok (.goto 5, 3) := by decide +kernel
theorem dX12_nodeFor_153 : decode cX12_nodeFor 153 = .ok (.iload 4, 2) := by decide +kernel
theorem dX12_nodeFor_155 : decode cX12_nodeFor 155 = .ok (.istore 4, 2) := by decide +kernel
theorem dX12_nodeFor_157 : decode cX12_nodeFor 157 = .ok (.iinc 5 1, 3) := by decide +kernel
theorem dX12_nodeFor_160 : decode cX12_nodeFor 160 = .ok (.goto (-150), 3) := by decide +kernel
theorem dX12_nodeFor_163 : decode cX12_nodeFor 163 = .ok (.iload_n 2, 1) := by decide +kernel
theorem dX12_nodeFor_164 : decode cX12_nodeFor 164 = .ok (.ireturn, 1) := by decide +kernel
theorem dX12_laysVictims_0 : decode cX12_laysVictims 0 = .ok (.aload_n 0, 1) := by decide +kernel
theorem dX12_laysVictims_1 : decode cX12_laysVictims 1 = .ok (.iload_n 1, 1) := by decide +kernel
theorem dX12_laysVictims_2 : decode cX12_laysVictims 2 = .ok (.iconst 1, 1) := by decide +kernel
theorem dX12_laysVictims_3 : decode cX12_laysVictims 3 = .ok (.invokevirtual 204, 3) := by decide +kernel
theorem dX12_laysVictims_6 : decode cX12_laysVictims 6 = .ok (.iconst 4, 1) := by decide +kernel
theorem dX12_laysVictims_7 : decode cX12_laysVictims 7 = .ok (.idiv, 1) := by decide +kernel
theorem dX12_laysVictims_8 : decode cX12_laysVictims 8 = .ok (.istore_n 3, 1) := by decide +kernel
theorem dX12_laysVictims_9 : decode cX12_laysVictims 9 = .ok (.aload_n 0, 1) := by decide +kernel
theorem dX12_laysVictims_10 : decode cX12_laysVictims 10 = .ok (.iload_n 1, 1) := by decide +kernel
theorem dX12_laysVictims_11 : decode cX12_laysVictims 11 = .ok (.iconst 1, 1) := by decide +kernel
theorem dX12_laysVictims_12 : decode cX12_laysVictims 12 = .ok (.invokevirtual 204, 3) := by decide +kernel
theorem dX12_laysVictims_15 : decode cX12_laysVictims 15 = .ok (.invokestatic 276, 3) := by decide +kernel
theorem dX12_laysVictims_18 : decode cX12_laysVictims 18 = .ok (.aload_n 0, 1) := by decide +kernel
theorem dX12_laysVictims_19 : decode cX12_laysVictims 19 = .ok (.iload_n 2, 1) := by decide +kernel
theorem dX12_laysVictims_20 : decode cX12_laysVictims 20 = .ok (.bipush 7, 2) := by decide +kernel
theorem dX12_laysVictims_22 : decode cX12_laysVictims 22 = .ok (.invokevirtual 204, 3) := by decide +kernel
theorem dX12_laysVictims_25 : decode cX12_laysVictims 25 = .ok (.isub, 1) := by decide +kernel
theorem dX12_laysVictims_26 : decode cX12_laysVictims 26 = .ok (.aload_n 0, 1) := by decide +kernel
theorem dX12_laysVictims_27 : decode cX12_laysVictims 27 = .ok (.iload_n 2, 1) := by decide +kernel
theorem dX12_laysVictims_28 : decode cX12_laysVictims 28 = .ok (.iconst 0, 1) := by decide +kernel
theorem dX12_laysVictims_29 : decode cX12_laysVictims 29 = .ok (.invokevirtual 308, 3) := by decide +kernel
theorem dX12_laysVictims_32 : decode cX12_laysVictims 32 = .ok (.iadd, 1) := by decide +kernel
theorem dX12_laysVictims_33 : decode cX12_laysVictims 33 = .ok (.istore 4, 2) := by decide +kernel
theorem dX12_laysVictims_35 : decode cX12_laysVictims 35 = .ok (.iconst 0, 1) := by decide +kernel
theorem dX12_laysVictims_36 : decode cX12_laysVictims 36 = .ok (.istore 5, 2) := by decide +kernel
theorem dX12_laysVictims_38 : decode cX12_laysVictims 38 = .ok (.iconst 0, 1) := by decide +kernel
theorem dX12_laysVictims_39 : decode cX12_laysVictims 39 = .ok (.istore 6, 2) := by decide +kernel
theorem dX12_laysVictims_41 : decode cX12_laysVictims 41 = .ok (.iload 6, 2) := by decide +kernel
theorem dX12_laysVictims_43 : decode cX12_laysVictims 43 = .ok (.iload_n 3, 1) := by decide +kernel
theorem dX12_laysVictims_44 : decode cX12_laysVictims 44 = .ok (.if_icmp .ge 122, 3) := by decide +kernel
theorem dX12_laysVictims_47 : decode cX12_laysVictims 47 = .ok (.aload_n 0, 1) := by decide +kernel
theorem dX12_laysVictims_48 : decode cX12_laysVictims 48 = .ok (.getfield 137, 3) := by decide +kernel
theorem dX12_laysVictims_51 : decode cX12_laysVictims 51 = .ok (.iconst 1, 1) := by decide +kernel
theorem dX12_laysVictims_52 : decode cX12_laysVictims 52 = .ok (.isub, 1) := by decide +kernel
theorem dX12_laysVictims_53 : decode cX12_laysVictims 53 = .ok (.istore 7, 2) := by decide +kernel
theorem dX12_laysVictims_55 : decode cX12_laysVictims 55 = .ok (.iload 7, 2) := by decide +kernel
theorem dX12_laysVictims_57 : decode cX12_laysVictims 57 = .ok (.ifCond .lt 103, 3) := by decide +kernel
theorem dX12_laysVictims_60 : decode cX12_laysVictims 60 = .ok (.iload 4, 2) := by decide +kernel
theorem dX12_laysVictims_62 : decode cX12_laysVictims 62 = .ok (.ifCond .le 98, 3) := by decide +kernel
theorem dX12_laysVictims_65 : decode cX12_laysVictims 65 = .ok (.aload_n 0, 1) := by decide +kernel
theorem dX12_laysVictims_66 : decode cX12_laysVictims 66 = .ok (.iload 7, 2) := by decide +kernel
theorem dX12_laysVictims_68 : decode cX12_laysVictims 68 = .ok (.iconst 2, 1) := by decide +kernel
theorem dX12_laysVictims_69 : decode cX12_laysVictims 69 = .ok (.invokevirtual 269, 3) := by decide +kernel
theorem dX12_laysVictims_72 : decode cX12_laysVictims 72 = .ok (.ifCond .eq 47, 3) := by decide +kernel
theorem dX12_laysVictims_75 : decode cX12_laysVictims 75 = .ok (.aload_n 0, 1) := by decide +kernel
theorem dX12_laysVictims_76 : decode cX12_laysVictims 76 = .ok (.iload 7, 2) := by decide +kernel
theorem dX12_laysVictims_78 : decode cX12_laysVictims 78 = .ok (.bipush 15, 2) := by decide +kernel
theorem dX12_laysVictims_80 : decode cX12_laysVictims 80 = .ok (.invokevirtual 204, 3) := by decide +kernel
theorem dX12_laysVictims_83 : decode cX12_laysVictims 83 = .ok (.iload_n 2, 1) := by decide +kernel
theorem dX12_laysVictims_84 : decode cX12_laysVictims 84 = .ok (.iconst 1, 1) := by decide +kernel
theorem dX12_laysVictims_85 : decode cX12_laysVictims 85 = .ok (.iadd, 1) := by decide +kernel
theorem dX12_laysVictims_86 : decode cX12_laysVictims 86 = .ok (.if_icmp .ne 33, 3) := by decide +kernel
theorem dX12_laysVictims_89 : decode cX12_laysVictims 89 = .ok (.aload_n 0, 1) := by decide +kernel
theorem dX12_laysVictims_90 : decode cX12_laysVictims 90 = .ok (.iload 7, 2) := by decide +kernel
theorem dX12_laysVictims_92 : decode cX12_laysVictims 92 = .ok (.bipush 16, 2) := by decide +kernel
theorem dX12_laysVictims_94 : decode cX12_laysVictims 94 = .ok (.invokevirtual 204, 3) := by decide +kernel
theorem dX12_laysVictims_97 : decode cX12_laysVictims 97 = .ok (.iconst 1, 1) := by decide +kernel
theorem dX12_laysVictims_98 : decode cX12_laysVictims 98 = .ok (.if_icmp .gt 21, 3) := by decide +kernel
theorem dX12_laysVictims_101 : decode cX12_laysVictims 101 = .ok (.aload_n 0, 1) := by decide +kernel
theorem dX12_laysVictims_102 : decode cX12_laysVictims 102 = .ok (.iload 7, 2) := by decide +kernel
theorem dX12_laysVictims_104 : decode cX12_laysVictims 104 = .ok (.iconst 1, 1) := by decide +kernel
theorem dX12_laysVictims_105 : decode cX12_laysVictims 105 = .ok (.invokevirtual 204, 3) := by decide +kernel
theorem dX12_laysVictims_108 : decode cX12_laysVictims 108 = .ok (.iconst 4, 1) := by decide +kernel
theorem dX12_laysVictims_109 : decode cX12_laysVictims 109 = .ok (.idiv, 1) := by decide +kernel
theorem dX12_laysVictims_110 : decode cX12_laysVictims 110 = .ok (.iload 6, 2) := by decide +kernel
theorem dX12_laysVictims_112 : decode cX12_laysVictims 112 = .ok (.if_icmp .ne 7, 3) := by decide +kernel
theorem dX12_laysVictims_115 : decode cX12_laysVictims 115 = .ok (.iconst 1, 1) := by decide +kernel
theorem dX12_laysVictims_116 : decode cX12_laysVictims 116 = .ok (.goto 4, 3) := by decide +kernel
theorem dX12_laysVictims_119 : decode cX12_laysVictims 119 = .ok (.iconst 0, 1) := by decide +kernel
theorem dX12_laysVictims_120 : decode cX12_laysVictims 120 = .ok (.istore 8, 2) := by decide +kernel
theorem dX12_laysVictims_122 : decode cX12_laysVictims 122 = .ok (.iload 8, 2) := by decide +kernel
theorem dX12_laysVictims_124 : decode cX12_laysVictims 124 = .ok (.ifCond .eq 30, 3) := by decide +kernel
theorem dX12_laysVictims_127 : decode cX12_laysVictims 127 = .ok (.aload_n 0, 1) := by decide +kernel
theorem dX12_laysVictims_128 : decode cX12_laysVictims 128 = .ok (.getfield 121, 3) := by decide +kernel
theorem dX12_laysVictims_131 : decode cX12_laysVictims 131 = .ok (.iload 5, 2) := by decide +kernel
theorem dX12_laysVictims_133 : decode cX12_laysVictims 133 = .ok (.iload 7, 2) := by decide +kernel
theorem dX12_laysVictims_135 : decode cX12_laysVictims 135 = .ok (.iastore, 1) := by decide +kernel
theorem dX12_laysVictims_136 : decode cX12_laysVictims 136 = .ok (.iinc 5 1, 3) := by decide +kernel
theorem dX12_laysVictims_139 : decode cX12_laysVictims 139 = .ok (.iload 4, 2) := by decide +kernel
theorem dX12_laysVictims_141 : decode cX12_laysVictims 141 = .ok (.aload_n 0, 1) := by decide +kernel
theorem dX12_laysVictims_142 : decode cX12_laysVictims 142 = .ok (.iload 7, 2) := by decide +kernel
theorem dX12_laysVictims_144 : decode cX12_laysVictims 144 = .ok (.iconst 1, 1) := by decide +kernel
theorem dX12_laysVictims_145 : decode cX12_laysVictims 145 = .ok (.invokevirtual 204, 3) := by decide +kernel
theorem dX12_laysVictims_148 : decode cX12_laysVictims 148 = .ok (.invokestatic 276, 3) := by decide +kernel
theorem dX12_laysVictims_151 : decode cX12_laysVictims 151 = .ok (.isub, 1) := by decide +kernel
theorem dX12_laysVictims_152 : decode cX12_laysVictims 152 = .ok (.istore 4, 2) := by decide +kernel
theorem dX12_laysVictims_154 : decode cX12_laysVictims 154 = .ok (.iinc 7 (-1), 3) := by decide +kernel
theorem dX12_laysVictims_157 : decode cX12_laysVictims 157 = .ok (.goto (-102), 3) := by decide +kernel
theorem dX12_laysVictims_160 : decode cX12_laysVictims 160 = .ok (.iinc 6 1, 3) := by decide +kernel
theorem dX12_laysVictims_163 : decode cX12_laysVictims 163 = .ok (.goto (-122), 3) := by decide +kernel
theorem dX12_laysVictims_166 : decode cX12_laysVictims 166 = .ok (.iload 4, 2) := by decide +kernel
theorem dX12_laysVictims_168 : decode cX12_laysVictims 168 = .ok (.ifCond .le 7, 3) := by decide +kernel
theorem dX12_laysVictims_171 : decode cX12_laysVictims 171 = .ok (.iconst (-1), 1) := by decide +kernel
theorem dX12_laysVictims_172 : decode cX12_laysVictims 172 = .ok (.goto 5, 3) := by decide +kernel
theorem dX12_laysVictims_175 : decode cX12_laysVictims 175 = .ok (.iload 5, 2) := by decide +kernel
theorem dX12_laysVictims_177 : decode cX12_laysVictims 177 = .ok (.ireturn, 1) := by decide +kernel
theorem dX12_preempts_0 : decode cX12_preempts 0 = .ok (.iconst (-1), 1) := by decide +kernel
theorem dX12_preempts_1 : decode cX12_preempts 1 = .ok (.istore_n 2, 1) := by decide +kernel
theorem dX12_preempts_2 : decode cX12_preempts 2 = .ok (.iconst 0, 1) := by decide +kernel
theorem dX12_preempts_3 : decode cX12_preempts 3 = .ok (.istore_n 3, 1) := by decide +kernel
theorem dX12_preempts_4 : decode cX12_preempts 4 = .ok (.iload_n 3, 1) := by decide +kernel
theorem dX12_preempts_5 : decode cX12_preempts 5 = .ok (.aload_n 0, 1) := by decide +kernel
theorem dX12_preempts_6 : decode cX12_preempts 6 = .ok (.getfield 137, 3) := by decide +kernel
theorem dX12_preempts_9 : decode cX12_preempts 9 = .ok (.if_icmp .ge 79, 3) := by decide +kernel
theorem dX12_preempts_12 : decode cX12_preempts 12 = .ok (.aload_n 0, 1) := by decide +kernel
theorem dX12_preempts_13 : decode cX12_preempts 13 = .ok (.iload_n 3, 1) := by decide +kernel
theorem dX12_preempts_14 : decode cX12_preempts 14 = .ok (.invokevirtual 305, 3) := by decide +kernel
theorem dX12_preempts_17 : decode cX12_preempts 17 = .ok (.ifCond .eq 12, 3) := by decide +kernel
theorem dX12_preempts_20 : decode cX12_preempts 20 = .ok (.aload_n 0, 1) := by decide +kernel
theorem dX12_preempts_21 : decode cX12_preempts 21 = .ok (.iload_n 1, 1) := by decide +kernel
theorem dX12_preempts_22 : decode cX12_preempts 22 = .ok (.iload_n 3, 1) := by decide +kernel
theorem dX12_preempts_23 : decode cX12_preempts 23 = .ok (.invokevirtual 314, 3) := by decide +kernel
theorem dX12_preempts_26 : decode cX12_preempts 26 = .ok (.goto 4, 3) := by decide +kernel
theorem dX12_preempts_29 : decode cX12_preempts 29 = .ok (.iconst (-1), 1) := by decide +kernel
theorem dX12_preempts_30 : decode cX12_preempts 30 = .ok (.istore 4, 2) := by decide +kernel
theorem dX12_preempts_32 : decode cX12_preempts 32 = .ok (.iload 4, 2) := by decide +kernel
theorem dX12_preempts_34 : decode cX12_preempts 34 = .ok (.iconst (-1), 1) := by decide +kernel
theorem dX12_preempts_35 : decode cX12_preempts 35 = .ok (.if_icmp .eq 47, 3) := by decide +kernel
theorem dX12_preempts_38 : decode cX12_preempts 38 = .ok (.iload_n 2, 1) := by decide +kernel
theorem dX12_preempts_39 : decode cX12_preempts 39 = .ok (.iconst (-1), 1) := by decide +kernel
theorem dX12_preempts_40 : decode cX12_preempts 40 = .ok (.if_icmp .eq 9, 3) := by decide +kernel
theorem dX12_preempts_43 : decode cX12_preempts 43 = .ok (.iload 4, 2) := by decide +kernel
theorem dX12_preempts_45 : decode cX12_preempts 45 = .ok (.iload_n 2, 1) := by decide +kernel
theorem dX12_preempts_46 : decode cX12_preempts 46 = .ok (.if_icmp .ge 36, 3) := by decide +kernel
theorem dX12_preempts_49 : decode cX12_preempts 49 = .ok (.iload 4, 2) := by decide +kernel
theorem dX12_preempts_51 : decode cX12_preempts 51 = .ok (.istore_n 2, 1) := by decide +kernel
theorem dX12_preempts_52 : decode cX12_preempts 52 = .ok (.iconst 0, 1) := by decide +kernel
theorem dX12_preempts_53 : decode cX12_preempts 53 = .ok (.istore 5, 2) := by decide +kernel
theorem dX12_preempts_55 : decode cX12_preempts 55 = .ok (.iload 5, 2) := by decide +kernel
theorem dX12_preempts_57 : decode cX12_preempts 57 = .ok (.iload 4, 2) := by decide +kernel
theorem dX12_preempts_59 : decode cX12_preempts 59 = .ok (.if_icmp .ge 23, 3) := by decide +kernel
theorem dX12_preempts_62 : decode cX12_preempts 62 = .ok (.aload_n 0, 1) := by decide +kernel
theorem dX12_preempts_63 : decode cX12_preempts 63 = .ok (.getfield 124, 3) := by decide +kernel
theorem dX12_preempts_66 : decode cX12_preempts 66 = .ok (.iload 5, 2) := by decide +kernel
theorem dX12_preempts_68 : decode cX12_preempts 68 = .ok (.aload_n 0, 1) := by decide +kernel
theorem dX12_preempts_69 : decode cX12_preempts 69 = .ok (.getfield 121, 3) := by decide +kernel
theorem dX12_preempts_72 : decode cX12_preempts 72 = .ok (.iload 5, 2) := by decide +kernel
theorem dX12_preempts_74 : decode cX12_preempts 74 = .ok (.iaload, 1) := by decide +kernel
theorem dX12_preempts_75 : decode cX12_preempts 75 = .ok (.iastore, 1) := by decide +kernel
theorem dX12_preempts_76 : decode cX12_preempts 76 = .ok (.iinc 5 1, 3) := by decide +kernel
theorem dX12_preempts_79 : decode cX12_preempts 79 = .ok (.goto (-24), 3) := by decide +kernel
theorem dX12_preempts_82 : decode cX12_preempts 82 = .ok (.iinc 3 1, 3) := by decide +kernel
theorem dX12_preempts_85 : decode cX12_preempts 85 = .ok (.goto (-81), 3) := by decide +kernel
theorem dX12_preempts_88 : decode cX12_preempts 88 = .ok (.iconst 1, 1) := by decide +kernel
theorem dX12_preempts_89 : decode cX12_preempts 89 = .ok (.istore_n 3, 1) := by decide +kernel
theorem dX12_preempts_90 : decode cX12_preempts 90 = .ok (.iconst 0, 1) := by decide +kernel
theorem dX12_preempts_91 : decode cX12_preempts 91 = .ok (.istore 4, 2) := by decide +kernel
theorem dX12_preempts_93 : decode cX12_preempts 93 = .ok (.iload 4, 2) := by decide +kernel
theorem dX12_preempts_95 : decode cX12_preempts 95 = .ok (.iload_n 2, 1) := by decide +kernel
theorem dX12_preempts_96 : decode cX12_preempts 96 = .ok (.if_icmp .ge 25, 3) := by decide +kernel
theorem dX12_preempts_99 : decode cX12_preempts 99 = .ok (.iload_n 3, 1) := by decide +kernel
theorem dX12_preempts_100 : decode cX12_preempts 100 = .ok (.ifCond .eq 21, 3) := by decide +kernel
theorem dX12_preempts_103 : decode cX12_preempts 103 = .ok (.aload_n 0, 1) := by decide +kernel
theorem dX12_preempts_104 : decode cX12_preempts 104 = .ok (.aload_n 0, 1) := by decide +kernel
theorem dX12_preempts_105 : decode cX12_preempts 105 = .ok (.getfield 124, 3) := by decide +kernel
theorem dX12_preempts_108 : decode cX12_preempts 108 = .ok (.iload 4, 2) := by decide +kernel
theorem dX12_preempts_110 : decode cX12_preempts 110 = .ok (.iaload, 1) := by decide +kernel
theorem dX12_preempts_111 : decode cX12_preempts 111 = .ok (.invokevirtual 302, 3) := by decide +kernel
theorem dX12_preempts_114 : decode cX12_preempts 114 = .ok (.istore_n 3, 1) := by decide +kernel
theorem dX12_preempts_115 : decode cX12_preempts 115 = .ok (.iinc 4 1, 3) := by decide +kernel
theorem dX12_preempts_118 : decode cX12_preempts 118 = .ok (.goto (-25), 3) := by decide +kernel
theorem dX12_preempts_121 : decode cX12_preempts 121 = .ok (.return_, 1) := by decide +kernel
theorem dX12_schedules_0 : decode cX12_schedules 0 = .ok (.aload_n 0, 1) := by decide +kernel
theorem dX12_schedules_1 : decode cX12_schedules 1 = .ok (.aload_n 0, 1) := by decide +kernel
theorem dX12_schedules_2 : decode cX12_schedules 2 = .ok (.getfield 243, 3) := by decide +kernel
theorem dX12_schedules_5 : decode cX12_schedules 5 = .ok (.iconst 2, 1) := by decide +kernel
theorem dX12_schedules_6 : decode cX12_schedules 6 = .ok (.invokevirtual 269, 3) := by decide +kernel
theorem dX12_schedules_9 : decode cX12_schedules 9 = .ok (.ifCond .eq 29, 3) := by decide +kernel
theorem dX12_schedules_12 : decode cX12_schedules 12 = .ok (.aload_n 0, 1) := by decide +kernel
theorem dX12_schedules_13 : decode cX12_schedules 13 = .ok (.aload_n 0, 1) := by decide +kernel
theorem dX12_schedules_14 : decode cX12_schedules 14 = .ok (.getfield 243, 3) := by decide +kernel
theorem dX12_schedules_17 : decode cX12_schedules 17 = .ok (.bipush 16, 2) := by decide +kernel
theorem dX12_schedules_19 : decode cX12_schedules 19 = .ok (.invokevirtual 204, 3) := by decide +kernel
theorem dX12_schedules_22 : decode cX12_schedules 22 = .ok (.ifCond .ne 16, 3) := by decide +kernel
theorem dX12_schedules_25 : decode cX12_schedules 25 = .ok (.aload_n 0, 1) := by decide +kernel
theorem dX12_schedules_26 : decode cX12_schedules 26 = .ok (.aload_n 0, 1) := by decide +kernel
theorem dX12_schedules_27 : decode cX12_schedules 27 = .ok (.getfield 243, 3) := by decide +kernel
theorem dX12_schedules_30 : decode cX12_schedules 30 = .ok (.bipush 15, 2) := by decide +kernel
theorem dX12_schedules_32 : decode cX12_schedules 32 = .ok (.invokevirtual 204, 3) := by decide +kernel
theorem dX12_schedules_35 : decode cX12_schedules 35 = .ok (.ifCond .le 5, 3) := by decide +kernel
theorem dX12_schedules_38 : decode cX12_schedules 38 = .ok (.iconst 1, 1) := by decide +kernel
theorem dX12_schedules_39 : decode cX12_schedules 39 = .ok (.ireturn, 1) := by decide +kernel
theorem dX12_schedules_40 : decode cX12_schedules 40 = .ok (.aload_n 0, 1) := by decide +kernel
theorem dX12_schedules_41 : decode cX12_schedules 41 = .ok (.aload_n 0, 1) := by decide +kernel
theorem dX12_schedules_42 : decode cX12_schedules 42 = .ok (.getfield 243, 3) := by decide +kernel
theorem dX12_schedules_45 : decode cX12_schedules 45 = .ok (.invokevirtual 317, 3) := by decide +kernel
theorem dX12_schedules_48 : decode cX12_schedules 48 = .ok (.istore_n 1, 1) := by decide +kernel
theorem dX12_schedules_49 : decode cX12_schedules 49 = .ok (.iload_n 1, 1) := by decide +kernel
theorem dX12_schedules_50 : decode cX12_schedules 50 = .ok (.iconst (-1), 1) := by decide +kernel
theorem dX12_schedules_51 : decode cX12_schedules 51 = .ok (.if_icmp .eq 39, 3) := by decide +kernel
theorem dX12_schedules_54 : decode cX12_schedules 54 = .ok (.aload_n 0, 1) := by decide +kernel
theorem dX12_schedules_55 : decode cX12_schedules 55 = .ok (.aload_n 0, 1) := by decide +kernel
theorem dX12_schedules_56 : decode cX12_schedules 56 = .ok (.getfield 243, 3) := by decide +kernel
theorem dX12_schedules_59 : decode cX12_schedules 59 = .ok (.aload_n 0, 1) := by decide +kernel
theorem dX12_schedules_60 : decode cX12_schedules 60 = .ok (.aload_n 0, 1) := by decide +kernel
theorem dX12_schedules_61 : decode cX12_schedules 61 = .ok (.getfield 28, 3) := by decide +kernel
theorem dX12_schedules_64 : decode cX12_schedules 64 = .ok (.aload_n 0, 1) := by decide +kernel
theorem dX12_schedules_65 : decode cX12_schedules 65 = .ok (.getfield 243, 3) := by decide +kernel
theorem dX12_schedules_68 : decode cX12_schedules 68 = .ok (.laload, 1) := by decide +kernel
theorem dX12_schedules_69 : decode cX12_schedules 69 = .ok (.bipush 15, 2) := by decide +kernel
theorem dX12_schedules_71 : decode cX12_schedules 71 = .ok (.iload_n 1, 1) := by decide +kernel
theorem dX12_schedules_72 : decode cX12_schedules 72 = .ok (.iconst 1, 1) := by decide +kernel
theorem dX12_schedules_73 : decode cX12_schedules 73 = .ok (.iadd, 1) := by decide +kernel
theorem dX12_schedules_74 : decode cX12_schedules 74 = .ok (.invokevirtual 150, 3) := by decide +kernel
theorem dX12_schedules_77 : decode cX12_schedules 77 = .ok (.aload_n 0, 1) := by decide +kernel
theorem dX12_schedules_78 : decode cX12_schedules 78 = .ok (.getfield 32, 3) := by decide +kernel
theorem dX12_schedules_81 : decode cX12_schedules 81 = .ok (.aload_n 0, 1) := by decide +kernel
theorem dX12_schedules_82 : decode cX12_schedules 82 = .ok (.getfield 243, 3) := by decide +kernel
theorem dX12_schedules_85 : decode cX12_schedules 85 = .ok (.laload, 1) := by decide +kernel
theorem dX12_schedules_86 : decode cX12_schedules 86 = .ok (.invokevirtual 261, 3) := by decide +kernel
theorem dX12_schedules_89 : decode cX12_schedules 89 = .ok (.ireturn, 1) := by decide +kernel
theorem dX12_schedules_90 : decode cX12_schedules 90 = .ok (.aload_n 0, 1) := by decide +kernel
theorem dX12_schedules_91 : decode cX12_schedules 91 = .ok (.aload_n 0, 1) := by decide +kernel
theorem dX12_schedules_92 : decode cX12_schedules 92 = .ok (.getfield 243, 3) := by decide +kernel
theorem dX12_schedules_95 : decode cX12_schedules 95 = .ok (.invokevirtual 320, 3) := by decide +kernel
theorem dX12_schedules_98 : decode cX12_schedules 98 = .ok (.iconst 0, 1) := by decide +kernel
theorem dX12_schedules_99 : decode cX12_schedules 99 = .ok (.ireturn, 1) := by decide +kernel
theorem dX12_runs_0 : decode cX12_runs 0 = .ok (.aload_n 0, 1) := by decide +kernel
theorem dX12_runs_1 : decode cX12_runs 1 = .ok (.aload_n 0, 1) := by decide +kernel
theorem dX12_runs_2 : decode cX12_runs 2 = .ok (.getfield 243, 3) := by decide +kernel
theorem dX12_runs_5 : decode cX12_runs 5 = .ok (.invokevirtual 211, 3) := by decide +kernel
theorem dX12_runs_8 : decode cX12_runs 8 = .ok (.ifCond .ne 29, 3) := by decide +kernel
theorem dX12_runs_11 : decode cX12_runs 11 = .ok (.aload_n 0, 1) := by decide +kernel
theorem dX12_runs_12 : decode cX12_runs 12 = .ok (.getfield 25, 3) := by decide +kernel
theorem dX12_runs_15 : decode cX12_runs 15 = .ok (.aload_n 0, 1) := by decide +kernel
theorem dX12_runs_16 : decode cX12_runs 16 = .ok (.getfield 243, 3) := by decide +kernel
theorem dX12_runs_19 : decode cX12_runs 19 = .ok (.iaload, 1) := by decide +kernel
theorem dX12_runs_20 : decode cX12_runs 20 = .ok (.iconst 2, 1) := by decide +kernel
theorem dX12_runs_21 : decode cX12_runs 21 = .ok (.if_icmp .ne 16, 3) := by decide +kernel
theorem dX12_runs_24 : decode cX12_runs 24 = .ok (.aload_n 0, 1) := by decide +kernel
theorem dX12_runs_25 : decode cX12_runs 25 = .ok (.aload_n 0, 1) := by decide +kernel
theorem dX12_runs_26 : decode cX12_runs 26 = .ok (.getfield 243, 3) := by decide +kernel
theorem dX12_runs_29 : decode cX12_runs 29 = .ok (.bipush 15, 2) := by decide +kernel
theorem dX12_runs_31 : decode cX12_runs 31 = .ok (.invokevirtual 204, 3) := by decide +kernel
theorem dX12_runs_34 : decode cX12_runs 34 = .ok (.ifCond .ne 5, 3) := by decide +kernel
theorem dX12_runs_37 : decode cX12_runs 37 = .ok (.iconst 1, 1) := by decide +kernel
theorem dX12_runs_38 : decode cX12_runs 38 = .ok (.ireturn, 1) := by decide +kernel
theorem dX12_runs_39 : decode cX12_runs 39 = .ok (.aload_n 0, 1) := by decide +kernel
theorem dX12_runs_40 : decode cX12_runs 40 = .ok (.getfield 28, 3) := by decide +kernel
theorem dX12_runs_43 : decode cX12_runs 43 = .ok (.aload_n 0, 1) := by decide +kernel
theorem dX12_runs_44 : decode cX12_runs 44 = .ok (.getfield 243, 3) := by decide +kernel
theorem dX12_runs_47 : decode cX12_runs 47 = .ok (.laload, 1) := by decide +kernel
theorem dX12_runs_48 : decode cX12_runs 48 = .ok (.lstore_n 1, 1) := by decide +kernel
theorem dX12_runs_49 : decode cX12_runs 49 = .ok (.aload_n 0, 1) := by decide +kernel
theorem dX12_runs_50 : decode cX12_runs 50 = .ok (.aload_n 0, 1) := by decide +kernel
theorem dX12_runs_51 : decode cX12_runs 51 = .ok (.getfield 243, 3) := by decide +kernel
theorem dX12_runs_54 : decode cX12_runs 54 = .ok (.bipush 15, 2) := by decide +kernel
theorem dX12_runs_56 : decode cX12_runs 56 = .ok (.invokevirtual 204, 3) := by decide +kernel
theorem dX12_runs_59 : decode cX12_runs 59 = .ok (.iconst 1, 1) := by decide +kernel
theorem dX12_runs_60 : decode cX12_runs 60 = .ok (.isub, 1) := by decide +kernel
theorem dX12_runs_61 : decode cX12_runs 61 = .ok (.istore_n 3, 1) := by decide +kernel
theorem dX12_runs_62 : decode cX12_runs 62 = .ok (.aload_n 0, 1) := by decide +kernel
theorem dX12_runs_63 : decode cX12_runs 63 = .ok (.aload_n 0, 1) := by decide +kernel
theorem dX12_runs_64 : decode cX12_runs 64 = .ok (.getfield 243, 3) := by decide +kernel
theorem dX12_runs_67 : decode cX12_runs 67 = .ok (.bipush 16, 2) := by decide +kernel
theorem dX12_runs_69 : decode cX12_runs 69 = .ok (.invokevirtual 204, 3) := by decide +kernel
theorem dX12_runs_72 : decode cX12_runs 72 = .ok (.istore 4, 2) := by decide +kernel
theorem dX12_runs_74 : decode cX12_runs 74 = .ok (.aload_n 0, 1) := by decide +kernel
theorem dX12_runs_75 : decode cX12_runs 75 = .ok (.aload_n 0, 1) := by decide +kernel
theorem dX12_runs_76 : decode cX12_runs 76 = .ok (.getfield 243, 3) := by decide +kernel
theorem dX12_runs_79 : decode cX12_runs 79 = .ok (.bipush 13, 2) := by decide +kernel
theorem dX12_runs_81 : decode cX12_runs 81 = .ok (.invokevirtual 204, 3) := by decide +kernel
theorem dX12_runs_84 : decode cX12_runs 84 = .ok (.ifCond .eq 49, 3) := by decide +kernel
theorem dX12_runs_87 : decode cX12_runs 87 = .ok (.aload_n 0, 1) := by decide +kernel
theorem dX12_runs_88 : decode cX12_runs 88 = .ok (.lload_n 1, 1) := by decide +kernel
theorem dX12_runs_89 : decode cX12_runs 89 = .ok (.bipush 15, 2) := by decide +kernel
theorem dX12_runs_91 : decode cX12_runs 91 = .ok (.iconst 0, 1) := by decide +kernel
theorem dX12_runs_92 : decode cX12_runs 92 = .ok (.invokevirtual 150, 3) := by decide +kernel
theorem dX12_runs_95 : decode cX12_runs 95 = .ok (.lstore_n 1, 1) := by decide +kernel
theorem dX12_runs_96 : decode cX12_runs 96 = .ok (.aload_n 0, 1) := by decide +kernel
theorem dX12_runs_97 : decode cX12_runs 97 = .ok (.aload_n 0, 1) := by decide +kernel
theorem dX12_runs_98 : decode cX12_runs 98 = .ok (.getfield 243, 3) := by decide +kernel
theorem dX12_runs_101 : decode cX12_runs 101 = .ok (.aload_n 0, 1) := by decide +kernel
theorem dX12_runs_102 : decode cX12_runs 102 = .ok (.lload_n 1, 1) := by decide +kernel
theorem dX12_runs_103 : decode cX12_runs 103 = .ok (.bipush 12, 2) := by decide +kernel
theorem dX12_runs_105 : decode cX12_runs 105 = .ok (.invokevirtual 146, 3) := by decide +kernel
theorem dX12_runs_108 : decode cX12_runs 108 = .ok (.ifCond .ne 11, 3) := by decide +kernel
theorem dX12_runs_111 : decode cX12_runs 111 = .ok (.aload_n 0, 1) := by decide +kernel
theorem dX12_runs_112 : decode cX12_runs 112 = .ok (.lload_n 1, 1) := by decide +kernel
theorem dX12_runs_113 : decode cX12_runs 113 = .ok (.invokevirtual 189, 3) := by decide +kernel
theorem dX12_runs_116 : decode cX12_runs 116 = .ok (.goto 4, 3) := by decide +kernel
theorem dX12_runs_119 : decode cX12_runs 119 = .ok (.lload_n 1, 1) := by decide +kernel
theorem dX12_runs_120 : decode cX12_runs 120 = .ok (.aload_n 0, 1) := by decide +kernel
theorem dX12_runs_121 : decode cX12_runs 121 = .ok (.getfield 32, 3) := by decide +kernel
theorem dX12_runs_124 : decode cX12_runs 124 = .ok (.aload_n 0, 1) := by decide +kernel
theorem dX12_runs_125 : decode cX12_runs 125 = .ok (.getfield 243, 3) := by decide +kernel
theorem dX12_runs_128 : decode cX12_runs 128 = .ok (.laload, 1) := by decide +kernel
theorem dX12_runs_129 : decode cX12_runs 129 = .ok (.invokevirtual 261, 3) := by decide +kernel
theorem dX12_runs_132 : decode cX12_runs 132 = .ok (.ireturn, 1) := by decide +kernel
theorem dX12_runs_133 : decode cX12_runs 133 = .ok (.aload_n 0, 1) := by decide +kernel
theorem dX12_runs_134 : decode cX12_runs 134 = .ok (.iload_n 3, 1) := by decide +kernel
theorem dX12_runs_135 : decode cX12_runs 135 = .ok (.invokevirtual 211, 3) := by decide +kernel
theorem dX12_runs_138 : decode cX12_runs 138 = .ok (.ifCond .ne 24, 3) := by decide +kernel
theorem dX12_runs_141 : decode cX12_runs 141 = .ok (.aload_n 0, 1) := by decide +kernel
theorem dX12_runs_142 : decode cX12_runs 142 = .ok (.iload_n 3, 1) := by decide +kernel
theorem dX12_runs_143 : decode cX12_runs 143 = .ok (.bipush 14, 2) := by decide +kernel
theorem dX12_runs_145 : decode cX12_runs 145 = .ok (.invokevirtual 204, 3) := by decide +kernel
theorem dX12_runs_148 : decode cX12_runs 148 = .ok (.ifCond .eq 14, 3) := by decide +kernel
theorem dX12_runs_151 : decode cX12_runs 151 = .ok (.aload_n 0, 1) := by decide +kernel
theorem dX12_runs_152 : decode cX12_runs 152 = .ok (.iload_n 3, 1) := by decide +kernel
theorem dX12_runs_153 : decode cX12_runs 153 = .ok (.bipush 9, 2) := by decide +kernel
theorem dX12_runs_155 : decode cX12_runs 155 = .ok (.invokevirtual 204, 3) := by decide +kernel
theorem dX12_runs_158 : decode cX12_runs 158 = .ok (.iconst 1, 1) := by decide +kernel
theorem dX12_runs_159 : decode cX12_runs 159 = .ok (.if_icmp .ne 7, 3) := by decide +kernel
theorem dX12_runs_162 : decode cX12_runs 162 = .ok (.iconst 1, 1) := by decide +kernel
theorem dX12_runs_163 : decode cX12_runs 163 = .ok (.goto 4, 3) := by decide +kernel
theorem dX12_runs_166 : decode cX12_runs 166 = .ok (.iconst 0, 1) := by decide +kernel
theorem dX12_runs_167 : decode cX12_runs 167 = .ok (.istore 5, 2) := by decide +kernel
theorem dX12_runs_169 : decode cX12_runs 169 = .ok (.iload 5, 2) := by decide +kernel
theorem dX12_runs_171 : decode cX12_runs 171 = .ok (.ifCond .eq 35, 3) := by decide +kernel
theorem dX12_runs_174 : decode cX12_runs 174 = .ok (.iload 4, 2) := by decide +kernel
theorem dX12_runs_176 : decode cX12_runs 176 = .ok (.iconst 1, 1) := by decide +kernel
theorem dX12_runs_177 : decode cX12_runs 177 = .ok (.if_icmp .gt 29, 3) := by decide +kernel
theorem dX12_runs_180 : decode cX12_runs 180 = .ok (.aload_n 0, 1) := by decide +kernel
theorem dX12_runs_181 : decode cX12_runs 181 = .ok (.aload_n 0, 1) := by decide +kernel
theorem dX12_runs_182 : decode cX12_runs 182 = .ok (.getfield 243, 3) := by decide +kernel
theorem dX12_runs_185 : decode cX12_runs 185 = .ok (.aload_n 0, 1) := by decide +kernel
theorem dX12_runs_186 : decode cX12_runs 186 = .ok (.lload_n 1, 1) := by decide +kernel
theorem dX12_runs_187 : decode cX12_runs 187 = .ok (.bipush 16, 2) := by decide +kernel
theorem dX12_runs_189 : decode cX12_runs 189 = .ok (.iconst 3, 1) := by decide +kernel
theorem dX12_runs_190 : decode cX12_runs 190 = .ok (.invokevirtual 150, 3) := by decide +kernel
theorem dX12_runs_193 : decode cX12_runs 193 = .ok (.aload_n 0, 1) := by decide +kernel
theorem dX12_runs_194 : decode cX12_runs 194 = .ok (.getfield 32, 3) := by decide +kernel
theorem dX12_runs_197 : decode cX12_runs 197 = .ok (.aload_n 0, 1) := by decide +kernel
theorem dX12_runs_198 : decode cX12_runs 198 = .ok (.getfield 243, 3) := by decide +kernel
theorem dX12_runs_201 : decode cX12_runs 201 = .ok (.laload, 1) := by decide +kernel
theorem dX12_runs_202 : decode cX12_runs 202 = .ok (.invokevirtual 261, 3) := by decide +kernel
theorem dX12_runs_205 : decode cX12_runs 205 = .ok (.ireturn, 1) := by decide +kernel
theorem dX12_runs_206 : decode cX12_runs 206 = .ok (.iload 4, 2) := by decide +kernel
theorem dX12_runs_208 : decode cX12_runs 208 = .ok (.ifCond .eq 5, 3) := by decide +kernel
theorem dX12_runs_211 : decode cX12_runs 211 = .ok (.iconst 1, 1) := by decide +kernel
theorem dX12_runs_212 : decode cX12_runs 212 = .ok (.ireturn, 1) := by decide +kernel
theorem dX12_runs_213 : decode cX12_runs 213 = .ok (.aload_n 0, 1) := by decide +kernel
theorem dX12_runs_214 : decode cX12_runs 214 = .ok (.iload_n 3, 1) := by decide +kernel
theorem dX12_runs_215 : decode cX12_runs 215 = .ok (.bipush 7, 2) := by decide +kernel
theorem dX12_runs_217 : decode cX12_runs 217 = .ok (.invokevirtual 204, 3) := by decide +kernel
theorem dX12_runs_220 : decode cX12_runs 220 = .ok (.aload_n 0, 1) := by decide +kernel
theorem dX12_runs_221 : decode cX12_runs 221 = .ok (.aload_n 0, 1) := by decide +kernel
theorem dX12_runs_222 : decode cX12_runs 222 = .ok (.getfield 243, 3) := by decide +kernel
theorem dX12_runs_225 : decode cX12_runs 225 = .ok (.iconst 1, 1) := by decide +kernel
theorem dX12_runs_226 : decode cX12_runs 226 = .ok (.invokevirtual 204, 3) := by decide +kernel
theorem dX12_runs_229 : decode cX12_runs 229 = .ok (.invokestatic 276, 3) := by decide +kernel
theorem dX12_runs_232 : decode cX12_runs 232 = .ok (.aload_n 0, 1) := by decide +kernel
theorem dX12_runs_233 : decode cX12_runs 233 = .ok (.iload_n 3, 1) := by decide +kernel
theorem dX12_runs_234 : decode cX12_runs 234 = .ok (.iconst 1, 1) := by decide +kernel
theorem dX12_runs_235 : decode cX12_runs 235 = .ok (.invokevirtual 308, 3) := by decide +kernel
theorem dX12_runs_238 : decode cX12_runs 238 = .ok (.iadd, 1) := by decide +kernel
theorem dX12_runs_239 : decode cX12_runs 239 = .ok (.if_icmp .lt 7, 3) := by decide +kernel
theorem dX12_runs_242 : decode cX12_runs 242 = .ok (.iconst 1, 1) := by decide +kernel
theorem dX12_runs_243 : decode cX12_runs 243 = .ok (.goto 4, 3) := by decide +kernel
theorem dX12_runs_246 : decode cX12_runs 246 = .ok (.iconst 0, 1) := by decide +kernel
theorem dX12_runs_247 : decode cX12_runs 247 = .ok (.istore 6, 2) := by decide +kernel
theorem dX12_runs_249 : decode cX12_runs 249 = .ok (.aload_n 0, 1) := by decide +kernel
theorem dX12_runs_250 : decode cX12_runs 250 = .ok (.aload_n 0, 1) := by decide +kernel
theorem dX12_runs_251 : decode cX12_runs 251 = .ok (.getfield 243, 3) := by decide +kernel
theorem dX12_runs_254 : decode cX12_runs 254 = .ok (.aload_n 0, 1) := by decide +kernel
theorem dX12_runs_255 : decode cX12_runs 255 = .ok (.lload_n 1, 1) := by decide +kernel
theorem dX12_runs_256 : decode cX12_runs 256 = .ok (.bipush 16, 2) := by decide +kernel
theorem dX12_runs_258 : decode cX12_runs 258 = .ok (.iload 6, 2) := by decide +kernel
theorem dX12_runs_260 : decode cX12_runs 260 = .ok (.ifCond .eq 7, 3) := by decide +kernel
theorem dX12_runs_263 : decode cX12_runs 263 = .ok (.iconst 1, 1) := by decide +kernel
theorem dX12_runs_264 : decode cX12_runs 264 = .ok (.goto 4, 3) := by decide +kernel
theorem dX12_runs_267 : decode cX12_runs 267 = .ok (.iconst 3, 1) := by decide +kernel
theorem dX12_runs_268 : decode cX12_runs 268 = .ok (.invokevirtual 150, 3) := by decide +kernel
theorem dX12_runs_271 : decode cX12_runs 271 = .ok (.aload_n 0, 1) := by decide +kernel
theorem dX12_runs_272 : decode cX12_runs 272 = .ok (.getfield 32, 3) := by decide +kernel
theorem dX12_runs_275 : decode cX12_runs 275 = .ok (.aload_n 0, 1) := by decide +kernel
theorem dX12_runs_276 : decode cX12_runs 276 = .ok (.getfield 243, 3) := by decide +kernel
theorem dX12_runs_279 : decode cX12_runs 279 = .ok (.laload, 1) := by decide +kernel
theorem dX12_runs_280 : decode cX12_runs 280 = .ok (.invokevirtual 261, 3) := by decide +kernel
theorem dX12_runs_283 : decode cX12_runs 283 = .ok (.ireturn, 1) := by decide +kernel
theorem dX12_owned_0 : decode cX12_owned 0 = .ok (.iconst 0, 1) := by decide +kernel
theorem dX12_owned_1 : decode cX12_owned 1 = .ok (.istore_n 1, 1) := by decide +kernel
theorem dX12_owned_2 : decode cX12_owned 2 = .ok (.iconst 0, 1) := by decide +kernel
theorem dX12_owned_3 : decode cX12_owned 3 = .ok (.istore_n 2, 1) := by decide +kernel
theorem dX12_owned_4 : decode cX12_owned 4 = .ok (.iload_n 2, 1) := by decide +kernel
theorem dX12_owned_5 : decode cX12_owned 5 = .ok (.aload_n 0, 1) := by decide +kernel
theorem dX12_owned_6 : decode cX12_owned 6 = .ok (.getfield 137, 3) := by decide +kernel
theorem dX12_owned_9 : decode cX12_owned 9 = .ok (.if_icmp .ge 41, 3) := by decide +kernel
theorem dX12_owned_12 : decode cX12_owned 12 = .ok (.iload_n 1, 1) := by decide +kernel
theorem dX12_owned_13 : decode cX12_owned 13 = .ok (.aload_n 0, 1) := by decide +kernel
theorem dX12_owned_14 : decode cX12_owned 14 = .ok (.iload_n 2, 1) := by decide +kernel
theorem dX12_owned_15 : decode cX12_owned 15 = .ok (.invokevirtual 211, 3) := by decide +kernel
theorem dX12_owned_18 : decode cX12_owned 18 = .ok (.ifCond .ne 23, 3) := by decide +kernel
theorem dX12_owned_21 : decode cX12_owned 21 = .ok (.aload_n 0, 1) := by decide +kernel
theorem dX12_owned_22 : decode cX12_owned 22 = .ok (.aload_n 0, 1) := by decide +kernel
theorem dX12_owned_23 : decode cX12_owned 23 = .ok (.iload_n 2, 1) := by decide +kernel
theorem dX12_owned_24 : decode cX12_owned 24 = .ok (.invokevirtual 196, 3) := by decide +kernel
theorem dX12_owned_27 : decode cX12_owned 27 = .ok (.invokevirtual 214, 3) := by decide +kernel
theorem dX12_owned_30 : decode cX12_owned 30 = .ok (.aload_n 0, 1) := by decide +kernel
theorem dX12_owned_31 : decode cX12_owned 31 = .ok (.getfield 243, 3) := by decide +kernel
theorem dX12_owned_34 : decode cX12_owned 34 = .ok (.if_icmp .ne 7, 3) := by decide +kernel
theorem dX12_owned_37 : decode cX12_owned 37 = .ok (.iconst 1, 1) := by decide +kernel
theorem dX12_owned_38 : decode cX12_owned 38 = .ok (.goto 4, 3) := by decide +kernel
theorem dX12_owned_41 : decode cX12_owned 41 = .ok (.iconst 0, 1) := by decide +kernel
theorem dX12_owned_42 : decode cX12_owned 42 = .ok (.iadd, 1) := by decide +kernel
theorem dX12_owned_43 : decode cX12_owned 43 = .ok (.istore_n 1, 1) := by decide +kernel
theorem dX12_owned_44 : decode cX12_owned 44 = .ok (.iinc 2 1, 3) := by decide +kernel
theorem dX12_owned_47 : decode cX12_owned 47 = .ok (.goto (-43), 3) := by decide +kernel
theorem dX12_owned_50 : decode cX12_owned 50 = .ok (.iload_n 1, 1) := by decide +kernel
theorem dX12_owned_51 : decode cX12_owned 51 = .ok (.ireturn, 1) := by decide +kernel
theorem dX12_passesOn_0 : decode cX12_passesOn 0 = .ok (.iconst 1, 1) := by decide +kernel
theorem dX12_passesOn_1 : decode cX12_passesOn 1 = .ok (.istore_n 2, 1) := by decide +kernel
theorem dX12_passesOn_2 : decode cX12_passesOn 2 = .ok (.iconst 0, 1) := by decide +kernel
theorem dX12_passesOn_3 : decode cX12_passesOn 3 = .ok (.istore_n 3, 1) := by decide +kernel
theorem dX12_passesOn_4 : decode cX12_passesOn 4 = .ok (.iload_n 3, 1) := by decide +kernel
theorem dX12_passesOn_5 : decode cX12_passesOn 5 = .ok (.aload_n 0, 1) := by decide +kernel
theorem dX12_passesOn_6 : decode cX12_passesOn 6 = .ok (.getfield 137, 3) := by decide +kernel
theorem dX12_passesOn_9 : decode cX12_passesOn 9 = .ok (.if_icmp .ge 134, 3) := by decide +kernel
theorem dX12_passesOn_12 : decode cX12_passesOn 12 = .ok (.iload_n 2, 1) := by decide +kernel
theorem dX12_passesOn_13 : decode cX12_passesOn 13 = .ok (.ifCond .eq 130, 3) := by decide +kernel
theorem dX12_passesOn_16 : decode cX12_passesOn 16 = .ok (.aload_n 0, 1) := by decide +kernel
theorem dX12_passesOn_17 : decode cX12_passesOn 17 = .ok (.iload_n 3, 1) := by decide +kernel
theorem dX12_passesOn_18 : decode cX12_passesOn 18 = .ok (.invokevirtual 211, 3) := by decide +kernel
theorem dX12_passesOn_21 : decode cX12_passesOn 21 = .ok (.ifCond .ne 23, 3) := by decide +kernel
theorem dX12_passesOn_24 : decode cX12_passesOn 24 = .ok (.aload_n 0, 1) := by decide +kernel
theorem dX12_passesOn_25 : decode cX12_passesOn 25 = .ok (.aload_n 0, 1) := by decide +kernel
theorem dX12_passesOn_26 : decode cX12_passesOn 26 = .ok (.iload_n 3, 1) := by decide +kernel
theorem dX12_passesOn_27 : decode cX12_passesOn 27 = .ok (.invokevirtual 196, 3) := by decide +kernel
theorem dX12_passesOn_30 : decode cX12_passesOn 30 = .ok (.invokevirtual 214, 3) := by decide +kernel
theorem dX12_passesOn_33 : decode cX12_passesOn 33 = .ok (.aload_n 0, 1) := by decide +kernel
theorem dX12_passesOn_34 : decode cX12_passesOn 34 = .ok (.getfield 243, 3) := by decide +kernel
theorem dX12_passesOn_37 : decode cX12_passesOn 37 = .ok (.if_icmp .ne 7, 3) := by decide +kernel
theorem dX12_passesOn_40 : decode cX12_passesOn 40 = .ok (.iconst 1, 1) := by decide +kernel
theorem dX12_passesOn_41 : decode cX12_passesOn 41 = .ok (.goto 4, 3) := by decide +kernel
theorem dX12_passesOn_44 : decode cX12_passesOn 44 = .ok (.iconst 0, 1) := by decide +kernel
theorem dX12_passesOn_45 : decode cX12_passesOn 45 = .ok (.istore 4, 2) := by decide +kernel
theorem dX12_passesOn_47 : decode cX12_passesOn 47 = .ok (.iload 4, 2) := by decide +kernel
theorem dX12_passesOn_49 : decode cX12_passesOn 49 = .ok (.ifCond .eq 22, 3) := by decide +kernel
theorem dX12_passesOn_52 : decode cX12_passesOn 52 = .ok (.iload_n 1, 1) := by decide +kernel
theorem dX12_passesOn_53 : decode cX12_passesOn 53 = .ok (.iconst 3, 1) := by decide +kernel
theorem dX12_passesOn_54 : decode cX12_passesOn 54 = .ok (.if_icmp .eq 13, 3) := by decide +kernel
theorem dX12_passesOn_57 : decode cX12_passesOn 57 = .ok (.aload_n 0, 1) := by decide +kernel
theorem dX12_passesOn_58 : decode cX12_passesOn 58 = .ok (.iload_n 3, 1) := by decide +kernel
theorem dX12_passesOn_59 : decode cX12_passesOn 59 = .ok (.bipush 13, 2) := by decide +kernel
theorem dX12_passesOn_61 : decode cX12_passesOn 61 = .ok (.invokevirtual 204, 3) := by decide +kernel
theorem dX12_passesOn_64 : decode cX12_passesOn 64 = .ok (.ifCond .ne 7, 3) := by decide +kernel
theorem dX12_passesOn_67 : decode cX12_passesOn 67 = .ok (.iconst 1, 1) := by decide +kernel
theorem dX12_passesOn_68 : decode cX12_passesOn 68 = .ok (.goto 4, 3) := by decide +kernel
theorem dX12_passesOn_71 : decode cX12_passesOn 71 = .ok (.iconst 0, 1) := by decide +kernel
theorem dX12_passesOn_72 : decode cX12_passesOn 72 = .ok (.istore 5, 2) := by decide +kernel
theorem dX12_passesOn_74 : decode cX12_passesOn 74 = .ok (.iload_n 1, 1) := by decide +kernel
theorem dX12_passesOn_75 : decode cX12_passesOn 75 = .ok (.iconst 3, 1) := by decide +kernel
theorem dX12_passesOn_76 : decode cX12_passesOn 76 = .ok (.if_icmp .ne 19, 3) := by decide +kernel
theorem dX12_passesOn_79 : decode cX12_passesOn 79 = .ok (.aload_n 0, 1) := by decide +kernel
theorem dX12_passesOn_80 : decode cX12_passesOn 80 = .ok (.aload_n 0, 1) := by decide +kernel
theorem dX12_passesOn_81 : decode cX12_passesOn 81 = .ok (.getfield 28, 3) := by decide +kernel
theorem dX12_passesOn_84 : decode cX12_passesOn 84 = .ok (.iload_n 3, 1) := by decide +kernel
theorem dX12_passesOn_85 : decode cX12_passesOn 85 = .ok (.laload, 1) := by decide +kernel
theorem dX12_passesOn_86 : decode cX12_passesOn 86 = .ok (.bipush 11, 2) := by decide +kernel
theorem dX12_passesOn_88 : decode cX12_passesOn 88 = .ok (.iconst 0, 1) := by decide +kernel
theorem dX12_passesOn_89 : decode cX12_passesOn 89 = .ok (.invokevirtual 150, 3) := by decide +kernel
theorem dX12_passesOn_92 : decode cX12_passesOn 92 = .ok (.goto 16, 3) := by decide +kernel
theorem dX12_passesOn_95 : decode cX12_passesOn 95 = .ok (.aload_n 0, 1) := by decide +kernel
theorem dX12_passesOn_96 : decode cX12_passesOn 96 = .ok (.aload_n 0, 1) := by decide +kernel
theorem dX12_passesOn_97 : decode cX12_passesOn 97 = .ok (.getfield 28, 3) := by decide +kernel
theorem dX12_passesOn_100 : decode cX12_passesOn 100 = .ok (.iload_n 3, 1) := by decide +kernel
theorem dX12_passesOn_101 : decode cX12_passesOn 101 = .ok (.laload, 1) := by decide +kernel
theorem dX12_passesOn_102 : decode cX12_passesOn 102 = .ok (.bipush 13, 2) := by decide +kernel
theorem dX12_passesOn_104 : decode cX12_passesOn 104 = .ok (.iconst 1, 1) := by decide +kernel
theorem dX12_passesOn_105 : decode cX12_passesOn 105 = .ok (.invokevirtual 150, 3) := by decide +kernel
theorem dX12_passesOn_108 : decode cX12_passesOn 108 = .ok (.lstore 6, 2) := by decide +kernel
theorem dX12_passesOn_110 : decode cX12_passesOn 110 = .ok (.iload 5, 2) := by decide +kernel
theorem dX12_passesOn_112 : decode cX12_passesOn 112 = .ok (.ifCond .eq 19, 3) := by decide +kernel
theorem dX12_passesOn_115 : decode cX12_passesOn 115 = .ok (.aload_n 0, 1) := by decide +kernel
theorem dX12_passesOn_116 : decode cX12_passesOn 116 = .ok (.iload_n 3, 1) := by decide +kernel
theorem dX12_passesOn_117 : decode cX12_passesOn 117 = .ok (.lload 6, 2) := by decide +kernel
theorem dX12_passesOn_119 : decode cX12_passesOn 119 = .ok (.aload_n 0, 1) := by decide +kernel
theorem dX12_passesOn_120 : decode cX12_passesOn 120 = .ok (.getfield 32, 3) := by decide +kernel
theorem dX12_passesOn_123 : decode cX12_passesOn 123 = .ok (.iload_n 3, 1) := by decide +kernel
theorem dX12_passesOn_124 : decode cX12_passesOn 124 = .ok (.laload, 1) := by decide +kernel
theorem dX12_passesOn_125 : decode cX12_passesOn 125 = .ok (.invokevirtual 261, 3) := by decide +kernel
theorem dX12_passesOn_128 : decode cX12_passesOn 128 = .ok (.ifCond .eq 7, 3) := by decide +kernel
theorem dX12_passesOn_131 : decode cX12_passesOn 131 = .ok (.iconst 1, 1) := by decide +kernel
theorem dX12_passesOn_132 : decode cX12_passesOn 132 = .ok (.goto 4, 3) := by decide +kernel
theorem dX12_passesOn_135 : decode cX12_passesOn 135 = .ok (.iconst 0, 1) := by decide +kernel
theorem dX12_passesOn_136 : decode cX12_passesOn 136 = .ok (.istore_n 2, 1) := by decide +kernel
theorem dX12_passesOn_137 : decode cX12_passesOn 137 = .ok (.iinc 3 1, 3) := by decide +kernel
theorem dX12_passesOn_140 : decode cX12_passesOn 140 = .ok (.goto (-136), 3) := by decide +kernel
theorem dX12_passesOn_143 : decode cX12_passesOn 143 = .ok (.iload_n 2, 1) := by decide +kernel
theorem dX12_passesOn_144 : decode cX12_passesOn 144 = .ok (.ireturn, 1) := by decide +kernel
theorem dX12_collects_0 : decode cX12_collects 0 = .ok (.aload_n 0, 1) := by decide +kernel
theorem dX12_collects_1 : decode cX12_collects 1 = .ok (.aload_n 0, 1) := by decide +kernel
theorem dX12_collects_2 : decode cX12_collects 2 = .ok (.getfield 243, 3) := by decide +kernel
theorem dX12_collects_5 : decode cX12_collects 5 = .ok (.invokevirtual 211, 3) := by decide +kernel
theorem dX12_collects_8 : decode cX12_collects 8 = .ok (.ifCond .eq 5, 3) := by decide +kernel
theorem dX12_collects_11 : decode cX12_collects 11 = .ok (.iconst 1, 1) := by decide +kernel
theorem dX12_collects_12 : decode cX12_collects 12 = .ok (.ireturn, 1) := by decide +kernel
theorem dX12_collects_13 : decode cX12_collects 13 = .ok (.aload_n 0, 1) := by decide +kernel
theorem dX12_collects_14 : decode cX12_collects 14 = .ok (.aload_n 0, 1) := by decide +kernel
theorem dX12_collects_15 : decode cX12_collects 15 = .ok (.getfield 243, 3) := by decide +kernel
theorem dX12_collects_18 : decode cX12_collects 18 = .ok (.bipush 13, 2) := by decide +kernel
theorem dX12_collects_20 : decode cX12_collects 20 = .ok (.invokevirtual 204, 3) := by decide +kernel
theorem dX12_collects_23 : decode cX12_collects 23 = .ok (.istore_n 1, 1) := by decide +kernel
theorem dX12_collects_24 : decode cX12_collects 24 = .ok (.iload_n 1, 1) := by decide +kernel
theorem dX12_collects_25 : decode cX12_collects 25 = .ok (.ifCond .ne 67, 3) := by decide +kernel
theorem dX12_collects_28 : decode cX12_collects 28 = .ok (.aload_n 0, 1) := by decide +kernel
theorem dX12_collects_29 : decode cX12_collects 29 = .ok (.aload_n 0, 1) := by decide +kernel
theorem dX12_collects_30 : decode cX12_collects 30 = .ok (.aload_n 0, 1) := by decide +kernel
theorem dX12_collects_31 : decode cX12_collects 31 = .ok (.getfield 243, 3) := by decide +kernel
theorem dX12_collects_34 : decode cX12_collects 34 = .ok (.invokevirtual 196, 3) := by decide +kernel
theorem dX12_collects_37 : decode cX12_collects 37 = .ok (.invokevirtual 214, 3) := by decide +kernel
theorem dX12_collects_40 : decode cX12_collects 40 = .ok (.istore_n 2, 1) := by decide +kernel
theorem dX12_collects_41 : decode cX12_collects 41 = .ok (.iload_n 2, 1) := by decide +kernel
theorem dX12_collects_42 : decode cX12_collects 42 = .ok (.iconst (-1), 1) := by decide +kernel
theorem dX12_collects_43 : decode cX12_collects 43 = .ok (.if_icmp .eq 26, 3) := by decide +kernel
theorem dX12_collects_46 : decode cX12_collects 46 = .ok (.aload_n 0, 1) := by decide +kernel
theorem dX12_collects_47 : decode cX12_collects 47 = .ok (.iload_n 2, 1) := by decide +kernel
theorem dX12_collects_48 : decode cX12_collects 48 = .ok (.invokevirtual 200, 3) := by decide +kernel
theorem dX12_collects_51 : decode cX12_collects 51 = .ok (.ifCond .eq 18, 3) := by decide +kernel
theorem dX12_collects_54 : decode cX12_collects 54 = .ok (.aload_n 0, 1) := by decide +kernel
theorem dX12_collects_55 : decode cX12_collects 55 = .ok (.iload_n 2, 1) := by decide +kernel
theorem dX12_collects_56 : decode cX12_collects 56 = .ok (.bipush 13, 2) := by decide +kernel
theorem dX12_collects_58 : decode cX12_collects 58 = .ok (.invokevirtual 204, 3) := by decide +kernel
theorem dX12_collects_61 : decode cX12_collects 61 = .ok (.iconst 4, 1) := by decide +kernel
theorem dX12_collects_62 : decode cX12_collects 62 = .ok (.if_icmp .ne 7, 3) := by decide +kernel
theorem dX12_collects_65 : decode cX12_collects 65 = .ok (.iconst 1, 1) := by decide +kernel
theorem dX12_collects_66 : decode cX12_collects 66 = .ok (.goto 4, 3) := by decide +kernel
theorem dX12_collects_69 : decode cX12_collects 69 = .ok (.iconst 0, 1) := by decide +kernel
theorem dX12_collects_70 : decode cX12_collects 70 = .ok (.istore_n 3, 1) := by decide +kernel
theorem dX12_collects_71 : decode cX12_collects 71 = .ok (.iload_n 3, 1) := by decide +kernel
theorem dX12_collects_72 : decode cX12_collects 72 = .ok (.ifCond .eq 14, 3) := by decide +kernel
theorem dX12_collects_75 : decode cX12_collects 75 = .ok (.aload_n 0, 1) := by decide +kernel
theorem dX12_collects_76 : decode cX12_collects 76 = .ok (.aload_n 0, 1) := by decide +kernel
theorem dX12_collects_77 : decode cX12_collects 77 = .ok (.getfield 243, 3) := by decide +kernel
theorem dX12_collects_80 : decode cX12_collects 80 = .ok (.invokevirtual 302, 3) := by decide +kernel
theorem dX12_collects_83 : decode cX12_collects 83 = .ok (.ifCond .eq 7, 3) := by decide +kernel
theorem dX12_collects_86 : decode cX12_collects 86 = .ok (.iconst 1, 1) := by decide +kernel
theorem dX12_collects_87 : decode cX12_collects 87 = .ok (.goto 4, 3) := by decide +kernel
theorem dX12_collects_90 : decode cX12_collects 90 = .ok (.iconst 0, 1) := by decide +kernel
theorem dX12_collects_91 : decode cX12_collects 91 = .ok (.ireturn, 1) := by decide +kernel
theorem dX12_collects_92 : decode cX12_collects 92 = .ok (.iload_n 1, 1) := by decide +kernel
theorem dX12_collects_93 : decode cX12_collects 93 = .ok (.iconst 2, 1) := by decide +kernel
theorem dX12_collects_94 : decode cX12_collects 94 = .ok (.if_icmp .eq 16, 3) := by decide +kernel
theorem dX12_collects_97 : decode cX12_collects 97 = .ok (.aload_n 0, 1) := by decide +kernel
theorem dX12_collects_98 : decode cX12_collects 98 = .ok (.invokevirtual 323, 3) := by decide +kernel
theorem dX12_collects_101 : decode cX12_collects 101 = .ok (.ifCond .le 9, 3) := by decide +kernel
theorem dX12_collects_104 : decode cX12_collects 104 = .ok (.aload_n 0, 1) := by decide +kernel
theorem dX12_collects_105 : decode cX12_collects 105 = .ok (.iload_n 1, 1) := by decide +kernel
theorem dX12_collects_106 : decode cX12_collects 106 = .ok (.invokevirtual 326, 3) := by decide +kernel
theorem dX12_collects_109 : decode cX12_collects 109 = .ok (.ireturn, 1) := by decide +kernel
theorem dX12_collects_110 : decode cX12_collects 110 = .ok (.aload_n 0, 1) := by decide +kernel
theorem dX12_collects_111 : decode cX12_collects 111 = .ok (.aload_n 0, 1) := by decide +kernel
theorem dX12_collects_112 : decode cX12_collects 112 = .ok (.getfield 243, 3) := by decide +kernel
theorem dX12_collects_115 : decode cX12_collects 115 = .ok (.bipush 12, 2) := by decide +kernel
theorem dX12_collects_117 : decode cX12_collects 117 = .ok (.invokevirtual 204, 3) := by decide +kernel
theorem dX12_collects_120 : decode cX12_collects 120 = .ok (.iconst 1, 1) := by decide +kernel
theorem dX12_collects_121 : decode cX12_collects 121 = .ok (.if_icmp .eq 29, 3) := by decide +kernel
theorem dX12_collects_124 : decode cX12_collects 124 = .ok (.aload_n 0, 1) := by decide +kernel
theorem dX12_collects_125 : decode cX12_collects 125 = .ok (.getfield 25, 3) := by decide +kernel
theorem dX12_collects_128 : decode cX12_collects 128 = .ok (.aload_n 0, 1) := by decide +kernel
theorem dX12_collects_129 : decode cX12_collects 129 = .ok (.getfield 243, 3) := by decide +kernel
theorem dX12_collects_132 : decode cX12_collects 132 = .ok (.iaload, 1) := by decide +kernel
theorem dX12_collects_133 : decode cX12_collects 133 = .ok (.iconst 2, 1) := by decide +kernel
theorem dX12_collects_134 : decode cX12_collects 134 = .ok (.if_icmp .ne 20, 3) := by decide +kernel
theorem dX12_collects_137 : decode cX12_collects 137 = .ok (.aload_n 0, 1) := by decide +kernel
theorem dX12_collects_138 : decode cX12_collects 138 = .ok (.aload_n 0, 1) := by decide +kernel
theorem dX12_collects_139 : decode cX12_collects 139 = .ok (.getfield 243, 3) := by decide +kernel
theorem dX12_collects_142 : decode cX12_collects 142 = .ok (.bipush 15, 2) := by decide +kernel
theorem dX12_collects_144 : decode cX12_collects 144 = .ok (.invokevirtual 204, 3) := by decide +kernel
theorem dX12_collects_147 : decode cX12_collects 147 = .ok (.ifCond .le 7, 3) := by decide +kernel
theorem dX12_collects_150 : decode cX12_collects 150 = .ok (.iconst 1, 1) := by decide +kernel
theorem dX12_collects_151 : decode cX12_collects 151 = .ok (.goto 4, 3) := by decide +kernel
theorem dX12_collects_154 : decode cX12_collects 154 = .ok (.iconst 0, 1) := by decide +kernel
theorem dX12_collects_155 : decode cX12_collects 155 = .ok (.istore_n 2, 1) := by decide +kernel
theorem dX12_collects_156 : decode cX12_collects 156 = .ok (.iload_n 2, 1) := by decide +kernel
theorem dX12_collects_157 : decode cX12_collects 157 = .ok (.ifCond .ne 36, 3) := by decide +kernel
theorem dX12_collects_160 : decode cX12_collects 160 = .ok (.aload_n 0, 1) := by decide +kernel
theorem dX12_collects_161 : decode cX12_collects 161 = .ok (.aload_n 0, 1) := by decide +kernel
theorem dX12_collects_162 : decode cX12_collects 162 = .ok (.getfield 243, 3) := by decide +kernel
theorem dX12_collects_165 : decode cX12_collects 165 = .ok (.aload_n 0, 1) := by decide +kernel
theorem dX12_collects_166 : decode cX12_collects 166 = .ok (.aload_n 0, 1) := by decide +kernel
theorem dX12_collects_167 : decode cX12_collects 167 = .ok (.getfield 28, 3) := by decide +kernel
theorem dX12_collects_170 : decode cX12_collects 170 = .ok (.aload_n 0, 1) := by decide +kernel
theorem dX12_collects_171 : decode cX12_collects 171 = .ok (.getfield 243, 3) := by decide +kernel
theorem dX12_collects_174 : decode cX12_collects 174 = .ok (.laload, 1) := by decide +kernel
theorem dX12_collects_175 : decode cX12_collects 175 = .ok (.invokevirtual 189, 3) := by decide +kernel
theorem dX12_collects_178 : decode cX12_collects 178 = .ok (.aload_n 0, 1) := by decide +kernel
theorem dX12_collects_179 : decode cX12_collects 179 = .ok (.getfield 32, 3) := by decide +kernel
theorem dX12_collects_182 : decode cX12_collects 182 = .ok (.aload_n 0, 1) := by decide +kernel
theorem dX12_collects_183 : decode cX12_collects 183 = .ok (.getfield 243, 3) := by decide +kernel
theorem dX12_collects_186 : decode cX12_collects 186 = .ok (.laload, 1) := by decide +kernel
theorem dX12_collects_187 : decode cX12_collects 187 = .ok (.invokevirtual 261, 3) := by decide +kernel
theorem dX12_collects_190 : decode cX12_collects 190 = .ok (.ifCond .eq 7, 3) := by decide +kernel
theorem dX12_collects_193 : decode cX12_collects 193 = .ok (.iconst 1, 1) := by decide +kernel
theorem dX12_collects_194 : decode cX12_collects 194 = .ok (.goto 4, 3) := by decide +kernel
theorem dX12_collects_197 : decode cX12_collects 197 = .ok (.iconst 0, 1) := by decide +kernel
theorem dX12_collects_198 : decode cX12_collects 198 = .ok (.ireturn, 1) := by decide +kernel
theorem dX12_routes_0 : decode cX12_routes 0 = .ok (.aload_n 0, 1) := by decide +kernel
theorem dX12_routes_1 : decode cX12_routes 1 = .ok (.aload_n 0, 1) := by decide +kernel
theorem dX12_routes_2 : decode cX12_routes 2 = .ok (.getfield 243, 3) := by decide +kernel
theorem dX12_routes_5 : decode cX12_routes 5 = .ok (.iconst 5, 1) := by decide +kernel
theorem dX12_routes_6 : decode cX12_routes 6 = .ok (.invokevirtual 269, 3) := by decide +kernel
theorem dX12_routes_9 : decode cX12_routes 9 = .ok (.ifCond .ne 5, 3) := by decide +kernel
theorem dX12_routes_12 : decode cX12_routes 12 = .ok (.iconst 1, 1) := by decide +kernel
theorem dX12_routes_13 : decode cX12_routes 13 = .ok (.ireturn, 1) := by decide +kernel
theorem dX12_routes_14 : decode cX12_routes 14 = .ok (.lconst 0, 1) := by decide +kernel
theorem dX12_routes_15 : decode cX12_routes 15 = .ok (.lstore_n 1, 1) := by decide +kernel
theorem dX12_routes_16 : decode cX12_routes 16 = .ok (.iconst 0, 1) := by decide +kernel
theorem dX12_routes_17 : decode cX12_routes 17 = .ok (.istore_n 3, 1) := by decide +kernel
theorem dX12_routes_18 : decode cX12_routes 18 = .ok (.iload_n 3, 1) := by decide +kernel
theorem dX12_routes_19 : decode cX12_routes 19 = .ok (.aload_n 0, 1) := by decide +kernel
theorem dX12_routes_20 : decode cX12_routes 20 = .ok (.getfield 137, 3) := by decide +kernel
theorem dX12_routes_23 : decode cX12_routes 23 = .ok (.if_icmp .ge 69, 3) := by decide +kernel
theorem dX12_routes_26 : decode cX12_routes 26 = .ok (.aload_n 0, 1) := by decide +kernel
theorem dX12_routes_27 : decode cX12_routes 27 = .ok (.iload_n 3, 1) := by decide +kernel
theorem dX12_routes_28 : decode cX12_routes 28 = .ok (.iconst 2, 1) := by decide +kernel
theorem dX12_routes_29 : decode cX12_routes 29 = .ok (.invokevirtual 269, 3) := by decide +kernel
theorem dX12_routes_32 : decode cX12_routes 32 = .ok (.ifCond .eq 36, 3) := by decide +kernel
theorem dX12_routes_35 : decode cX12_routes 35 = .ok (.aload_n 0, 1) := by decide +kernel
theorem dX12_routes_36 : decode cX12_routes 36 = .ok (.iload_n 3, 1) := by decide +kernel
theorem dX12_routes_37 : decode cX12_routes 37 = .ok (.bipush 16, 2) := by decide +kernel
theorem dX12_routes_39 : decode cX12_routes 39 = .ok (.invokevirtual 204, 3) := by decide +kernel
theorem dX12_routes_42 : decode cX12_routes 42 = .ok (.iconst 1, 1) := by decide +kernel
theorem dX12_routes_43 : decode cX12_routes 43 = .ok (.if_icmp .ne 25, 3) := by decide +kernel
theorem dX12_routes_46 : decode cX12_routes 46 = .ok (.aload_n 0, 1) := by decide +kernel
theorem dX12_routes_47 : decode cX12_routes 47 = .ok (.iload_n 3, 1) := by decide +kernel
theorem dX12_routes_48 : decode cX12_routes 48 = .ok (.iconst 1, 1) := by decide +kernel
theorem dX12_routes_49 : decode cX12_routes 49 = .ok (.invokevirtual 204, 3) := by decide +kernel
theorem dX12_routes_52 : decode cX12_routes 52 = .ok (.aload_n 0, 1) := by decide +kernel
theorem dX12_routes_53 : decode cX12_routes 53 = .ok (.aload_n 0, 1) := by decide +kernel
theorem dX12_routes_54 : decode cX12_routes 54 = .ok (.getfield 243, 3) := by decide +kernel
theorem dX12_routes_57 : decode cX12_routes 57 = .ok (.iconst 1, 1) := by decide +kernel
theorem dX12_routes_58 : decode cX12_routes 58 = .ok (.invokevirtual 204, 3) := by decide +kernel
theorem dX12_routes_61 : decode cX12_routes 61 = .ok (.if_icmp .ne 7, 3) := by decide +kernel
theorem dX12_routes_64 : decode cX12_routes 64 = .ok (.iconst 1, 1) := by decide +kernel
theorem dX12_routes_65 : decode cX12_routes 65 = .ok (.goto 4, 3) := by decide +kernel
theorem dX12_routes_68 : decode cX12_routes 68 = .ok (.iconst 0, 1) := by decide +kernel
theorem dX12_routes_69 : decode cX12_routes 69 = .ok (.istore 4, 2) := by decide +kernel
theorem dX12_routes_71 : decode cX12_routes 71 = .ok (.lload_n 1, 1) := by decide +kernel
theorem dX12_routes_72 : decode cX12_routes 72 = .ok (.iload 4, 2) := by decide +kernel
theorem dX12_routes_74 : decode cX12_routes 74 = .ok (.ifCond .eq 9, 3) := by decide +kernel
theorem dX12_routes_77 : decode cX12_routes 77 = .ok (.lconst 1, 1) := by decide +kernel
theorem dX12_routes_78 : decode cX12_routes 78 = .ok (.iload_n 3, 1) := by decide +kernel
theorem dX12_routes_79 : decode cX12_routes 79 = .ok (.lshl, 1) := by decide +kernel
theorem dX12_routes_80 : decode cX12_routes 80 = .ok (.goto 4, 3) := by decide +kernel
theorem dX12_routes_83 : decode cX12_routes 83 = .ok (.lconst 0, 1) := by decide +kernel
theorem dX12_routes_84 : decode cX12_routes 84 = .ok (.lor, 1) := by decide +kernel
theorem dX12_routes_85 : decode cX12_routes 85 = .ok (.lstore_n 1, 1) := by decide +kernel
theorem dX12_routes_86 : decode cX12_routes 86 = .ok (.iinc 3 1, 3) := by decide +kernel
theorem dX12_routes_89 : decode cX12_routes 89 = .ok (.goto (-71), 3) := by decide +kernel
theorem dX12_routes_92 : decode cX12_routes 92 = .ok (.lload_n 1, 1) := by decide +kernel
theorem dX12_routes_93 : decode cX12_routes 93 = .ok (.aload_n 0, 1) := by decide +kernel
theorem dX12_routes_94 : decode cX12_routes 94 = .ok (.getfield 100, 3) := by decide +kernel
theorem dX12_routes_97 : decode cX12_routes 97 = .ok (.bipush 60, 2) := by decide +kernel
theorem dX12_routes_99 : decode cX12_routes 99 = .ok (.aload_n 0, 1) := by decide +kernel
theorem dX12_routes_100 : decode cX12_routes 100 = .ok (.getfield 193, 3) := by decide +kernel
theorem dX12_routes_103 : decode cX12_routes 103 = .ok (.imul, 1) := by decide +kernel
theorem dX12_routes_104 : decode cX12_routes 104 = .ok (.aload_n 0, 1) := by decide +kernel
theorem dX12_routes_105 : decode cX12_routes 105 = .ok (.getfield 243, 3) := by decide +kernel
theorem dX12_routes_108 : decode cX12_routes 108 = .ok (.iadd, 1) := by decide +kernel
theorem dX12_routes_109 : decode cX12_routes 109 = .ok (.laload, 1) := by decide +kernel
theorem dX12_routes_110 : decode cX12_routes 110 = .ok (.lcmp, 1) := by decide +kernel
theorem dX12_routes_111 : decode cX12_routes 111 = .ok (.ifCond .eq 24, 3) := by decide +kernel
theorem dX12_routes_114 : decode cX12_routes 114 = .ok (.aload_n 0, 1) := by decide +kernel
theorem dX12_routes_115 : decode cX12_routes 115 = .ok (.aload_n 0, 1) := by decide +kernel
theorem dX12_routes_116 : decode cX12_routes 116 = .ok (.getfield 243, 3) := by decide +kernel
theorem dX12_routes_119 : decode cX12_routes 119 = .ok (.aload_n 0, 1) := by decide +kernel
theorem dX12_routes_120 : decode cX12_routes 120 = .ok (.getfield 28, 3) := by decide +kernel
theorem dX12_routes_123 : decode cX12_routes 123 = .ok (.aload_n 0, 1) := by decide +kernel
theorem dX12_routes_124 : decode cX12_routes 124 = .ok (.getfield 243, 3) := by decide +kernel
theorem dX12_routes_127 : decode cX12_routes 127 = .ok (.laload, 1) := by decide +kernel
theorem dX12_routes_128 : decode cX12_routes 128 = .ok (.lload_n 1, 1) := by decide +kernel
theorem dX12_routes_129 : decode cX12_routes 129 = .ok (.invokevirtual 261, 3) := by decide +kernel
theorem dX12_routes_132 : decode cX12_routes 132 = .ok (.ifCond .eq 7, 3) := by decide +kernel
theorem dX12_routes_135 : decode cX12_routes 135 = .ok (.iconst 1, 1) := by decide +kernel
theorem dX12_routes_136 : decode cX12_routes 136 = .ok (.goto 4, 3) := by decide +kernel
theorem dX12_routes_139 : decode cX12_routes 139 = .ok (.iconst 0, 1) := by decide +kernel
theorem dX12_routes_140 : decode cX12_routes 140 = .ok (.ireturn, 1) := by decide +kernel
theorem dX12_shouldWant_0 : decode cX12_shouldWant 0 = .ok (.aload_n 0, 1) := by decide +kernel
theorem dX12_shouldWant_1 : decode cX12_shouldWant 1 = .ok (.aload_n 0, 1) := by decide +kernel
theorem dX12_shouldWant_2 : decode cX12_shouldWant 2 = .ok (.getfield 243, 3) := by decide +kernel
theorem dX12_shouldWant_5 : decode cX12_shouldWant 5 = .ok (.bipush 6, 2) := by decide +kernel
theorem dX12_shouldWant_7 : decode cX12_shouldWant 7 = .ok (.invokevirtual 204, 3) := by decide +kernel
theorem dX12_shouldWant_10 : decode cX12_shouldWant 10 = .ok (.bipush 9, 2) := by decide +kernel
theorem dX12_shouldWant_12 : decode cX12_shouldWant 12 = .ok (.iadd, 1) := by decide +kernel
theorem dX12_shouldWant_13 : decode cX12_shouldWant 13 = .ok (.bipush 10, 2) := by decide +kernel
theorem dX12_shouldWant_15 : decode cX12_shouldWant 15 = .ok (.idiv, 1) := by decide +kernel
theorem dX12_shouldWant_16 : decode cX12_shouldWant 16 = .ok (.istore_n 1, 1) := by decide +kernel
theorem dX12_shouldWant_17 : decode cX12_shouldWant 17 = .ok (.iload_n 1, 1) := by decide +kernel
theorem dX12_shouldWant_18 : decode cX12_shouldWant 18 = .ok (.iconst 1, 1) := by decide +kernel
theorem dX12_shouldWant_19 : decode cX12_shouldWant 19 = .ok (.if_icmp .ge 7, 3) := by decide +kernel
theorem dX12_shouldWant_22 : decode cX12_shouldWant 22 = .ok (.iconst 1, 1) := by decide +kernel
theorem dX12_shouldWant_23 : decode cX12_shouldWant 23 = .ok (.goto 4, 3) := by decide +kernel
theorem dX12_shouldWant_26 : decode cX12_shouldWant 26 = .ok (.iload_n 1, 1) := by decide +kernel
theorem dX12_shouldWant_27 : decode cX12_shouldWant 27 = .ok (.istore_n 2, 1) := by decide +kernel
theorem dX12_shouldWant_28 : decode cX12_shouldWant 28 = .ok (.iload_n 2, 1) := by decide +kernel
theorem dX12_shouldWant_29 : decode cX12_shouldWant 29 = .ok (.aload_n 0, 1) := by decide +kernel
theorem dX12_shouldWant_30 : decode cX12_shouldWant 30 = .ok (.aload_n 0, 1) := by decide +kernel
theorem dX12_shouldWant_31 : decode cX12_shouldWant 31 = .ok (.getfield 243, 3) := by decide +kernel
theorem dX12_shouldWant_34 : decode cX12_shouldWant 34 = .ok (.iconst 5, 1) := by decide +kernel
theorem dX12_shouldWant_35 : decode cX12_shouldWant 35 = .ok (.invokevirtual 204, 3) := by decide +kernel
theorem dX12_shouldWant_38 : decode cX12_shouldWant 38 = .ok (.if_icmp .ge 7, 3) := by decide +kernel
theorem dX12_shouldWant_41 : decode cX12_shouldWant 41 = .ok (.iload_n 2, 1) := by decide +kernel
theorem dX12_shouldWant_42 : decode cX12_shouldWant 42 = .ok (.goto 12, 3) := by decide +kernel
theorem dX12_shouldWant_45 : decode cX12_shouldWant 45 = .ok (.aload_n 0, 1) := by decide +kernel
theorem dX12_shouldWant_46 : decode cX12_shouldWant 46 = .ok (.aload_n 0, 1) := by decide +kernel
theorem dX12_shouldWant_47 : decode cX12_shouldWant 47 = .ok (.getfield 243, 3) := by decide +kernel
theorem dX12_shouldWant_50 : decode cX12_shouldWant 50 = .ok (.iconst 5, 1) := by decide +kernel
theorem dX12_shouldWant_51 : decode cX12_shouldWant 51 = .ok (.invokevirtual 204, 3) := by decide +kernel
theorem dX12_shouldWant_54 : decode cX12_shouldWant 54 = .ok (.ireturn, 1) := by decide +kernel
theorem dX12_isEarly_0 : decode cX12_isEarly 0 = .ok (.aload_n 0, 1) := by decide +kernel
theorem dX12_isEarly_1 : decode cX12_isEarly 1 = .ok (.getfield 193, 3) := by decide +kernel
theorem dX12_isEarly_4 : decode cX12_isEarly 4 = .ok (.bipush 7, 2) := by decide +kernel
theorem dX12_isEarly_6 : decode cX12_isEarly 6 = .ok (.if_icmp .ne 31, 3) := by decide +kernel
theorem dX12_isEarly_9 : decode cX12_isEarly 9 = .ok (.aload_n 0, 1) := by decide +kernel
theorem dX12_isEarly_10 : decode cX12_isEarly 10 = .ok (.aload_n 0, 1) := by decide +kernel
theorem dX12_isEarly_11 : decode cX12_isEarly 11 = .ok (.getfield 243, 3) := by decide +kernel
theorem dX12_isEarly_14 : decode cX12_isEarly 14 = .ok (.iconst 0, 1) := by decide +kernel
theorem dX12_isEarly_15 : decode cX12_isEarly 15 = .ok (.invokevirtual 269, 3) := by decide +kernel
theorem dX12_isEarly_18 : decode cX12_isEarly 18 = .ok (.ifCond .eq 19, 3) := by decide +kernel
theorem dX12_isEarly_21 : decode cX12_isEarly 21 = .ok (.aload_n 0, 1) := by decide +kernel
theorem dX12_isEarly_22 : decode cX12_isEarly 22 = .ok (.aload_n 0, 1) := by decide +kernel
theorem dX12_isEarly_23 : decode cX12_isEarly 23 = .ok (.getfield 243, 3) := by decide +kernel
theorem dX12_isEarly_26 : decode cX12_isEarly 26 = .ok (.iconst 5, 1) := by decide +kernel
theorem dX12_isEarly_27 : decode cX12_isEarly 27 = .ok (.invokevirtual 204, 3) := by decide +kernel
theorem dX12_isEarly_30 : decode cX12_isEarly 30 = .ok (.ifCond .le 7, 3) := by decide +kernel
theorem dX12_isEarly_33 : decode cX12_isEarly 33 = .ok (.iconst 1, 1) := by decide +kernel
theorem dX12_isEarly_34 : decode cX12_isEarly 34 = .ok (.goto 4, 3) := by decide +kernel
theorem dX12_isEarly_37 : decode cX12_isEarly 37 = .ok (.iconst 0, 1) := by decide +kernel
theorem dX12_isEarly_38 : decode cX12_isEarly 38 = .ok (.istore_n 1, 1) := by decide +kernel
theorem dX12_isEarly_39 : decode cX12_isEarly 39 = .ok (.iload_n 1, 1) := by decide +kernel
theorem dX12_isEarly_40 : decode cX12_isEarly 40 = .ok (.ifCond .eq 55, 3) := by decide +kernel
theorem dX12_isEarly_43 : decode cX12_isEarly 43 = .ok (.aload_n 0, 1) := by decide +kernel
theorem dX12_isEarly_44 : decode cX12_isEarly 44 = .ok (.aload_n 0, 1) := by decide +kernel
theorem dX12_isEarly_45 : decode cX12_isEarly 45 = .ok (.getfield 243, 3) := by decide +kernel
theorem dX12_isEarly_48 : decode cX12_isEarly 48 = .ok (.iconst 0, 1) := by decide +kernel
theorem dX12_isEarly_49 : decode cX12_isEarly 49 = .ok (.invokevirtual 204, 3) := by decide +kernel
theorem dX12_isEarly_52 : decode cX12_isEarly 52 = .ok (.aload_n 0, 1) := by decide +kernel
theorem dX12_isEarly_53 : decode cX12_isEarly 53 = .ok (.invokevirtual 329, 3) := by decide +kernel
theorem dX12_isEarly_56 : decode cX12_isEarly 56 = .ok (.if_icmp .le 39, 3) := by decide +kernel
theorem dX12_isEarly_59 : decode cX12_isEarly 59 = .ok (.aload_n 0, 1) := by decide +kernel
theorem dX12_isEarly_60 : decode cX12_isEarly 60 = .ok (.getfield 47, 3) := by decide +kernel
theorem dX12_isEarly_63 : decode cX12_isEarly 63 = .ok (.aload_n 0, 1) := by decide +kernel
theorem dX12_isEarly_64 : decode cX12_isEarly 64 = .ok (.getfield 243, 3) := by decide +kernel
theorem dX12_isEarly_67 : decode cX12_isEarly 67 = .ok (.iaload, 1) := by decide +kernel
theorem dX12_isEarly_68 : decode cX12_isEarly 68 = .ok (.iconst (-1), 1) := by decide +kernel
theorem dX12_isEarly_69 : decode cX12_isEarly 69 = .ok (.if_icmp .eq 26, 3) := by decide +kernel
theorem dX12_isEarly_72 : decode cX12_isEarly 72 = .ok (.aload_n 0, 1) := by decide +kernel
theorem dX12_isEarly_73 : decode cX12_isEarly 73 = .ok (.getfield 182, 3) := by decide +kernel
theorem dX12_isEarly_76 : decode cX12_isEarly 76 = .ok (.aload_n 0, 1) := by decide +kernel
theorem dX12_isEarly_77 : decode cX12_isEarly 77 = .ok (.getfield 47, 3) := by decide +kernel
theorem dX12_isEarly_80 : decode cX12_isEarly 80 = .ok (.aload_n 0, 1) := by decide +kernel
theorem dX12_isEarly_81 : decode cX12_isEarly 81 = .ok (.getfield 243, 3) := by decide +kernel
theorem dX12_isEarly_84 : decode cX12_isEarly 84 = .ok (.iaload, 1) := by decide +kernel
theorem dX12_isEarly_85 : decode cX12_isEarly 85 = .ok (.isub, 1) := by decide +kernel
theorem dX12_isEarly_86 : decode cX12_isEarly 86 = .ok (.bipush 10, 2) := by decide +kernel
theorem dX12_isEarly_88 : decode cX12_isEarly 88 = .ok (.if_icmp .ge 7, 3) := by decide +kernel
theorem dX12_isEarly_91 : decode cX12_isEarly 91 = .ok (.iconst 1, 1) := by decide +kernel
theorem dX12_isEarly_92 : decode cX12_isEarly 92 = .ok (.goto 4, 3) := by decide +kernel
theorem dX12_isEarly_95 : decode cX12_isEarly 95 = .ok (.iconst 0, 1) := by decide +kernel
theorem dX12_isEarly_96 : decode cX12_isEarly 96 = .ok (.ireturn, 1) := by decide +kernel
theorem dX12_scales_0 : decode cX12_scales 0 = .ok (.aload_n 0, 1) := by decide +kernel
theorem dX12_scales_1 : decode cX12_scales 1 = .ok (.aload_n 0, 1) := by decide +kernel
theorem dX12_scales_2 : decode cX12_scales 2 = .ok (.getfield 243, 3) := by decide +kernel
theorem dX12_scales_5 : decode cX12_scales 5 = .ok (.iconst 0, 1) := by decide +kernel
theorem dX12_scales_6 : decode cX12_scales 6 = .ok (.invokevirtual 269, 3) := by decide +kernel
theorem dX12_scales_9 : decode cX12_scales 9 = .ok (.ifCond .eq 31, 3) := by decide +kernel
theorem dX12_scales_12 : decode cX12_scales 12 = .ok (.aload_n 0, 1) := by decide +kernel
theorem dX12_scales_13 : decode cX12_scales 13 = .ok (.aload_n 0, 1) := by decide +kernel
theorem dX12_scales_14 : decode cX12_scales 14 = .ok (.getfield 243, 3) := by decide +kernel
theorem dX12_scales_17 : decode cX12_scales 17 = .ok (.iconst 5, 1) := by decide +kernel
theorem dX12_scales_18 : decode cX12_scales 18 = .ok (.invokevirtual 204, 3) := by decide +kernel
theorem dX12_scales_21 : decode cX12_scales 21 = .ok (.ifCond .eq 19, 3) := by decide +kernel
theorem dX12_scales_24 : decode cX12_scales 24 = .ok (.aload_n 0, 1) := by decide +kernel
theorem dX12_scales_25 : decode cX12_scales 25 = .ok (.aload_n 0, 1) := by decide +kernel
theorem dX12_scales_26 : decode cX12_scales 26 = .ok (.getfield 243, 3) := by decide +kernel
theorem dX12_scales_29 : decode cX12_scales 29 = .ok (.iconst 0, 1) := by decide +kernel
theorem dX12_scales_30 : decode cX12_scales 30 = .ok (.invokevirtual 204, 3) := by decide +kernel
theorem dX12_scales_33 : decode cX12_scales 33 = .ok (.aload_n 0, 1) := by decide +kernel
theorem dX12_scales_34 : decode cX12_scales 34 = .ok (.invokevirtual 329, 3) := by decide +kernel
theorem dX12_scales_37 : decode cX12_scales 37 = .ok (.if_icmp .ne 5, 3) := by decide +kernel
theorem dX12_scales_40 : decode cX12_scales 40 = .ok (.iconst 1, 1) := by decide +kernel
theorem dX12_scales_41 : decode cX12_scales 41 = .ok (.ireturn, 1) := by decide +kernel
theorem dX12_scales_42 : decode cX12_scales 42 = .ok (.aload_n 0, 1) := by decide +kernel
theorem dX12_scales_43 : decode cX12_scales 43 = .ok (.getfield 154, 3) := by decide +kernel
theorem dX12_scales_46 : decode cX12_scales 46 = .ok (.istore_n 1, 1) := by decide +kernel
theorem dX12_scales_47 : decode cX12_scales 47 = .ok (.aload_n 0, 1) := by decide +kernel
theorem dX12_scales_48 : decode cX12_scales 48 = .ok (.aload_n 0, 1) := by decide +kernel
theorem dX12_scales_49 : decode cX12_scales 49 = .ok (.getfield 243, 3) := by decide +kernel
theorem dX12_scales_52 : decode cX12_scales 52 = .ok (.aload_n 0, 1) := by decide +kernel
theorem dX12_scales_53 : decode cX12_scales 53 = .ok (.invokevirtual 329, 3) := by decide +kernel
theorem dX12_scales_56 : decode cX12_scales 56 = .ok (.invokevirtual 289, 3) := by decide +kernel
theorem dX12_scales_59 : decode cX12_scales 59 = .ok (.istore_n 2, 1) := by decide +kernel
theorem dX12_scales_60 : decode cX12_scales 60 = .ok (.aload_n 0, 1) := by decide +kernel
theorem dX12_scales_61 : decode cX12_scales 61 = .ok (.getfield 47, 3) := by decide +kernel
theorem dX12_scales_64 : decode cX12_scales 64 = .ok (.aload_n 0, 1) := by decide +kernel
theorem dX12_scales_65 : decode cX12_scales 65 = .ok (.getfield 243, 3) := by decide +kernel
theorem dX12_scales_68 : decode cX12_scales 68 = .ok (.aload_n 0, 1) := by decide +kernel
theorem dX12_scales_69 : decode cX12_scales 69 = .ok (.getfield 154, 3) := by decide +kernel
theorem dX12_scales_72 : decode cX12_scales 72 = .ok (.iload_n 1, 1) := by decide +kernel
theorem dX12_scales_73 : decode cX12_scales 73 = .ok (.if_icmp .le 10, 3) := by decide +kernel
theorem dX12_scales_76 : decode cX12_scales 76 = .ok (.aload_n 0, 1) := by decide +kernel
theorem dX12_scales_77 : decode cX12_scales 77 = .ok (.getfield 182, 3) := by decide +kernel
theorem dX12_scales_80 : decode cX12_scales 80 = .ok (.goto 12, 3) := by decide +kernel
theorem dX12_scales_83 : decode cX12_scales 83 = .ok (.aload_n 0, 1) := by decide +kernel
theorem dX12_scales_84 : decode cX12_scales 84 = .ok (.getfield 47, 3) := by decide +kernel
theorem dX12_scales_87 : decode cX12_scales 87 = .ok (.aload_n 0, 1) := by decide +kernel
theorem dX12_scales_88 : decode cX12_scales 88 = .ok (.getfield 243, 3) := by decide +kernel
theorem dX12_scales_91 : decode cX12_scales 91 = .ok (.iaload, 1) := by decide +kernel
theorem dX12_scales_92 : decode cX12_scales 92 = .ok (.iastore, 1) := by decide +kernel
theorem dX12_scales_93 : decode cX12_scales 93 = .ok (.iload_n 2, 1) := by decide +kernel
theorem dX12_scales_94 : decode cX12_scales 94 = .ok (.ireturn, 1) := by decide +kernel
theorem dX12_does_0 : decode cX12_does 0 = .ok (.aload_n 0, 1) := by decide +kernel
theorem dX12_does_1 : decode cX12_does 1 = .ok (.getfield 193, 3) := by decide +kernel
theorem dX12_does_4 : decode cX12_does 4 = .ok (.ifCond .ne 10, 3) := by decide +kernel
theorem dX12_does_7 : decode cX12_does 7 = .ok (.aload_n 0, 1) := by decide +kernel
theorem dX12_does_8 : decode cX12_does 8 = .ok (.invokevirtual 332, 3) := by decide +kernel
theorem dX12_does_11 : decode cX12_does 11 = .ok (.goto 98, 3) := by decide +kernel
theorem dX12_does_14 : decode cX12_does 14 = .ok (.aload_n 0, 1) := by decide +kernel
theorem dX12_does_15 : decode cX12_does 15 = .ok (.getfield 193, 3) := by decide +kernel
theorem dX12_does_18 : decode cX12_does 18 = .ok (.iconst 1, 1) := by decide +kernel
theorem dX12_does_19 : decode cX12_does 19 = .ok (.if_icmp .ne 10, 3) := by decide +kernel
theorem dX12_does_22 : decode cX12_does 22 = .ok (.aload_n 0, 1) := by decide +kernel
theorem dX12_does_23 : decode cX12_does 23 = .ok (.invokevirtual 335, 3) := by decide +kernel
theorem dX12_does_26 : decode cX12_does 26 = .ok (.goto 83, 3) := by decide +kernel
theorem dX12_does_29 : decode cX12_does 29 = .ok (.aload_n 0, 1) := by decide +kernel
theorem dX12_does_30 : decode cX12_does 30 = .ok (.getfield 193, 3) := by decide +kernel
theorem dX12_does_33 : decode cX12_does 33 = .ok (.iconst 2, 1) := by decide +kernel
theorem dX12_does_34 : decode cX12_does 34 = .ok (.if_icmp .ne 10, 3) := by decide +kernel
theorem dX12_does_37 : decode cX12_does 37 = .ok (.aload_n 0, 1) := by decide +kernel
theorem dX12_does_38 : decode cX12_does 38 = .ok (.invokevirtual 338, 3) := by decide +kernel
theorem dX12_does_41 : decode cX12_does 41 = .ok (.goto 68, 3) := by decide +kernel
theorem dX12_does_44 : decode cX12_does 44 = .ok (.aload_n 0, 1) := by decide +kernel
theorem dX12_does_45 : decode cX12_does 45 = .ok (.getfield 193, 3) := by decide +kernel
theorem dX12_does_48 : decode cX12_does 48 = .ok (.iconst 3, 1) := by decide +kernel
theorem dX12_does_49 : decode cX12_does 49 = .ok (.if_icmp .ne 10, 3) := by decide +kernel
theorem dX12_does_52 : decode cX12_does 52 = .ok (.aload_n 0, 1) := by decide +kernel
theorem dX12_does_53 : decode cX12_does 53 = .ok (.invokevirtual 341, 3) := by decide +kernel
theorem dX12_does_56 : decode cX12_does 56 = .ok (.goto 53, 3) := by decide +kernel
theorem dX12_does_59 : decode cX12_does 59 = .ok (.aload_n 0, 1) := by decide +kernel
theorem dX12_does_60 : decode cX12_does 60 = .ok (.getfield 193, 3) := by decide +kernel
theorem dX12_does_63 : decode cX12_does 63 = .ok (.iconst 4, 1) := by decide +kernel
theorem dX12_does_64 : decode cX12_does 64 = .ok (.if_icmp .ne 10, 3) := by decide +kernel
theorem dX12_does_67 : decode cX12_does 67 = .ok (.aload_n 0, 1) := by decide +kernel
theorem dX12_does_68 : decode cX12_does 68 = .ok (.invokevirtual 344, 3) := by decide +kernel
theorem dX12_does_71 : decode cX12_does 71 = .ok (.goto 38, 3) := by decide +kernel
theorem dX12_does_74 : decode cX12_does 74 = .ok (.aload_n 0, 1) := by decide +kernel
theorem dX12_does_75 : decode cX12_does 75 = .ok (.getfield 193, 3) := by decide +kernel
theorem dX12_does_78 : decode cX12_does 78 = .ok (.iconst 5, 1) := by decide +kernel
theorem dX12_does_79 : decode cX12_does 79 = .ok (.if_icmp .ne 10, 3) := by decide +kernel
theorem dX12_does_82 : decode cX12_does 82 = .ok (.aload_n 0, 1) := by decide +kernel
theorem dX12_does_83 : decode cX12_does 83 = .ok (.invokevirtual 347, 3) := by decide +kernel
theorem dX12_does_86 : decode cX12_does 86 = .ok (.goto 23, 3) := by decide +kernel
theorem dX12_does_89 : decode cX12_does 89 = .ok (.aload_n 0, 1) := by decide +kernel
theorem dX12_does_90 : decode cX12_does 90 = .ok (.getfield 193, 3) := by decide +kernel
theorem dX12_does_93 : decode cX12_does 93 = .ok (.bipush 6, 2) := by decide +kernel
theorem dX12_does_95 : decode cX12_does 95 = .ok (.if_icmp .ne 10, 3) := by decide +kernel
theorem dX12_does_98 : decode cX12_does 98 = .ok (.aload_n 0, 1) := by decide +kernel
theorem dX12_does_99 : decode cX12_does 99 = .ok (.invokevirtual 350, 3) := by decide +kernel
theorem dX12_does_102 : decode cX12_does 102 = .ok (.goto 7, 3) := by decide +kernel
theorem dX12_does_105 : decode cX12_does 105 = .ok (.aload_n 0, 1) := by decide +kernel
theorem dX12_does_106 : decode cX12_does 106 = .ok (.invokevirtual 353, 3) := by decide +kernel
theorem dX12_does_109 : decode cX12_does 109 = .ok (.ireturn, 1) := by decide +kernel
end
