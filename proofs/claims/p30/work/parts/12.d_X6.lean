theorem dX6_init_0 : decode cX6_init 0 = .ok (.aload_n 0, 1) := by decide +kernel
theorem dX6_init_1 : decode cX6_init 1 = .ok (.invokespecial 3, 3) := by decide +kernel
theorem dX6_init_4 : decode cX6_init 4 = .ok (.aload_n 0, 1) := by decide +kernel
theorem dX6_init_5 : decode cX6_init 5 = .ok (.bipush 26, 2) := by decide +kernel
theorem dX6_init_7 : decode cX6_init 7 = .ok (.newarray .int, 2) := by decide +kernel
theorem dX6_init_9 : decode cX6_init 9 = .ok (.putfield 9, 3) := by decide +kernel
theorem dX6_init_12 : decode cX6_init 12 = .ok (.aload_n 0, 1) := by decide +kernel
theorem dX6_init_13 : decode cX6_init 13 = .ok (.iconst 4, 1) := by decide +kernel
theorem dX6_init_14 : decode cX6_init 14 = .ok (.newarray .int, 2) := by decide +kernel
theorem dX6_init_16 : decode cX6_init 16 = .ok (.putfield 15, 3) := by decide +kernel
theorem dX6_init_19 : decode cX6_init 19 = .ok (.aload_n 0, 1) := by decide +kernel
theorem dX6_init_20 : decode cX6_init 20 = .ok (.bipush 30, 2) := by decide +kernel
theorem dX6_init_22 : decode cX6_init 22 = .ok (.newarray .int, 2) := by decide +kernel
theorem dX6_init_24 : decode cX6_init 24 = .ok (.putfield 18, 3) := by decide +kernel
theorem dX6_init_27 : decode cX6_init 27 = .ok (.return_, 1) := by decide +kernel
theorem dX6_length_0 : decode cX6_length 0 = .ok (.aload_n 0, 1) := by decide +kernel
theorem dX6_length_1 : decode cX6_length 1 = .ok (.getfield 21, 3) := by decide +kernel
theorem dX6_length_4 : decode cX6_length 4 = .ok (.ireturn, 1) := by decide +kernel
theorem dX6_classOf_0 : decode cX6_classOf 0 = .ok (.iload_n 1, 1) := by decide +kernel
theorem dX6_classOf_1 : decode cX6_classOf 1 = .ok (.invokestatic 25, 3) := by decide +kernel
theorem dX6_classOf_4 : decode cX6_classOf 4 = .ok (.ifCond .eq 12, 3) := by decide +kernel
theorem dX6_classOf_7 : decode cX6_classOf 7 = .ok (.aload_n 0, 1) := by decide +kernel
theorem dX6_classOf_8 : decode cX6_classOf 8 = .ok (.getfield 9, 3) := by decide +kernel
theorem dX6_classOf_11 : decode cX6_classOf 11 = .ok (.iload_n 1, 1) := by decide +kernel
theorem dX6_classOf_12 : decode cX6_classOf 12 = .ok (.iaload, 1) := by decide +kernel
theorem dX6_classOf_13 : decode cX6_classOf 13 = .ok (.goto 4, 3) := by decide +kernel
theorem dX6_classOf_16 : decode cX6_classOf 16 = .ok (.iconst 0, 1) := by decide +kernel
theorem dX6_classOf_17 : decode cX6_classOf 17 = .ok (.ireturn, 1) := by decide +kernel
theorem dX6_kindOf_0 : decode cX6_kindOf 0 = .ok (.iload_n 1, 1) := by decide +kernel
theorem dX6_kindOf_1 : decode cX6_kindOf 1 = .ok (.ifCond .lt 17, 3) := by decide +kernel
theorem dX6_kindOf_4 : decode cX6_kindOf 4 = .ok (.iload_n 1, 1) := by decide +kernel
theorem dX6_kindOf_5 : decode cX6_kindOf 5 = .ok (.iconst 4, 1) := by decide +kernel
theorem dX6_kindOf_6 : decode cX6_kindOf 6 = .ok (.if_icmp .ge 12, 3) := by decide +kernel
theorem dX6_kindOf_9 : decode cX6_kindOf 9 = .ok (.aload_n 0, 1) := by decide +kernel
theorem dX6_kindOf_10 : decode cX6_kindOf 10 = .ok (.getfield 15, 3) := by decide +kernel
theorem dX6_kindOf_13 : decode cX6_kindOf 13 = .ok (.iload_n 1, 1) := by decide +kernel
theorem dX6_kindOf_14 : decode cX6_kindOf 14 = .ok (.iaload, 1) := by decide +kernel
theorem dX6_kindOf_15 : decode cX6_kindOf 15 = .ok (.goto 4, 3) := by decide +kernel
theorem dX6_kindOf_18 : decode cX6_kindOf 18 = .ok (.iconst 0, 1) := by decide +kernel
theorem dX6_kindOf_19 : decode cX6_kindOf 19 = .ok (.ireturn, 1) := by decide +kernel
theorem dX6_letterAt_0 : decode cX6_letterAt 0 = .ok (.iload_n 1, 1) := by decide +kernel
theorem dX6_letterAt_1 : decode cX6_letterAt 1 = .ok (.ifCond .lt 20, 3) := by decide +kernel
theorem dX6_letterAt_4 : decode cX6_letterAt 4 = .ok (.iload_n 1, 1) := by decide +kernel
theorem dX6_letterAt_5 : decode cX6_letterAt 5 = .ok (.aload_n 0, 1) := by decide +kernel
theorem dX6_letterAt_6 : decode cX6_letterAt 6 = .ok (.getfield 21, 3) := by decide +kernel
theorem dX6_letterAt_9 : decode cX6_letterAt 9 = .ok (.if_icmp .ge 12, 3) := by decide +kernel
theorem dX6_letterAt_12 : decode cX6_letterAt 12 = .ok (.aload_n 0, 1) := by decide +kernel
theorem dX6_letterAt_13 : decode cX6_letterAt 13 = .ok (.getfield 18, 3) := by decide +kernel
theorem dX6_letterAt_16 : decode cX6_letterAt 16 = .ok (.iload_n 1, 1) := by decide +kernel
theorem dX6_letterAt_17 : decode cX6_letterAt 17 = .ok (.iaload, 1) := by decide +kernel
theorem dX6_letterAt_18 : decode cX6_letterAt 18 = .ok (.goto 4, 3) := by decide +kernel
theorem dX6_letterAt_21 : decode cX6_letterAt 21 = .ok (.iconst 0, 1) := by decide +kernel
theorem dX6_letterAt_22 : decode cX6_letterAt 22 = .ok (.ireturn, 1) := by decide +kernel
theorem dX6_classAt_0 : decode cX6_classAt 0 = .ok (.aload_n 0, 1) := by decide +kernel
theorem dX6_classAt_1 : decode cX6_classAt 1 = .ok (.aload_n 0, 1) := by decide +kernel
theorem dX6_classAt_2 : decode cX6_classAt 2 = .ok (.iload_n 1, 1) := by decide +kernel
theorem dX6_classAt_3 : decode cX6_classAt 3 = .ok (.invokevirtual 29, 3) := by decide +kernel
theorem dX6_classAt_6 : decode cX6_classAt 6 = .ok (.invokevirtual 33, 3) := by decide +kernel
theorem dX6_classAt_9 : decode cX6_classAt 9 = .ok (.ireturn, 1) := by decide +kernel
theorem dX6_setClass_0 : decode cX6_setClass 0 = .ok (.iload_n 1, 1) := by decide +kernel
theorem dX6_setClass_1 : decode cX6_setClass 1 = .ok (.invokestatic 25, 3) := by decide +kernel
theorem dX6_setClass_4 : decode cX6_setClass 4 = .ok (.ifCond .eq 10, 3) := by decide +kernel
theorem dX6_setClass_7 : decode cX6_setClass 7 = .ok (.aload_n 0, 1) := by decide +kernel
theorem dX6_setClass_8 : decode cX6_setClass 8 = .ok (.getfield 9, 3) := by decide +kernel
theorem dX6_setClass_11 : decode cX6_setClass 11 = .ok (.iload_n 1, 1) := by decide +kernel
theorem dX6_setClass_12 : decode cX6_setClass 12 = .ok (.iload_n 2, 1) := by decide +kernel
theorem dX6_setClass_13 : decode cX6_setClass 13 = .ok (.iastore, 1) := by decide +kernel
theorem dX6_setClass_14 : decode cX6_setClass 14 = .ok (.return_, 1) := by decide +kernel
theorem dX6_setKind_0 : decode cX6_setKind 0 = .ok (.iload_n 1, 1) := by decide +kernel
theorem dX6_setKind_1 : decode cX6_setKind 1 = .ok (.ifCond .lt 15, 3) := by decide +kernel
theorem dX6_setKind_4 : decode cX6_setKind 4 = .ok (.iload_n 1, 1) := by decide +kernel
theorem dX6_setKind_5 : decode cX6_setKind 5 = .ok (.iconst 4, 1) := by decide +kernel
theorem dX6_setKind_6 : decode cX6_setKind 6 = .ok (.if_icmp .ge 10, 3) := by decide +kernel
theorem dX6_setKind_9 : decode cX6_setKind 9 = .ok (.aload_n 0, 1) := by decide +kernel
theorem dX6_setKind_10 : decode cX6_setKind 10 = .ok (.getfield 15, 3) := by decide +kernel
theorem dX6_setKind_13 : decode cX6_setKind 13 = .ok (.iload_n 1, 1) := by decide +kernel
theorem dX6_setKind_14 : decode cX6_setKind 14 = .ok (.iload_n 2, 1) := by decide +kernel
theorem dX6_setKind_15 : decode cX6_setKind 15 = .ok (.iastore, 1) := by decide +kernel
theorem dX6_setKind_16 : decode cX6_setKind 16 = .ok (.return_, 1) := by decide +kernel
theorem dX6_clear_0 : decode cX6_clear 0 = .ok (.aload_n 0, 1) := by decide +kernel
theorem dX6_clear_1 : decode cX6_clear 1 = .ok (.getfield 9, 3) := by decide +kernel
theorem dX6_clear_4 : decode cX6_clear 4 = .ok (.iconst 0, 1) := by decide +kernel
theorem dX6_clear_5 : decode cX6_clear 5 = .ok (.invokestatic 36, 3) := by decide +kernel
theorem dX6_clear_8 : decode cX6_clear 8 = .ok (.aload_n 0, 1) := by decide +kernel
theorem dX6_clear_9 : decode cX6_clear 9 = .ok (.getfield 15, 3) := by decide +kernel
theorem dX6_clear_12 : decode cX6_clear 12 = .ok (.iconst 0, 1) := by decide +kernel
theorem dX6_clear_13 : decode cX6_clear 13 = .ok (.invokestatic 36, 3) := by decide +kernel
theorem dX6_clear_16 : decode cX6_clear 16 = .ok (.aload_n 0, 1) := by decide +kernel
theorem dX6_clear_17 : decode cX6_clear 17 = .ok (.iconst 0, 1) := by decide +kernel
theorem dX6_clear_18 : decode cX6_clear 18 = .ok (.putfield 21, 3) := by decide +kernel
theorem dX6_clear_21 : decode cX6_clear 21 = .ok (.return_, 1) := by decide +kernel
theorem dX6_clearLine_0 : decode cX6_clearLine 0 = .ok (.aload_n 0, 1) := by decide +kernel
theorem dX6_clearLine_1 : decode cX6_clearLine 1 = .ok (.iconst 0, 1) := by decide +kernel
theorem dX6_clearLine_2 : decode cX6_clearLine 2 = .ok (.putfield 21, 3) := by decide +kernel
theorem dX6_clearLine_5 : decode cX6_clearLine 5 = .ok (.return_, 1) := by decide +kernel
theorem dX6_putIn_0 : decode cX6_putIn 0 = .ok (.iload_n 1, 1) := by decide +kernel
theorem dX6_putIn_1 : decode cX6_putIn 1 = .ok (.ifCond .lt 20, 3) := by decide +kernel
theorem dX6_putIn_4 : decode cX6_putIn 4 = .ok (.iload_n 1, 1) := by decide +kernel
theorem dX6_putIn_5 : decode cX6_putIn 5 = .ok (.aload_n 0, 1) := by decide +kernel
theorem dX6_putIn_6 : decode cX6_putIn 6 = .ok (.getfield 21, 3) := by decide +kernel
theorem dX6_putIn_9 : decode cX6_putIn 9 = .ok (.if_icmp .gt 12, 3) := by decide +kernel
theorem dX6_putIn_12 : decode cX6_putIn 12 = .ok (.aload_n 0, 1) := by decide +kernel
theorem dX6_putIn_13 : decode cX6_putIn 13 = .ok (.getfield 21, 3) := by decide +kernel
theorem dX6_putIn_16 : decode cX6_putIn 16 = .ok (.bipush 30, 2) := by decide +kernel
theorem dX6_putIn_18 : decode cX6_putIn 18 = .ok (.if_icmp .lt 4, 3) := by decide +kernel
theorem dX6_putIn_21 : decode cX6_putIn 21 = .ok (.return_, 1) := by decide +kernel
theorem dX6_putIn_22 : decode cX6_putIn 22 = .ok (.aload_n 0, 1) := by decide +kernel
theorem dX6_putIn_23 : decode cX6_putIn 23 = .ok (.getfield 21, 3) := by decide +kernel
theorem dX6_putIn_26 : decode cX6_putIn 26 = .ok (.istore_n 3, 1) := by decide +kernel
theorem dX6_putIn_27 : decode cX6_putIn 27 = .ok (.iload_n 3, 1) := by decide +kernel
theorem dX6_putIn_28 : decode cX6_putIn 28 = .ok (.iload_n 1, 1) := by decide +kernel
theorem dX6_putIn_29 : decode cX6_putIn 29 = .ok (.if_icmp .le 23, 3) := by decide +kernel
theorem dX6_putIn_32 : decode cX6_putIn 32 = .ok (.aload_n 0, 1) := by decide +kernel
theorem dX6_putIn_33 : decode cX6_putIn 33 = .ok (.getfield 18, 3) := by decide +kernel
theorem dX6_putIn_36 : decode cX6_putIn 36 = .ok (.iload_n 3, 1) := by decide +kernel
theorem dX6_putIn_37 : decode cX6_putIn 37 = .ok (.aload_n 0, 1) := by decide +kernel
theorem dX6_putIn_38 : decode cX6_putIn 38 = .ok (.getfield 18, 3) := by decide +kernel
theorem dX6_putIn_41 : decode cX6_putIn 41 = .ok (.iload_n 3, 1) := by decide +kernel
theorem dX6_putIn_42 : decode cX6_putIn 42 = .ok (.iconst 1, 1) := by decide +kernel
theorem dX6_putIn_43 : decode cX6_putIn 43 = .ok (.isub, 1) := by decide +kernel
theorem dX6_putIn_44 : decode cX6_putIn 44 = .ok (.iaload, 1) := by decide +kernel
theorem dX6_putIn_45 : decode cX6_putIn 45 = .ok (.iastore, 1) := by decide +kernel
theorem dX6_putIn_46 : decode cX6_putIn 46 = .ok (.iinc 3 (-1), 3) := by decide +kernel
theorem dX6_putIn_49 : decode cX6_putIn 49 = .ok (.goto (-22), 3) := by decide +kernel
theorem dX6_putIn_52 : decode cX6_putIn 52 = .ok (.aload_n 0, 1) := by decide +kernel
theorem dX6_putIn_53 : decode cX6_putIn 53 = .ok (.getfield 18, 3) := by decide +kernel
theorem dX6_putIn_56 : decode cX6_putIn 56 = .ok (.iload_n 1, 1) := by decide +kernel
theorem dX6_putIn_57 : decode cX6_putIn 57 = .ok (.iload_n 2, 1) := by decide +kernel
theorem dX6_putIn_58 : decode cX6_putIn 58 = .ok (.iastore, 1) := by decide +kernel
theorem dX6_putIn_59 : decode cX6_putIn 59 = .ok (.aload_n 0, 1) := by decide +kernel
theorem dX6_putIn_60 : decode cX6_putIn 60 = .ok (.dup, 1) := by decide +kernel
theorem dX6_putIn_61 : decode cX6_putIn 61 = .ok (.getfield 21, 3) := by decide +kernel
theorem dX6_putIn_64 : decode cX6_putIn 64 = .ok (.iconst 1, 1) := by decide +kernel
theorem dX6_putIn_65 : decode cX6_putIn 65 = .ok (.iadd, 1) := by decide +kernel
theorem dX6_putIn_66 : decode cX6_putIn 66 = .ok (.putfield 21, 3) := by decide +kernel
theorem dX6_putIn_69 : decode cX6_putIn 69 = .ok (.return_, 1) := by decide +kernel
theorem dX6_takeOut_0 : decode cX6_takeOut 0 = .ok (.iload_n 1, 1) := by decide +kernel
theorem dX6_takeOut_1 : decode cX6_takeOut 1 = .ok (.ifCond .lt 11, 3) := by decide +kernel
theorem dX6_takeOut_4 : decode cX6_takeOut 4 = .ok (.iload_n 1, 1) := by decide +kernel
theorem dX6_takeOut_5 : decode cX6_takeOut 5 = .ok (.aload_n 0, 1) := by decide +kernel
theorem dX6_takeOut_6 : decode cX6_takeOut 6 = .ok (.getfield 21, 3) := by decide +kernel
theorem dX6_takeOut_9 : decode cX6_takeOut 9 = .ok (.if_icmp .lt 4, 3) := by decide +kernel
theorem dX6_takeOut_12 : decode cX6_takeOut 12 = .ok (.return_, 1) := by decide +kernel
theorem dX6_takeOut_13 : decode cX6_takeOut 13 = .ok (.aload_n 0, 1) := by decide +kernel
theorem dX6_takeOut_14 : decode cX6_takeOut 14 = .ok (.dup, 1) := by decide +kernel
theorem dX6_takeOut_15 : decode cX6_takeOut 15 = .ok (.getfield 21, 3) := by decide +kernel
theorem dX6_takeOut_18 : decode cX6_takeOut 18 = .ok (.iconst 1, 1) := by decide +kernel
theorem dX6_takeOut_19 : decode cX6_takeOut 19 = .ok (.isub, 1) := by decide +kernel
theorem dX6_takeOut_20 : decode cX6_takeOut 20 = .ok (.putfield 21, 3) := by decide +kernel
theorem dX6_takeOut_23 : decode cX6_takeOut 23 = .ok (.iload_n 1, 1) := by decide +kernel
theorem dX6_takeOut_24 : decode cX6_takeOut 24 = .ok (.istore_n 2, 1) := by decide +kernel
theorem dX6_takeOut_25 : decode cX6_takeOut 25 = .ok (.iload_n 2, 1) := by decide +kernel
theorem dX6_takeOut_26 : decode cX6_takeOut 26 = .ok (.aload_n 0, 1) := by decide +kernel
theorem dX6_takeOut_27 : decode cX6_takeOut 27 = .ok (.getfield 21, 3) := by decide +kernel
theorem dX6_takeOut_30 : decode cX6_takeOut 30 = .ok (.if_icmp .ge 23, 3) := by decide +kernel
theorem dX6_takeOut_33 : decode cX6_takeOut 33 = .ok (.aload_n 0, 1) := by decide +kernel
theorem dX6_takeOut_34 : decode cX6_takeOut 34 = .ok (.getfield 18, 3) := by decide +kernel
theorem dX6_takeOut_37 : decode cX6_takeOut 37 = .ok (.iload_n 2, 1) := by decide +kernel
theorem dX6_takeOut_38 : decode cX6_takeOut 38 = .ok (.aload_n 0, 1) := by decide +kernel
theorem dX6_takeOut_39 : decode cX6_takeOut 39 = .ok (.getfield 18, 3) := by decide +kernel
theorem dX6_takeOut_42 : decode cX6_takeOut 42 = .ok (.iload_n 2, 1) := by decide +kernel
theorem dX6_takeOut_43 : decode cX6_takeOut 43 = .ok (.iconst 1, 1) := by decide +kernel
theorem dX6_takeOut_44 : decode cX6_takeOut 44 = .ok (.iadd, 1) := by decide +kernel
theorem dX6_takeOut_45 : decode cX6_takeOut 45 = .ok (.iaload, 1) := by decide +kernel
theorem dX6_takeOut_46 : decode cX6_takeOut 46 = .ok (.iastore, 1) := by decide +kernel
theorem dX6_takeOut_47 : decode cX6_takeOut 47 = .ok (.iinc 2 1, 3) := by decide +kernel
theorem dX6_takeOut_50 : decode cX6_takeOut 50 = .ok (.goto (-25), 3) := by decide +kernel
theorem dX6_takeOut_53 : decode cX6_takeOut 53 = .ok (.return_, 1) := by decide +kernel
