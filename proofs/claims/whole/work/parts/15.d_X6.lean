theorem dX6_init_0 : decode cX6_init 0 = .ok (.aload_n 0, 1) := by decide +kernel
theorem dX6_init_1 : decode cX6_init 1 = .ok (.invokespecial 3, 3) := by decide +kernel
theorem dX6_init_4 : decode cX6_init 4 = .ok (.aload_n 0, 1) := by decide +kernel
theorem dX6_init_5 : decode cX6_init 5 = .ok (.bipush 26, 2) := by decide +kernel
theorem dX6_init_7 : decode cX6_init 7 = .ok (.newarray .int, 2) := by decide +kernel
theorem dX6_init_9 : decode cX6_init 9 = .ok (.putfield 9, 3) := by decide +kernel
theorem dX6_init_12 : decode cX6_init 12 = .ok (.aload_n 0, 1) := by decide +kernel
theorem dX6_init_13 : decode cX6_init 13 = .ok (.iconst 4, 1) := by decide +kernel
theorem dX6_init_14 : decode cX6_init 14 = .ok (.newarray .int, 2) := by decide +kernel
theorem dX6_init_16 : decode cX6_init 16 = .ok (.putfield 15, 3) := by decide +kernel
theorem dX6_init_19 : decode cX6_init 19 = .ok (.aload_n 0, 1) := by decide +kernel
theorem dX6_init_20 : decode cX6_init 20 = .ok (.bipush 30, 2) := by decide +kernel
theorem dX6_init_22 : decode cX6_init 22 = .ok (.newarray .int, 2) := by decide +kernel
theorem dX6_init_24 : decode cX6_init 24 = .ok (.putfield 18, 3) := by decide +kernel
theorem dX6_init_27 : decode cX6_init 27 = .ok (.return_, 1) := by decide +kernel
theorem dX6_length_0 : decode cX6_length 0 = .ok (.aload_n 0, 1) := by decide +kernel
theorem dX6_length_1 : decode cX6_length 1 = .ok (.getfield 21, 3) := by decide +kernel
theorem dX6_length_4 : decode cX6_length 4 = .ok (.ireturn, 1) := by decide +kernel
theorem dX6_classOf_0 : decode cX6_classOf 0 = .ok (.iload_n 1, 1) := by decide +kernel
theorem dX6_classOf_1 : decode cX6_classOf 1 = .ok (.invokestatic 25, 3) := by decide +kernel
theorem dX6_classOf_4 : decode cX6_classOf 4 = .ok (.ifCond .eq 12, 3) := by decide +kernel
theorem dX6_classOf_7 : decode cX6_classOf 7 = .ok (.aload_n 0, 1) := by decide +kernel
theorem dX6_classOf_8 : decode cX6_classOf 8 = .ok (.getfield 9, 3) := by decide +kernel
theorem dX6_classOf_11 : decode cX6_classOf 11 = .ok (.iload_n 1, 1) := by decide +kernel
theorem dX6_classOf_12 : decode cX6_classOf 12 = .ok (.iaload, 1) := by decide +kernel
theorem dX6_classOf_13 : decode cX6_classOf 13 = .ok (.goto 4, 3) := by decide +kernel
theorem dX6_classOf_16 : decode cX6_classOf 16 = .ok (.iconst 0, 1) := by decide +kernel
theorem dX6_classOf_17 : decode cX6_classOf 17 = .ok (.ireturn, 1) := by decide +kernel
theorem dX6_kindOf_0 : decode cX6_kindOf 0 = .ok (.iload_n 1, 1) := by decide +kernel
theorem dX6_kindOf_1 : decode cX6_kindOf 1 = .ok (.ifCond .lt 17, 3) := by decide +kernel
theorem dX6_kindOf_4 : decode cX6_kindOf 4 = .ok (.iload_n 1, 1) := by decide +kernel
theorem dX6_kindOf_5 : decode cX6_kindOf 5 = .ok (.iconst 4, 1) := by decide +kernel
theorem dX6_kindOf_6 : decode cX6_kindOf 6 = .ok (.if_icmp .ge 12, 3) := by decide +kernel
theorem dX6_kindOf_9 : decode cX6_kindOf 9 = .ok (.aload_n 0, 1) := by decide +kernel
theorem dX6_kindOf_10 : decode cX6_kindOf 10 = .ok (.getfield 15, 3) := by decide +kernel
theorem dX6_kindOf_13 : decode cX6_kindOf 13 = .ok (.iload_n 1, 1) := by decide +kernel
theorem dX6_kindOf_14 : decode cX6_kindOf 14 = .ok (.iaload, 1) := by decide +kernel
theorem dX6_kindOf_15 : decode cX6_kindOf 15 = .ok (.goto 4, 3) := by decide +kernel
theorem dX6_kindOf_18 : decode cX6_kindOf 18 = .ok (.iconst 0, 1) := by decide +kernel
theorem dX6_kindOf_19 : decode cX6_kindOf 19 = .ok (.ireturn, 1) := by decide +kernel
theorem dX6_letterAt_0 : decode cX6_letterAt 0 = .ok (.iload_n 1, 1) := by decide +kernel
theorem dX6_letterAt_1 : decode cX6_letterAt 1 = .ok (.ifCond .lt 20, 3) := by decide +kernel
theorem dX6_letterAt_4 : decode cX6_letterAt 4 = .ok (.iload_n 1, 1) := by decide +kernel
theorem dX6_letterAt_5 : decode cX6_letterAt 5 = .ok (.aload_n 0, 1) := by decide +kernel
theorem dX6_letterAt_6 : decode cX6_letterAt 6 = .ok (.getfield 21, 3) := by decide +kernel
theorem dX6_letterAt_9 : decode cX6_letterAt 9 = .ok (.if_icmp .ge 12, 3) := by decide +kernel
theorem dX6_letterAt_12 : decode cX6_letterAt 12 = .ok (.aload_n 0, 1) := by decide +kernel
theorem dX6_letterAt_13 : decode cX6_letterAt 13 = .ok (.getfield 18, 3) := by decide +kernel
theorem dX6_letterAt_16 : decode cX6_letterAt 16 = .ok (.iload_n 1, 1) := by decide +kernel
theorem dX6_letterAt_17 : decode cX6_letterAt 17 = .ok (.iaload, 1) := by decide +kernel
theorem dX6_letterAt_18 : decode cX6_letterAt 18 = .ok (.goto 4, 3) := by decide +kernel
theorem dX6_letterAt_21 : decode cX6_letterAt 21 = .ok (.iconst 0, 1) := by decide +kernel
theorem dX6_letterAt_22 : decode cX6_letterAt 22 = .ok (.ireturn, 1) := by decide +kernel
theorem dX6_classAt_0 : decode cX6_classAt 0 = .ok (.aload_n 0, 1) := by decide +kernel
theorem dX6_classAt_1 : decode cX6_classAt 1 = .ok (.aload_n 0, 1) := by decide +kernel
theorem dX6_classAt_2 : decode cX6_classAt 2 = .ok (.iload_n 1, 1) := by decide +kernel
theorem dX6_classAt_3 : decode cX6_classAt 3 = .ok (.invokevirtual 29, 3) := by decide +kernel
theorem dX6_classAt_6 : decode cX6_classAt 6 = .ok (.invokevirtual 33, 3) := by decide +kernel
theorem dX6_classAt_9 : decode cX6_classAt 9 = .ok (.ireturn, 1) := by decide +kernel
theorem dX6_setClass_0 : decode cX6_setClass 0 = .ok (.iload_n 1, 1) := by decide +kernel
theorem dX6_setClass_1 : decode cX6_setClass 1 = .ok (.invokestatic 25, 3) := by decide +kernel
theorem dX6_setClass_4 : decode cX6_setClass 4 = .ok (.ifCond .eq 10, 3) := by decide +kernel
theorem dX6_setClass_7 : decode cX6_setClass 7 = .ok (.aload_n 0, 1) := by decide +kernel
theorem dX6_setClass_8 : decode cX6_setClass 8 = .ok (.getfield 9, 3) := by decide +kernel
theorem dX6_setClass_11 : decode cX6_setClass 11 = .ok (.iload_n 1, 1) := by decide +kernel
theorem dX6_setClass_12 : decode cX6_setClass 12 = .ok (.iload_n 2, 1) := by decide +kernel
theorem dX6_setClass_13 : decode cX6_setClass 13 = .ok (.iastore, 1) := by decide +kernel
theorem dX6_setClass_14 : decode cX6_setClass 14 = .ok (.return_, 1) := by decide +kernel
theorem dX6_setKind_0 : decode cX6_setKind 0 = .ok (.iload_n 1, 1) := by decide +kernel
theorem dX6_setKind_1 : decode cX6_setKind 1 = .ok (.ifCond .lt 15, 3) := by decide +kernel
theorem dX6_setKind_4 : decode cX6_setKind 4 = .ok (.iload_n 1, 1) := by decide +kernel
theorem dX6_setKind_5 : decode cX6_setKind 5 = .ok (.iconst 4, 1) := by decide +kernel
theorem dX6_setKind_6 : decode cX6_setKind 6 = .ok (.if_icmp .ge 10, 3) := by decide +kernel
theorem dX6_setKind_9 : decode cX6_setKind 9 = .ok (.aload_n 0, 1) := by decide +kernel
theorem dX6_setKind_10 : decode cX6_setKind 10 = .ok (.getfield 15, 3) := by decide +kernel
theorem dX6_setKind_13 : decode cX6_setKind 13 = .ok (.iload_n 1, 1) := by decide +kernel
theorem dX6_setKind_14 : decode cX6_setKind 14 = .ok (.iload_n 2, 1) := by decide +kernel
theorem dX6_setKind_15 : decode cX6_setKind 15 = .ok (.iastore, 1) := by decide +kernel
theorem dX6_setKind_16 : decode cX6_setKind 16 = .ok (.return_, 1) := by decide +kernel
theorem dX6_clear_0 : decode cX6_clear 0 = .ok (.aload_n 0, 1) := by decide +kernel
theorem dX6_clear_1 : decode cX6_clear 1 = .ok (.getfield 9, 3) := by decide +kernel
theorem dX6_clear_4 : decode cX6_clear 4 = .ok (.iconst 0, 1) := by decide +kernel
theorem dX6_clear_5 : decode cX6_clear 5 = .ok (.invokestatic 36, 3) := by decide +kernel
theorem dX6_clear_8 : decode cX6_clear 8 = .ok (.aload_n 0, 1) := by decide +kernel
theorem dX6_clear_9 : decode cX6_clear 9 = .ok (.getfield 15, 3) := by decide +kernel
theorem dX6_clear_12 : decode cX6_clear 12 = .ok (.iconst 0, 1) := by decide +kernel
theorem dX6_clear_13 : decode cX6_clear 13 = .ok (.invokestatic 36, 3) := by decide +kernel
theorem dX6_clear_16 : decode cX6_clear 16 = .ok (.aload_n 0, 1) := by decide +kernel
theorem dX6_clear_17 : decode cX6_clear 17 = .ok (.iconst 0, 1) := by decide +kernel
theorem dX6_clear_18 : decode cX6_clear 18 = .ok (.putfield 21, 3) := by decide +kernel
theorem dX6_clear_21 : decode cX6_clear 21 = .ok (.return_, 1) := by decide +kernel
theorem dX6_clearLine_0 : decode cX6_clearLine 0 = .ok (.aload_n 0, 1) := by decide +kernel
theorem dX6_clearLine_1 : decode cX6_clearLine 1 = .ok (.iconst 0, 1) := by decide +kernel
theorem dX6_clearLine_2 : decode cX6_clearLine 2 = .ok (.putfield 21, 3) := by decide +kernel
theorem dX6_clearLine_5 : decode cX6_clearLine 5 = .ok (.return_, 1) := by decide +kernel
theorem dX6_become_0 : decode cX6_become 0 = .ok (.aload_n 1, 1) := by decide +kernel
theorem dX6_become_1 : decode cX6_become 1 = .ok (.getfield 9, 3) := by decide +kernel
theorem dX6_become_4 : decode cX6_become 4 = .ok (.iconst 0, 1) := by decide +kernel
theorem dX6_become_5 : decode cX6_become 5 = .ok (.aload_n 0, 1) := by decide +kernel
theorem dX6_become_6 : decode cX6_become 6 = .ok (.getfield 9, 3) := by decide +kernel
theorem dX6_become_9 : decode cX6_become 9 = .ok (.iconst 0, 1) := by decide +kernel
theorem dX6_become_10 : decode cX6_become 10 = .ok (.bipush 26, 2) := by decide +kernel
theorem dX6_become_12 : decode cX6_become 12 = .ok (.invokestatic 42, 3) := by decide +kernel
theorem dX6_become_15 : decode cX6_become 15 = .ok (.aload_n 1, 1) := by decide +kernel
theorem dX6_become_16 : decode cX6_become 16 = .ok (.getfield 15, 3) := by decide +kernel
theorem dX6_become_19 : decode cX6_become 19 = .ok (.iconst 0, 1) := by decide +kernel
theorem dX6_become_20 : decode cX6_become 20 = .ok (.aload_n 0, 1) := by decide +kernel
theorem dX6_become_21 : decode cX6_become 21 = .ok (.getfield 15, 3) := by decide +kernel
theorem dX6_become_24 : decode cX6_become 24 = .ok (.iconst 0, 1) := by decide +kernel
theorem dX6_become_25 : decode cX6_become 25 = .ok (.iconst 4, 1) := by decide +kernel
theorem dX6_become_26 : decode cX6_become 26 = .ok (.invokestatic 42, 3) := by decide +kernel
theorem dX6_become_29 : decode cX6_become 29 = .ok (.aload_n 1, 1) := by decide +kernel
theorem dX6_become_30 : decode cX6_become 30 = .ok (.getfield 18, 3) := by decide +kernel
theorem dX6_become_33 : decode cX6_become 33 = .ok (.iconst 0, 1) := by decide +kernel
theorem dX6_become_34 : decode cX6_become 34 = .ok (.aload_n 0, 1) := by decide +kernel
theorem dX6_become_35 : decode cX6_become 35 = .ok (.getfield 18, 3) := by decide +kernel
theorem dX6_become_38 : decode cX6_become 38 = .ok (.iconst 0, 1) := by decide +kernel
theorem dX6_become_39 : decode cX6_become 39 = .ok (.bipush 30, 2) := by decide +kernel
theorem dX6_become_41 : decode cX6_become 41 = .ok (.invokestatic 42, 3) := by decide +kernel
theorem dX6_become_44 : decode cX6_become 44 = .ok (.aload_n 0, 1) := by decide +kernel
theorem dX6_become_45 : decode cX6_become 45 = .ok (.aload_n 1, 1) := by decide +kernel
theorem dX6_become_46 : decode cX6_become 46 = .ok (.getfield 21, 3) := by decide +kernel
theorem dX6_become_49 : decode cX6_become 49 = .ok (.putfield 21, 3) := by decide +kernel
theorem dX6_become_52 : decode cX6_become 52 = .ok (.return_, 1) := by decide +kernel
theorem dX6_putIn_0 : decode cX6_putIn 0 = .ok (.iload_n 1, 1) := by decide +kernel
theorem dX6_putIn_1 : decode cX6_putIn 1 = .ok (.ifCond .lt 20, 3) := by decide +kernel
theorem dX6_putIn_4 : decode cX6_putIn 4 = .ok (.iload_n 1, 1) := by decide +kernel
theorem dX6_putIn_5 : decode cX6_putIn 5 = .ok (.aload_n 0, 1) := by decide +kernel
theorem dX6_putIn_6 : decode cX6_putIn 6 = .ok (.getfield 21, 3) := by decide +kernel
theorem dX6_putIn_9 : decode cX6_putIn 9 = .ok (.if_icmp .gt 12, 3) := by decide +kernel
theorem dX6_putIn_12 : decode cX6_putIn 12 = .ok (.aload_n 0, 1) := by decide +kernel
theorem dX6_putIn_13 : decode cX6_putIn 13 = .ok (.getfield 21, 3) := by decide +kernel
theorem dX6_putIn_16 : decode cX6_putIn 16 = .ok (.bipush 30, 2) := by decide +kernel
theorem dX6_putIn_18 : decode cX6_putIn 18 = .ok (.if_icmp .lt 4, 3) := by decide +kernel
theorem dX6_putIn_21 : decode cX6_putIn 21 = .ok (.return_, 1) := by decide +kernel
theorem dX6_putIn_22 : decode cX6_putIn 22 = .ok (.aload_n 0, 1) := by decide +kernel
theorem dX6_putIn_23 : decode cX6_putIn 23 = .ok (.getfield 21, 3) := by decide +kernel
theorem dX6_putIn_26 : decode cX6_putIn 26 = .ok (.istore_n 3, 1) := by decide +kernel
theorem dX6_putIn_27 : decode cX6_putIn 27 = .ok (.iload_n 3, 1) := by decide +kernel
theorem dX6_putIn_28 : decode cX6_putIn 28 = .ok (.iload_n 1, 1) := by decide +kernel
theorem dX6_putIn_29 : decode cX6_putIn 29 = .ok (.if_icmp .le 23, 3) := by decide +kernel
theorem dX6_putIn_32 : decode cX6_putIn 32 = .ok (.aload_n 0, 1) := by decide +kernel
theorem dX6_putIn_33 : decode cX6_putIn 33 = .ok (.getfield 18, 3) := by decide +kernel
theorem dX6_putIn_36 : decode cX6_putIn 36 = .ok (.iload_n 3, 1) := by decide +kernel
theorem dX6_putIn_37 : decode cX6_putIn 37 = .ok (.aload_n 0, 1) := by decide +kernel
theorem dX6_putIn_38 : decode cX6_putIn 38 = .ok (.getfield 18, 3) := by decide +kernel
theorem dX6_putIn_41 : decode cX6_putIn 41 = .ok (.iload_n 3, 1) := by decide +kernel
theorem dX6_putIn_42 : decode cX6_putIn 42 = .ok (.iconst 1, 1) := by decide +kernel
theorem dX6_putIn_43 : decode cX6_putIn 43 = .ok (.isub, 1) := by decide +kernel
theorem dX6_putIn_44 : decode cX6_putIn 44 = .ok (.iaload, 1) := by decide +kernel
theorem dX6_putIn_45 : decode cX6_putIn 45 = .ok (.iastore, 1) := by decide +kernel
theorem dX6_putIn_46 : decode cX6_putIn 46 = .ok (.iinc 3 (-1), 3) := by decide +kernel
theorem dX6_putIn_49 : decode cX6_putIn 49 = .ok (.goto (-22), 3) := by decide +kernel
theorem dX6_putIn_52 : decode cX6_putIn 52 = .ok (.aload_n 0, 1) := by decide +kernel
theorem dX6_putIn_53 : decode cX6_putIn 53 = .ok (.getfield 18, 3) := by decide +kernel
theorem dX6_putIn_56 : decode cX6_putIn 56 = .ok (.iload_n 1, 1) := by decide +kernel
theorem dX6_putIn_57 : decode cX6_putIn 57 = .ok (.iload_n 2, 1) := by decide +kernel
theorem dX6_putIn_58 : decode cX6_putIn 58 = .ok (.iastore, 1) := by decide +kernel
theorem dX6_putIn_59 : decode cX6_putIn 59 = .ok (.aload_n 0, 1) := by decide +kernel
theorem dX6_putIn_60 : decode cX6_putIn 60 = .ok (.dup, 1) := by decide +kernel
theorem dX6_putIn_61 : decode cX6_putIn 61 = .ok (.getfield 21, 3) := by decide +kernel
theorem dX6_putIn_64 : decode cX6_putIn 64 = .ok (.iconst 1, 1) := by decide +kernel
theorem dX6_putIn_65 : decode cX6_putIn 65 = .ok (.iadd, 1) := by decide +kernel
theorem dX6_putIn_66 : decode cX6_putIn 66 = .ok (.putfield 21, 3) := by decide +kernel
theorem dX6_putIn_69 : decode cX6_putIn 69 = .ok (.return_, 1) := by decide +kernel
theorem dX6_takeOut_0 : decode cX6_takeOut 0 = .ok (.iload_n 1, 1) := by decide +kernel
theorem dX6_takeOut_1 : decode cX6_takeOut 1 = .ok (.ifCond .lt 11, 3) := by decide +kernel
theorem dX6_takeOut_4 : decode cX6_takeOut 4 = .ok (.iload_n 1, 1) := by decide +kernel
theorem dX6_takeOut_5 : decode cX6_takeOut 5 = .ok (.aload_n 0, 1) := by decide +kernel
theorem dX6_takeOut_6 : decode cX6_takeOut 6 = .ok (.getfield 21, 3) := by decide +kernel
theorem dX6_takeOut_9 : decode cX6_takeOut 9 = .ok (.if_icmp .lt 4, 3) := by decide +kernel
theorem dX6_takeOut_12 : decode cX6_takeOut 12 = .ok (.return_, 1) := by decide +kernel
theorem dX6_takeOut_13 : decode cX6_takeOut 13 = .ok (.aload_n 0, 1) := by decide +kernel
theorem dX6_takeOut_14 : decode cX6_takeOut 14 = .ok (.dup, 1) := by decide +kernel
theorem dX6_takeOut_15 : decode cX6_takeOut 15 = .ok (.getfield 21, 3) := by decide +kernel
theorem dX6_takeOut_18 : decode cX6_takeOut 18 = .ok (.iconst 1, 1) := by decide +kernel
theorem dX6_takeOut_19 : decode cX6_takeOut 19 = .ok (.isub, 1) := by decide +kernel
theorem dX6_takeOut_20 : decode cX6_takeOut 20 = .ok (.putfield 21, 3) := by decide +kernel
theorem dX6_takeOut_23 : decode cX6_takeOut 23 = .ok (.iload_n 1, 1) := by decide +kernel
theorem dX6_takeOut_24 : decode cX6_takeOut 24 = .ok (.istore_n 2, 1) := by decide +kernel
theorem dX6_takeOut_25 : decode cX6_takeOut 25 = .ok (.iload_n 2, 1) := by decide +kernel
theorem dX6_takeOut_26 : decode cX6_takeOut 26 = .ok (.aload_n 0, 1) := by decide +kernel
theorem dX6_takeOut_27 : decode cX6_takeOut 27 = .ok (.getfield 21, 3) := by decide +kernel
theorem dX6_takeOut_30 : decode cX6_takeOut 30 = .ok (.if_icmp .ge 23, 3) := by decide +kernel
theorem dX6_takeOut_33 : decode cX6_takeOut 33 = .ok (.aload_n 0, 1) := by decide +kernel
theorem dX6_takeOut_34 : decode cX6_takeOut 34 = .ok (.getfield 18, 3) := by decide +kernel
theorem dX6_takeOut_37 : decode cX6_takeOut 37 = .ok (.iload_n 2, 1) := by decide +kernel
theorem dX6_takeOut_38 : decode cX6_takeOut 38 = .ok (.aload_n 0, 1) := by decide +kernel
theorem dX6_takeOut_39 : decode cX6_takeOut 39 = .ok (.getfield 18, 3) := by decide +kernel
theorem dX6_takeOut_42 : decode cX6_takeOut 42 = .ok (.iload_n 2, 1) := by decide +kernel
theorem dX6_takeOut_43 : decode cX6_takeOut 43 = .ok (.iconst 1, 1) := by decide +kernel
theorem dX6_takeOut_44 : decode cX6_takeOut 44 = .ok (.iadd, 1) := by decide +kernel
theorem dX6_takeOut_45 : decode cX6_takeOut 45 = .ok (.iaload, 1) := by decide +kernel
theorem dX6_takeOut_46 : decode cX6_takeOut 46 = .ok (.iastore, 1) := by decide +kernel
theorem dX6_takeOut_47 : decode cX6_takeOut 47 = .ok (.iinc 2 1, 3) := by decide +kernel
theorem dX6_takeOut_50 : decode cX6_takeOut 50 = .ok (.goto (-25), 3) := by decide +kernel
theorem dX6_takeOut_53 : decode cX6_takeOut 53 = .ok (.return_, 1) := by decide +kernel
theorem dX6_goOnBy_0 : decode cX6_goOnBy 0 = .ok (.iload_n 1, 1) := by decide +kernel
theorem dX6_goOnBy_1 : decode cX6_goOnBy 1 = .ok (.bipush 8, 2) := by decide +kernel
theorem dX6_goOnBy_3 : decode cX6_goOnBy 3 = .ok (.idiv, 1) := by decide +kernel
theorem dX6_goOnBy_4 : decode cX6_goOnBy 4 = .ok (.bipush 26, 2) := by decide +kernel
theorem dX6_goOnBy_6 : decode cX6_goOnBy 6 = .ok (.irem, 1) := by decide +kernel
theorem dX6_goOnBy_7 : decode cX6_goOnBy 7 = .ok (.istore_n 2, 1) := by decide +kernel
theorem dX6_goOnBy_8 : decode cX6_goOnBy 8 = .ok (.iload_n 1, 1) := by decide +kernel
theorem dX6_goOnBy_9 : decode cX6_goOnBy 9 = .ok (.sipush 256, 3) := by decide +kernel
theorem dX6_goOnBy_12 : decode cX6_goOnBy 12 = .ok (.idiv, 1) := by decide +kernel
theorem dX6_goOnBy_13 : decode cX6_goOnBy 13 = .ok (.istore_n 3, 1) := by decide +kernel
theorem dX6_goOnBy_14 : decode cX6_goOnBy 14 = .ok (.iload_n 1, 1) := by decide +kernel
theorem dX6_goOnBy_15 : decode cX6_goOnBy 15 = .ok (.iconst 4, 1) := by decide +kernel
theorem dX6_goOnBy_16 : decode cX6_goOnBy 16 = .ok (.irem, 1) := by decide +kernel
theorem dX6_goOnBy_17 : decode cX6_goOnBy 17 = .ok (.lookupswitch 59 #[(2, 27), (3, 47)], 27) := by decide +kernel
theorem dX6_goOnBy_44 : decode cX6_goOnBy 44 = .ok (.aload_n 0, 1) := by decide +kernel
theorem dX6_goOnBy_45 : decode cX6_goOnBy 45 = .ok (.getfield 21, 3) := by decide +kernel
theorem dX6_goOnBy_48 : decode cX6_goOnBy 48 = .ok (.ifCond .le 41, 3) := by decide +kernel
theorem dX6_goOnBy_51 : decode cX6_goOnBy 51 = .ok (.aload_n 0, 1) := by decide +kernel
theorem dX6_goOnBy_52 : decode cX6_goOnBy 52 = .ok (.iload_n 3, 1) := by decide +kernel
theorem dX6_goOnBy_53 : decode cX6_goOnBy 53 = .ok (.aload_n 0, 1) := by decide +kernel
theorem dX6_goOnBy_54 : decode cX6_goOnBy 54 = .ok (.getfield 21, 3) := by decide +kernel
theorem dX6_goOnBy_57 : decode cX6_goOnBy 57 = .ok (.irem, 1) := by decide +kernel
theorem dX6_goOnBy_58 : decode cX6_goOnBy 58 = .ok (.invokevirtual 48, 3) := by decide +kernel
theorem dX6_goOnBy_61 : decode cX6_goOnBy 61 = .ok (.goto 28, 3) := by decide +kernel
theorem dX6_goOnBy_64 : decode cX6_goOnBy 64 = .ok (.aload_n 0, 1) := by decide +kernel
theorem dX6_goOnBy_65 : decode cX6_goOnBy 65 = .ok (.iload_n 2, 1) := by decide +kernel
theorem dX6_goOnBy_66 : decode cX6_goOnBy 66 = .ok (.iload_n 3, 1) := by decide +kernel
theorem dX6_goOnBy_67 : decode cX6_goOnBy 67 = .ok (.bipush 6, 2) := by decide +kernel
theorem dX6_goOnBy_69 : decode cX6_goOnBy 69 = .ok (.irem, 1) := by decide +kernel
theorem dX6_goOnBy_70 : decode cX6_goOnBy 70 = .ok (.invokevirtual 52, 3) := by decide +kernel
theorem dX6_goOnBy_73 : decode cX6_goOnBy 73 = .ok (.goto 16, 3) := by decide +kernel
theorem dX6_goOnBy_76 : decode cX6_goOnBy 76 = .ok (.aload_n 0, 1) := by decide +kernel
theorem dX6_goOnBy_77 : decode cX6_goOnBy 77 = .ok (.iload_n 3, 1) := by decide +kernel
theorem dX6_goOnBy_78 : decode cX6_goOnBy 78 = .ok (.aload_n 0, 1) := by decide +kernel
theorem dX6_goOnBy_79 : decode cX6_goOnBy 79 = .ok (.getfield 21, 3) := by decide +kernel
theorem dX6_goOnBy_82 : decode cX6_goOnBy 82 = .ok (.iconst 1, 1) := by decide +kernel
theorem dX6_goOnBy_83 : decode cX6_goOnBy 83 = .ok (.iadd, 1) := by decide +kernel
theorem dX6_goOnBy_84 : decode cX6_goOnBy 84 = .ok (.irem, 1) := by decide +kernel
theorem dX6_goOnBy_85 : decode cX6_goOnBy 85 = .ok (.iload_n 2, 1) := by decide +kernel
theorem dX6_goOnBy_86 : decode cX6_goOnBy 86 = .ok (.invokevirtual 56, 3) := by decide +kernel
theorem dX6_goOnBy_89 : decode cX6_goOnBy 89 = .ok (.return_, 1) := by decide +kernel
theorem dX6_unlikeFours_0 : decode cX6_unlikeFours 0 = .ok (.iconst 0, 1) := by decide +kernel
theorem dX6_unlikeFours_1 : decode cX6_unlikeFours 1 = .ok (.istore_n 1, 1) := by decide +kernel
theorem dX6_unlikeFours_2 : decode cX6_unlikeFours 2 = .ok (.iconst 0, 1) := by decide +kernel
theorem dX6_unlikeFours_3 : decode cX6_unlikeFours 3 = .ok (.istore_n 2, 1) := by decide +kernel
theorem dX6_unlikeFours_4 : decode cX6_unlikeFours 4 = .ok (.iload_n 2, 1) := by decide +kernel
theorem dX6_unlikeFours_5 : decode cX6_unlikeFours 5 = .ok (.bipush 26, 2) := by decide +kernel
theorem dX6_unlikeFours_7 : decode cX6_unlikeFours 7 = .ok (.if_icmp .ge 60, 3) := by decide +kernel
theorem dX6_unlikeFours_10 : decode cX6_unlikeFours 10 = .ok (.iconst 1, 1) := by decide +kernel
theorem dX6_unlikeFours_11 : decode cX6_unlikeFours 11 = .ok (.istore_n 3, 1) := by decide +kernel
theorem dX6_unlikeFours_12 : decode cX6_unlikeFours 12 = .ok (.iconst 0, 1) := by decide +kernel
theorem dX6_unlikeFours_13 : decode cX6_unlikeFours 13 = .ok (.istore 4, 2) := by decide +kernel
theorem dX6_unlikeFours_15 : decode cX6_unlikeFours 15 = .ok (.iload 4, 2) := by decide +kernel
theorem dX6_unlikeFours_17 : decode cX6_unlikeFours 17 = .ok (.iload_n 2, 1) := by decide +kernel
theorem dX6_unlikeFours_18 : decode cX6_unlikeFours 18 = .ok (.if_icmp .ge 31, 3) := by decide +kernel
theorem dX6_unlikeFours_21 : decode cX6_unlikeFours 21 = .ok (.iload_n 3, 1) := by decide +kernel
theorem dX6_unlikeFours_22 : decode cX6_unlikeFours 22 = .ok (.aload_n 0, 1) := by decide +kernel
theorem dX6_unlikeFours_23 : decode cX6_unlikeFours 23 = .ok (.iload_n 2, 1) := by decide +kernel
theorem dX6_unlikeFours_24 : decode cX6_unlikeFours 24 = .ok (.invokevirtual 59, 3) := by decide +kernel
theorem dX6_unlikeFours_27 : decode cX6_unlikeFours 27 = .ok (.aload_n 0, 1) := by decide +kernel
theorem dX6_unlikeFours_28 : decode cX6_unlikeFours 28 = .ok (.iload 4, 2) := by decide +kernel
theorem dX6_unlikeFours_30 : decode cX6_unlikeFours 30 = .ok (.invokevirtual 59, 3) := by decide +kernel
theorem dX6_unlikeFours_33 : decode cX6_unlikeFours 33 = .ok (.if_icmp .eq 7, 3) := by decide +kernel
theorem dX6_unlikeFours_36 : decode cX6_unlikeFours 36 = .ok (.iconst 1, 1) := by decide +kernel
theorem dX6_unlikeFours_37 : decode cX6_unlikeFours 37 = .ok (.goto 4, 3) := by decide +kernel
theorem dX6_unlikeFours_40 : decode cX6_unlikeFours 40 = .ok (.iconst 0, 1) := by decide +kernel
theorem dX6_unlikeFours_41 : decode cX6_unlikeFours 41 = .ok (.iand, 1) := by decide +kernel
theorem dX6_unlikeFours_42 : decode cX6_unlikeFours 42 = .ok (.istore_n 3, 1) := by decide +kernel
theorem dX6_unlikeFours_43 : decode cX6_unlikeFours 43 = .ok (.iinc 4 4, 3) := by decide +kernel
theorem dX6_unlikeFours_46 : decode cX6_unlikeFours 46 = .ok (.goto (-31), 3) := by decide +kernel
theorem dX6_unlikeFours_49 : decode cX6_unlikeFours 49 = .ok (.iload_n 1, 1) := by decide +kernel
theorem dX6_unlikeFours_50 : decode cX6_unlikeFours 50 = .ok (.iload_n 3, 1) := by decide +kernel
theorem dX6_unlikeFours_51 : decode cX6_unlikeFours 51 = .ok (.ifCond .eq 7, 3) := by decide +kernel
theorem dX6_unlikeFours_54 : decode cX6_unlikeFours 54 = .ok (.iconst 1, 1) := by decide +kernel
theorem dX6_unlikeFours_55 : decode cX6_unlikeFours 55 = .ok (.goto 4, 3) := by decide +kernel
theorem dX6_unlikeFours_58 : decode cX6_unlikeFours 58 = .ok (.iconst 0, 1) := by decide +kernel
theorem dX6_unlikeFours_59 : decode cX6_unlikeFours 59 = .ok (.iadd, 1) := by decide +kernel
theorem dX6_unlikeFours_60 : decode cX6_unlikeFours 60 = .ok (.istore_n 1, 1) := by decide +kernel
theorem dX6_unlikeFours_61 : decode cX6_unlikeFours 61 = .ok (.iinc 2 4, 3) := by decide +kernel
theorem dX6_unlikeFours_64 : decode cX6_unlikeFours 64 = .ok (.goto (-60), 3) := by decide +kernel
theorem dX6_unlikeFours_67 : decode cX6_unlikeFours 67 = .ok (.iload_n 1, 1) := by decide +kernel
theorem dX6_unlikeFours_68 : decode cX6_unlikeFours 68 = .ok (.ireturn, 1) := by decide +kernel
theorem dX6_fourFrom_0 : decode cX6_fourFrom 0 = .ok (.iconst 0, 1) := by decide +kernel
theorem dX6_fourFrom_1 : decode cX6_fourFrom 1 = .ok (.istore_n 2, 1) := by decide +kernel
theorem dX6_fourFrom_2 : decode cX6_fourFrom 2 = .ok (.iload_n 1, 1) := by decide +kernel
theorem dX6_fourFrom_3 : decode cX6_fourFrom 3 = .ok (.istore_n 3, 1) := by decide +kernel
theorem dX6_fourFrom_4 : decode cX6_fourFrom 4 = .ok (.iload_n 3, 1) := by decide +kernel
theorem dX6_fourFrom_5 : decode cX6_fourFrom 5 = .ok (.iload_n 1, 1) := by decide +kernel
theorem dX6_fourFrom_6 : decode cX6_fourFrom 6 = .ok (.iconst 4, 1) := by decide +kernel
theorem dX6_fourFrom_7 : decode cX6_fourFrom 7 = .ok (.iadd, 1) := by decide +kernel
theorem dX6_fourFrom_8 : decode cX6_fourFrom 8 = .ok (.if_icmp .ge 31, 3) := by decide +kernel
theorem dX6_fourFrom_11 : decode cX6_fourFrom 11 = .ok (.iload_n 2, 1) := by decide +kernel
theorem dX6_fourFrom_12 : decode cX6_fourFrom 12 = .ok (.bipush 6, 2) := by decide +kernel
theorem dX6_fourFrom_14 : decode cX6_fourFrom 14 = .ok (.imul, 1) := by decide +kernel
theorem dX6_fourFrom_15 : decode cX6_fourFrom 15 = .ok (.iload_n 3, 1) := by decide +kernel
theorem dX6_fourFrom_16 : decode cX6_fourFrom 16 = .ok (.bipush 26, 2) := by decide +kernel
theorem dX6_fourFrom_18 : decode cX6_fourFrom 18 = .ok (.if_icmp .ge 12, 3) := by decide +kernel
theorem dX6_fourFrom_21 : decode cX6_fourFrom 21 = .ok (.aload_n 0, 1) := by decide +kernel
theorem dX6_fourFrom_22 : decode cX6_fourFrom 22 = .ok (.getfield 9, 3) := by decide +kernel
theorem dX6_fourFrom_25 : decode cX6_fourFrom 25 = .ok (.iload_n 3, 1) := by decide +kernel
theorem dX6_fourFrom_26 : decode cX6_fourFrom 26 = .ok (.iaload, 1) := by decide +kernel
theorem dX6_fourFrom_27 : decode cX6_fourFrom 27 = .ok (.goto 4, 3) := by decide +kernel
theorem dX6_fourFrom_30 : decode cX6_fourFrom 30 = .ok (.iconst 0, 1) := by decide +kernel
theorem dX6_fourFrom_31 : decode cX6_fourFrom 31 = .ok (.iadd, 1) := by decide +kernel
theorem dX6_fourFrom_32 : decode cX6_fourFrom 32 = .ok (.istore_n 2, 1) := by decide +kernel
theorem dX6_fourFrom_33 : decode cX6_fourFrom 33 = .ok (.iinc 3 1, 3) := by decide +kernel
theorem dX6_fourFrom_36 : decode cX6_fourFrom 36 = .ok (.goto (-32), 3) := by decide +kernel
theorem dX6_fourFrom_39 : decode cX6_fourFrom 39 = .ok (.iload_n 2, 1) := by decide +kernel
theorem dX6_fourFrom_40 : decode cX6_fourFrom 40 = .ok (.ireturn, 1) := by decide +kernel
