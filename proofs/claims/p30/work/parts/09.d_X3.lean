theorem dX3_init_0 : decode cX3_init 0 = .ok (.aload_n 0, 1) := by decide +kernel
theorem dX3_init_1 : decode cX3_init 1 = .ok (.invokespecial 3, 3) := by decide +kernel
theorem dX3_init_4 : decode cX3_init 4 = .ok (.aload_n 0, 1) := by decide +kernel
theorem dX3_init_5 : decode cX3_init 5 = .ok (.bipush 31, 2) := by decide +kernel
theorem dX3_init_7 : decode cX3_init 7 = .ok (.newarray .int, 2) := by decide +kernel
theorem dX3_init_9 : decode cX3_init 9 = .ok (.putfield 9, 3) := by decide +kernel
theorem dX3_init_12 : decode cX3_init 12 = .ok (.return_, 1) := by decide +kernel
theorem dX3_read_0 : decode cX3_read 0 = .ok (.aload_n 0, 1) := by decide +kernel
theorem dX3_read_1 : decode cX3_read 1 = .ok (.aload_n 1, 1) := by decide +kernel
theorem dX3_read_2 : decode cX3_read 2 = .ok (.invokevirtual 15, 3) := by decide +kernel
theorem dX3_read_5 : decode cX3_read 5 = .ok (.putfield 21, 3) := by decide +kernel
theorem dX3_read_8 : decode cX3_read 8 = .ok (.aload_n 0, 1) := by decide +kernel
theorem dX3_read_9 : decode cX3_read 9 = .ok (.iconst 1, 1) := by decide +kernel
theorem dX3_read_10 : decode cX3_read 10 = .ok (.iconst 1, 1) := by decide +kernel
theorem dX3_read_11 : decode cX3_read 11 = .ok (.aload_n 0, 1) := by decide +kernel
theorem dX3_read_12 : decode cX3_read 12 = .ok (.getfield 21, 3) := by decide +kernel
theorem dX3_read_15 : decode cX3_read 15 = .ok (.ishl, 1) := by decide +kernel
theorem dX3_read_16 : decode cX3_read 16 = .ok (.ior, 1) := by decide +kernel
theorem dX3_read_17 : decode cX3_read 17 = .ok (.putfield 24, 3) := by decide +kernel
theorem dX3_read_20 : decode cX3_read 20 = .ok (.iconst 0, 1) := by decide +kernel
theorem dX3_read_21 : decode cX3_read 21 = .ok (.istore 4, 2) := by decide +kernel
theorem dX3_read_23 : decode cX3_read 23 = .ok (.iconst 0, 1) := by decide +kernel
theorem dX3_read_24 : decode cX3_read 24 = .ok (.istore 5, 2) := by decide +kernel
theorem dX3_read_26 : decode cX3_read 26 = .ok (.iload 5, 2) := by decide +kernel
theorem dX3_read_28 : decode cX3_read 28 = .ok (.aload_n 0, 1) := by decide +kernel
theorem dX3_read_29 : decode cX3_read 29 = .ok (.getfield 21, 3) := by decide +kernel
theorem dX3_read_32 : decode cX3_read 32 = .ok (.if_icmp .ge 68, 3) := by decide +kernel
theorem dX3_read_35 : decode cX3_read 35 = .ok (.aload_n 1, 1) := by decide +kernel
theorem dX3_read_36 : decode cX3_read 36 = .ok (.iload 5, 2) := by decide +kernel
theorem dX3_read_38 : decode cX3_read 38 = .ok (.invokevirtual 27, 3) := by decide +kernel
theorem dX3_read_41 : decode cX3_read 41 = .ok (.istore 6, 2) := by decide +kernel
theorem dX3_read_43 : decode cX3_read 43 = .ok (.aload_n 2, 1) := by decide +kernel
theorem dX3_read_44 : decode cX3_read 44 = .ok (.iload 4, 2) := by decide +kernel
theorem dX3_read_46 : decode cX3_read 46 = .ok (.iload 6, 2) := by decide +kernel
theorem dX3_read_48 : decode cX3_read 48 = .ok (.invokevirtual 31, 3) := by decide +kernel
theorem dX3_read_51 : decode cX3_read 51 = .ok (.istore 4, 2) := by decide +kernel
theorem dX3_read_53 : decode cX3_read 53 = .ok (.iload 4, 2) := by decide +kernel
theorem dX3_read_55 : decode cX3_read 55 = .ok (.ifCond .ne 28, 3) := by decide +kernel
theorem dX3_read_58 : decode cX3_read 58 = .ok (.aload_n 0, 1) := by decide +kernel
theorem dX3_read_59 : decode cX3_read 59 = .ok (.dup, 1) := by decide +kernel
theorem dX3_read_60 : decode cX3_read 60 = .ok (.getfield 24, 3) := by decide +kernel
theorem dX3_read_63 : decode cX3_read 63 = .ok (.iconst 1, 1) := by decide +kernel
theorem dX3_read_64 : decode cX3_read 64 = .ok (.iload 5, 2) := by decide +kernel
theorem dX3_read_66 : decode cX3_read 66 = .ok (.ishl, 1) := by decide +kernel
theorem dX3_read_67 : decode cX3_read 67 = .ok (.ior, 1) := by decide +kernel
theorem dX3_read_68 : decode cX3_read 68 = .ok (.putfield 24, 3) := by decide +kernel
theorem dX3_read_71 : decode cX3_read 71 = .ok (.aload_n 2, 1) := by decide +kernel
theorem dX3_read_72 : decode cX3_read 72 = .ok (.iload 6, 2) := by decide +kernel
theorem dX3_read_74 : decode cX3_read 74 = .ok (.invokevirtual 37, 3) := by decide +kernel
theorem dX3_read_77 : decode cX3_read 77 = .ok (.iload_n 3, 1) := by decide +kernel
theorem dX3_read_78 : decode cX3_read 78 = .ok (.iconst (-1), 1) := by decide +kernel
theorem dX3_read_79 : decode cX3_read 79 = .ok (.ixor, 1) := by decide +kernel
theorem dX3_read_80 : decode cX3_read 80 = .ok (.iand, 1) := by decide +kernel
theorem dX3_read_81 : decode cX3_read 81 = .ok (.istore 4, 2) := by decide +kernel
theorem dX3_read_83 : decode cX3_read 83 = .ok (.aload_n 0, 1) := by decide +kernel
theorem dX3_read_84 : decode cX3_read 84 = .ok (.getfield 9, 3) := by decide +kernel
theorem dX3_read_87 : decode cX3_read 87 = .ok (.iload 5, 2) := by decide +kernel
theorem dX3_read_89 : decode cX3_read 89 = .ok (.iconst 1, 1) := by decide +kernel
theorem dX3_read_90 : decode cX3_read 90 = .ok (.iadd, 1) := by decide +kernel
theorem dX3_read_91 : decode cX3_read 91 = .ok (.iload 4, 2) := by decide +kernel
theorem dX3_read_93 : decode cX3_read 93 = .ok (.iastore, 1) := by decide +kernel
theorem dX3_read_94 : decode cX3_read 94 = .ok (.iinc 5 1, 3) := by decide +kernel
theorem dX3_read_97 : decode cX3_read 97 = .ok (.goto (-71), 3) := by decide +kernel
theorem dX3_read_100 : decode cX3_read 100 = .ok (.return_, 1) := by decide +kernel
theorem dX3_number_0 : decode cX3_number 0 = .ok (.aload_n 0, 1) := by decide +kernel
theorem dX3_number_1 : decode cX3_number 1 = .ok (.getfield 24, 3) := by decide +kernel
theorem dX3_number_4 : decode cX3_number 4 = .ok (.invokestatic 40, 3) := by decide +kernel
theorem dX3_number_7 : decode cX3_number 7 = .ok (.iconst 1, 1) := by decide +kernel
theorem dX3_number_8 : decode cX3_number 8 = .ok (.isub, 1) := by decide +kernel
theorem dX3_number_9 : decode cX3_number 9 = .ok (.ireturn, 1) := by decide +kernel
theorem dX3_hasBound_0 : decode cX3_hasBound 0 = .ok (.aload_n 0, 1) := by decide +kernel
theorem dX3_hasBound_1 : decode cX3_hasBound 1 = .ok (.getfield 24, 3) := by decide +kernel
theorem dX3_hasBound_4 : decode cX3_hasBound 4 = .ok (.iload_n 1, 1) := by decide +kernel
theorem dX3_hasBound_5 : decode cX3_hasBound 5 = .ok (.ishr, 1) := by decide +kernel
theorem dX3_hasBound_6 : decode cX3_hasBound 6 = .ok (.iconst 1, 1) := by decide +kernel
theorem dX3_hasBound_7 : decode cX3_hasBound 7 = .ok (.iand, 1) := by decide +kernel
theorem dX3_hasBound_8 : decode cX3_hasBound 8 = .ok (.ifCond .eq 7, 3) := by decide +kernel
theorem dX3_hasBound_11 : decode cX3_hasBound 11 = .ok (.iconst 1, 1) := by decide +kernel
theorem dX3_hasBound_12 : decode cX3_hasBound 12 = .ok (.goto 4, 3) := by decide +kernel
theorem dX3_hasBound_15 : decode cX3_hasBound 15 = .ok (.iconst 0, 1) := by decide +kernel
theorem dX3_hasBound_16 : decode cX3_hasBound 16 = .ok (.ireturn, 1) := by decide +kernel
theorem dX3_standAt_0 : decode cX3_standAt 0 = .ok (.iload_n 1, 1) := by decide +kernel
theorem dX3_standAt_1 : decode cX3_standAt 1 = .ok (.ifCond .lt 20, 3) := by decide +kernel
theorem dX3_standAt_4 : decode cX3_standAt 4 = .ok (.iload_n 1, 1) := by decide +kernel
theorem dX3_standAt_5 : decode cX3_standAt 5 = .ok (.aload_n 0, 1) := by decide +kernel
theorem dX3_standAt_6 : decode cX3_standAt 6 = .ok (.getfield 21, 3) := by decide +kernel
theorem dX3_standAt_9 : decode cX3_standAt 9 = .ok (.if_icmp .gt 12, 3) := by decide +kernel
theorem dX3_standAt_12 : decode cX3_standAt 12 = .ok (.aload_n 0, 1) := by decide +kernel
theorem dX3_standAt_13 : decode cX3_standAt 13 = .ok (.getfield 9, 3) := by decide +kernel
theorem dX3_standAt_16 : decode cX3_standAt 16 = .ok (.iload_n 1, 1) := by decide +kernel
theorem dX3_standAt_17 : decode cX3_standAt 17 = .ok (.iaload, 1) := by decide +kernel
theorem dX3_standAt_18 : decode cX3_standAt 18 = .ok (.goto 4, 3) := by decide +kernel
theorem dX3_standAt_21 : decode cX3_standAt 21 = .ok (.iconst 0, 1) := by decide +kernel
theorem dX3_standAt_22 : decode cX3_standAt 22 = .ok (.ireturn, 1) := by decide +kernel
