theorem dX5_init_0 : decode cX5_init 0 = .ok (.aload_n 0, 1) := by decide +kernel
theorem dX5_init_1 : decode cX5_init 1 = .ok (.invokespecial 3, 3) := by decide +kernel
theorem dX5_init_4 : decode cX5_init 4 = .ok (.aload_n 0, 1) := by decide +kernel
theorem dX5_init_5 : decode cX5_init 5 = .ok (.bipush 10, 2) := by decide +kernel
theorem dX5_init_7 : decode cX5_init 7 = .ok (.newarray .int, 2) := by decide +kernel
theorem dX5_init_9 : decode cX5_init 9 = .ok (.putfield 9, 3) := by decide +kernel
theorem dX5_init_12 : decode cX5_init 12 = .ok (.aload_n 0, 1) := by decide +kernel
theorem dX5_init_13 : decode cX5_init 13 = .ok (.bipush 6, 2) := by decide +kernel
theorem dX5_init_15 : decode cX5_init 15 = .ok (.newarray .int, 2) := by decide +kernel
theorem dX5_init_17 : decode cX5_init 17 = .ok (.putfield 15, 3) := by decide +kernel
theorem dX5_init_20 : decode cX5_init 20 = .ok (.return_, 1) := by decide +kernel
theorem dX5_make_0 : decode cX5_make 0 = .ok (.aload_n 0, 1) := by decide +kernel
theorem dX5_make_1 : decode cX5_make 1 = .ok (.aload_n 1, 1) := by decide +kernel
theorem dX5_make_2 : decode cX5_make 2 = .ok (.invokevirtual 18, 3) := by decide +kernel
theorem dX5_make_5 : decode cX5_make 5 = .ok (.aload_n 0, 1) := by decide +kernel
theorem dX5_make_6 : decode cX5_make 6 = .ok (.getfield 9, 3) := by decide +kernel
theorem dX5_make_9 : decode cX5_make 9 = .ok (.iconst 0, 1) := by decide +kernel
theorem dX5_make_10 : decode cX5_make 10 = .ok (.invokestatic 22, 3) := by decide +kernel
theorem dX5_make_13 : decode cX5_make 13 = .ok (.aload_n 0, 1) := by decide +kernel
theorem dX5_make_14 : decode cX5_make 14 = .ok (.iconst 0, 1) := by decide +kernel
theorem dX5_make_15 : decode cX5_make 15 = .ok (.putfield 28, 3) := by decide +kernel
theorem dX5_make_18 : decode cX5_make 18 = .ok (.aload_n 0, 1) := by decide +kernel
theorem dX5_make_19 : decode cX5_make 19 = .ok (.iconst 0, 1) := by decide +kernel
theorem dX5_make_20 : decode cX5_make 20 = .ok (.putfield 32, 3) := by decide +kernel
theorem dX5_make_23 : decode cX5_make 23 = .ok (.iconst 0, 1) := by decide +kernel
theorem dX5_make_24 : decode cX5_make 24 = .ok (.istore_n 3, 1) := by decide +kernel
theorem dX5_make_25 : decode cX5_make 25 = .ok (.iload_n 3, 1) := by decide +kernel
theorem dX5_make_26 : decode cX5_make 26 = .ok (.aload_n 1, 1) := by decide +kernel
theorem dX5_make_27 : decode cX5_make 27 = .ok (.invokevirtual 35, 3) := by decide +kernel
theorem dX5_make_30 : decode cX5_make 30 = .ok (.if_icmp .ge 95, 3) := by decide +kernel
theorem dX5_make_33 : decode cX5_make 33 = .ok (.aload_n 0, 1) := by decide +kernel
theorem dX5_make_34 : decode cX5_make 34 = .ok (.dup, 1) := by decide +kernel
theorem dX5_make_35 : decode cX5_make 35 = .ok (.getfield 28, 3) := by decide +kernel
theorem dX5_make_38 : decode cX5_make 38 = .ok (.aload_n 1, 1) := by decide +kernel
theorem dX5_make_39 : decode cX5_make 39 = .ok (.iload_n 3, 1) := by decide +kernel
theorem dX5_make_40 : decode cX5_make 40 = .ok (.invokevirtual 41, 3) := by decide +kernel
theorem dX5_make_43 : decode cX5_make 43 = .ok (.ior, 1) := by decide +kernel
theorem dX5_make_44 : decode cX5_make 44 = .ok (.putfield 28, 3) := by decide +kernel
theorem dX5_make_47 : decode cX5_make 47 = .ok (.aload_n 2, 1) := by decide +kernel
theorem dX5_make_48 : decode cX5_make 48 = .ok (.iload_n 3, 1) := by decide +kernel
theorem dX5_make_49 : decode cX5_make 49 = .ok (.invokevirtual 45, 3) := by decide +kernel
theorem dX5_make_52 : decode cX5_make 52 = .ok (.iconst 1, 1) := by decide +kernel
theorem dX5_make_53 : decode cX5_make 53 = .ok (.iand, 1) := by decide +kernel
theorem dX5_make_54 : decode cX5_make 54 = .ok (.ifCond .eq 17, 3) := by decide +kernel
theorem dX5_make_57 : decode cX5_make 57 = .ok (.aload_n 0, 1) := by decide +kernel
theorem dX5_make_58 : decode cX5_make 58 = .ok (.dup, 1) := by decide +kernel
theorem dX5_make_59 : decode cX5_make 59 = .ok (.getfield 32, 3) := by decide +kernel
theorem dX5_make_62 : decode cX5_make 62 = .ok (.aload_n 1, 1) := by decide +kernel
theorem dX5_make_63 : decode cX5_make 63 = .ok (.iload_n 3, 1) := by decide +kernel
theorem dX5_make_64 : decode cX5_make 64 = .ok (.invokevirtual 50, 3) := by decide +kernel
theorem dX5_make_67 : decode cX5_make 67 = .ok (.ior, 1) := by decide +kernel
theorem dX5_make_68 : decode cX5_make 68 = .ok (.putfield 32, 3) := by decide +kernel
theorem dX5_make_71 : decode cX5_make 71 = .ok (.aload_n 2, 1) := by decide +kernel
theorem dX5_make_72 : decode cX5_make 72 = .ok (.iload_n 3, 1) := by decide +kernel
theorem dX5_make_73 : decode cX5_make 73 = .ok (.invokevirtual 45, 3) := by decide +kernel
theorem dX5_make_76 : decode cX5_make 76 = .ok (.iconst 2, 1) := by decide +kernel
theorem dX5_make_77 : decode cX5_make 77 = .ok (.iand, 1) := by decide +kernel
theorem dX5_make_78 : decode cX5_make 78 = .ok (.ifCond .eq 7, 3) := by decide +kernel
theorem dX5_make_81 : decode cX5_make 81 = .ok (.iconst 1, 1) := by decide +kernel
theorem dX5_make_82 : decode cX5_make 82 = .ok (.goto 4, 3) := by decide +kernel
theorem dX5_make_85 : decode cX5_make 85 = .ok (.iconst 0, 1) := by decide +kernel
theorem dX5_make_86 : decode cX5_make 86 = .ok (.istore 4, 2) := by decide +kernel
theorem dX5_make_88 : decode cX5_make 88 = .ok (.aload_n 0, 1) := by decide +kernel
theorem dX5_make_89 : decode cX5_make 89 = .ok (.aload_n 1, 1) := by decide +kernel
theorem dX5_make_90 : decode cX5_make 90 = .ok (.iload 4, 2) := by decide +kernel
theorem dX5_make_92 : decode cX5_make 92 = .ok (.ifCond .eq 19, 3) := by decide +kernel
theorem dX5_make_95 : decode cX5_make 95 = .ok (.aload_n 1, 1) := by decide +kernel
theorem dX5_make_96 : decode cX5_make 96 = .ok (.iload_n 3, 1) := by decide +kernel
theorem dX5_make_97 : decode cX5_make 97 = .ok (.invokevirtual 50, 3) := by decide +kernel
theorem dX5_make_100 : decode cX5_make 100 = .ok (.aload_n 1, 1) := by decide +kernel
theorem dX5_make_101 : decode cX5_make 101 = .ok (.iload_n 3, 1) := by decide +kernel
theorem dX5_make_102 : decode cX5_make 102 = .ok (.invokevirtual 53, 3) := by decide +kernel
theorem dX5_make_105 : decode cX5_make 105 = .ok (.iconst (-1), 1) := by decide +kernel
theorem dX5_make_106 : decode cX5_make 106 = .ok (.ixor, 1) := by decide +kernel
theorem dX5_make_107 : decode cX5_make 107 = .ok (.iand, 1) := by decide +kernel
theorem dX5_make_108 : decode cX5_make 108 = .ok (.goto 8, 3) := by decide +kernel
theorem dX5_make_111 : decode cX5_make 111 = .ok (.aload_n 1, 1) := by decide +kernel
theorem dX5_make_112 : decode cX5_make 112 = .ok (.iload_n 3, 1) := by decide +kernel
theorem dX5_make_113 : decode cX5_make 113 = .ok (.invokevirtual 50, 3) := by decide +kernel
theorem dX5_make_116 : decode cX5_make 116 = .ok (.invokevirtual 56, 3) := by decide +kernel
theorem dX5_make_119 : decode cX5_make 119 = .ok (.iinc 3 1, 3) := by decide +kernel
theorem dX5_make_122 : decode cX5_make 122 = .ok (.goto (-97), 3) := by decide +kernel
theorem dX5_make_125 : decode cX5_make 125 = .ok (.return_, 1) := by decide +kernel
theorem dX5_makeTakers_0 : decode cX5_makeTakers 0 = .ok (.aload_n 0, 1) := by decide +kernel
theorem dX5_makeTakers_1 : decode cX5_makeTakers 1 = .ok (.getfield 15, 3) := by decide +kernel
theorem dX5_makeTakers_4 : decode cX5_makeTakers 4 = .ok (.iconst 0, 1) := by decide +kernel
theorem dX5_makeTakers_5 : decode cX5_makeTakers 5 = .ok (.invokestatic 22, 3) := by decide +kernel
theorem dX5_makeTakers_8 : decode cX5_makeTakers 8 = .ok (.iconst 0, 1) := by decide +kernel
theorem dX5_makeTakers_9 : decode cX5_makeTakers 9 = .ok (.istore_n 2, 1) := by decide +kernel
theorem dX5_makeTakers_10 : decode cX5_makeTakers 10 = .ok (.iload_n 2, 1) := by decide +kernel
theorem dX5_makeTakers_11 : decode cX5_makeTakers 11 = .ok (.aload_n 1, 1) := by decide +kernel
theorem dX5_makeTakers_12 : decode cX5_makeTakers 12 = .ok (.invokevirtual 60, 3) := by decide +kernel
theorem dX5_makeTakers_15 : decode cX5_makeTakers 15 = .ok (.if_icmp .ge 54, 3) := by decide +kernel
theorem dX5_makeTakers_18 : decode cX5_makeTakers 18 = .ok (.iconst 0, 1) := by decide +kernel
theorem dX5_makeTakers_19 : decode cX5_makeTakers 19 = .ok (.istore_n 3, 1) := by decide +kernel
theorem dX5_makeTakers_20 : decode cX5_makeTakers 20 = .ok (.iload_n 3, 1) := by decide +kernel
theorem dX5_makeTakers_21 : decode cX5_makeTakers 21 = .ok (.bipush 6, 2) := by decide +kernel
theorem dX5_makeTakers_23 : decode cX5_makeTakers 23 = .ok (.if_icmp .ge 40, 3) := by decide +kernel
theorem dX5_makeTakers_26 : decode cX5_makeTakers 26 = .ok (.aload_n 1, 1) := by decide +kernel
theorem dX5_makeTakers_27 : decode cX5_makeTakers 27 = .ok (.iload_n 2, 1) := by decide +kernel
theorem dX5_makeTakers_28 : decode cX5_makeTakers 28 = .ok (.invokevirtual 63, 3) := by decide +kernel
theorem dX5_makeTakers_31 : decode cX5_makeTakers 31 = .ok (.iload_n 3, 1) := by decide +kernel
theorem dX5_makeTakers_32 : decode cX5_makeTakers 32 = .ok (.if_icmp .eq 13, 3) := by decide +kernel
theorem dX5_makeTakers_35 : decode cX5_makeTakers 35 = .ok (.aload_n 1, 1) := by decide +kernel
theorem dX5_makeTakers_36 : decode cX5_makeTakers 36 = .ok (.iload_n 2, 1) := by decide +kernel
theorem dX5_makeTakers_37 : decode cX5_makeTakers 37 = .ok (.invokevirtual 63, 3) := by decide +kernel
theorem dX5_makeTakers_40 : decode cX5_makeTakers 40 = .ok (.bipush 6, 2) := by decide +kernel
theorem dX5_makeTakers_42 : decode cX5_makeTakers 42 = .ok (.if_icmp .ne 15, 3) := by decide +kernel
theorem dX5_makeTakers_45 : decode cX5_makeTakers 45 = .ok (.aload_n 0, 1) := by decide +kernel
theorem dX5_makeTakers_46 : decode cX5_makeTakers 46 = .ok (.getfield 15, 3) := by decide +kernel
theorem dX5_makeTakers_49 : decode cX5_makeTakers 49 = .ok (.iload_n 3, 1) := by decide +kernel
theorem dX5_makeTakers_50 : decode cX5_makeTakers 50 = .ok (.dup2, 1) := by decide +kernel
theorem dX5_makeTakers_51 : decode cX5_makeTakers 51 = .ok (.iaload, 1) := by decide +kernel
theorem dX5_makeTakers_52 : decode cX5_makeTakers 52 = .ok (.iconst 1, 1) := by decide +kernel
theorem dX5_makeTakers_53 : decode cX5_makeTakers 53 = .ok (.iload_n 2, 1) := by decide +kernel
theorem dX5_makeTakers_54 : decode cX5_makeTakers 54 = .ok (.ishl, 1) := by decide +kernel
theorem dX5_makeTakers_55 : decode cX5_makeTakers 55 = .ok (.ior, 1) := by decide +kernel
theorem dX5_makeTakers_56 : decode cX5_makeTakers 56 = .ok (.iastore, 1) := by decide +kernel
theorem dX5_makeTakers_57 : decode cX5_makeTakers 57 = .ok (.iinc 3 1, 3) := by decide +kernel
theorem dX5_makeTakers_60 : decode cX5_makeTakers 60 = .ok (.goto (-40), 3) := by decide +kernel
theorem dX5_makeTakers_63 : decode cX5_makeTakers 63 = .ok (.iinc 2 1, 3) := by decide +kernel
theorem dX5_makeTakers_66 : decode cX5_makeTakers 66 = .ok (.goto (-56), 3) := by decide +kernel
theorem dX5_makeTakers_69 : decode cX5_makeTakers 69 = .ok (.return_, 1) := by decide +kernel
theorem dX5_letGoOn_0 : decode cX5_letGoOn 0 = .ok (.iconst 0, 1) := by decide +kernel
theorem dX5_letGoOn_1 : decode cX5_letGoOn 1 = .ok (.istore_n 3, 1) := by decide +kernel
theorem dX5_letGoOn_2 : decode cX5_letGoOn 2 = .ok (.iload_n 3, 1) := by decide +kernel
theorem dX5_letGoOn_3 : decode cX5_letGoOn 3 = .ok (.bipush 10, 2) := by decide +kernel
theorem dX5_letGoOn_5 : decode cX5_letGoOn 5 = .ok (.if_icmp .ge 28, 3) := by decide +kernel
theorem dX5_letGoOn_8 : decode cX5_letGoOn 8 = .ok (.iload_n 2, 1) := by decide +kernel
theorem dX5_letGoOn_9 : decode cX5_letGoOn 9 = .ok (.iload_n 3, 1) := by decide +kernel
theorem dX5_letGoOn_10 : decode cX5_letGoOn 10 = .ok (.ishr, 1) := by decide +kernel
theorem dX5_letGoOn_11 : decode cX5_letGoOn 11 = .ok (.iconst 1, 1) := by decide +kernel
theorem dX5_letGoOn_12 : decode cX5_letGoOn 12 = .ok (.iand, 1) := by decide +kernel
theorem dX5_letGoOn_13 : decode cX5_letGoOn 13 = .ok (.ifCond .eq 14, 3) := by decide +kernel
theorem dX5_letGoOn_16 : decode cX5_letGoOn 16 = .ok (.aload_n 0, 1) := by decide +kernel
theorem dX5_letGoOn_17 : decode cX5_letGoOn 17 = .ok (.getfield 9, 3) := by decide +kernel
theorem dX5_letGoOn_20 : decode cX5_letGoOn 20 = .ok (.iload_n 3, 1) := by decide +kernel
theorem dX5_letGoOn_21 : decode cX5_letGoOn 21 = .ok (.aload_n 1, 1) := by decide +kernel
theorem dX5_letGoOn_22 : decode cX5_letGoOn 22 = .ok (.iload_n 3, 1) := by decide +kernel
theorem dX5_letGoOn_23 : decode cX5_letGoOn 23 = .ok (.invokevirtual 66, 3) := by decide +kernel
theorem dX5_letGoOn_26 : decode cX5_letGoOn 26 = .ok (.iastore, 1) := by decide +kernel
theorem dX5_letGoOn_27 : decode cX5_letGoOn 27 = .ok (.iinc 3 1, 3) := by decide +kernel
theorem dX5_letGoOn_30 : decode cX5_letGoOn 30 = .ok (.goto (-28), 3) := by decide +kernel
theorem dX5_letGoOn_33 : decode cX5_letGoOn 33 = .ok (.return_, 1) := by decide +kernel
theorem dX5_begunBy_0 : decode cX5_begunBy 0 = .ok (.iload_n 1, 1) := by decide +kernel
theorem dX5_begunBy_1 : decode cX5_begunBy 1 = .ok (.invokestatic 69, 3) := by decide +kernel
theorem dX5_begunBy_4 : decode cX5_begunBy 4 = .ok (.ifCond .eq 17, 3) := by decide +kernel
theorem dX5_begunBy_7 : decode cX5_begunBy 7 = .ok (.aload_n 0, 1) := by decide +kernel
theorem dX5_begunBy_8 : decode cX5_begunBy 8 = .ok (.getfield 28, 3) := by decide +kernel
theorem dX5_begunBy_11 : decode cX5_begunBy 11 = .ok (.aload_n 0, 1) := by decide +kernel
theorem dX5_begunBy_12 : decode cX5_begunBy 12 = .ok (.getfield 15, 3) := by decide +kernel
theorem dX5_begunBy_15 : decode cX5_begunBy 15 = .ok (.iload_n 1, 1) := by decide +kernel
theorem dX5_begunBy_16 : decode cX5_begunBy 16 = .ok (.iaload, 1) := by decide +kernel
theorem dX5_begunBy_17 : decode cX5_begunBy 17 = .ok (.iand, 1) := by decide +kernel
theorem dX5_begunBy_18 : decode cX5_begunBy 18 = .ok (.goto 4, 3) := by decide +kernel
theorem dX5_begunBy_21 : decode cX5_begunBy 21 = .ok (.iconst 0, 1) := by decide +kernel
theorem dX5_begunBy_22 : decode cX5_begunBy 22 = .ok (.ireturn, 1) := by decide +kernel
theorem dX5_goOn_0 : decode cX5_goOn 0 = .ok (.iload_n 2, 1) := by decide +kernel
theorem dX5_goOn_1 : decode cX5_goOn 1 = .ok (.invokestatic 69, 3) := by decide +kernel
theorem dX5_goOn_4 : decode cX5_goOn 4 = .ok (.ifCond .ne 5, 3) := by decide +kernel
theorem dX5_goOn_7 : decode cX5_goOn 7 = .ok (.iconst 0, 1) := by decide +kernel
theorem dX5_goOn_8 : decode cX5_goOn 8 = .ok (.ireturn, 1) := by decide +kernel
theorem dX5_goOn_9 : decode cX5_goOn 9 = .ok (.iload_n 2, 1) := by decide +kernel
theorem dX5_goOn_10 : decode cX5_goOn 10 = .ok (.iconst 5, 1) := by decide +kernel
theorem dX5_goOn_11 : decode cX5_goOn 11 = .ok (.if_icmp .ne 12, 3) := by decide +kernel
theorem dX5_goOn_14 : decode cX5_goOn 14 = .ok (.iload_n 1, 1) := by decide +kernel
theorem dX5_goOn_15 : decode cX5_goOn 15 = .ok (.aload_n 0, 1) := by decide +kernel
theorem dX5_goOn_16 : decode cX5_goOn 16 = .ok (.getfield 32, 3) := by decide +kernel
theorem dX5_goOn_19 : decode cX5_goOn 19 = .ok (.iand, 1) := by decide +kernel
theorem dX5_goOn_20 : decode cX5_goOn 20 = .ok (.goto 4, 3) := by decide +kernel
theorem dX5_goOn_23 : decode cX5_goOn 23 = .ok (.iconst 0, 1) := by decide +kernel
theorem dX5_goOn_24 : decode cX5_goOn 24 = .ok (.istore_n 3, 1) := by decide +kernel
theorem dX5_goOn_25 : decode cX5_goOn 25 = .ok (.iconst 0, 1) := by decide +kernel
theorem dX5_goOn_26 : decode cX5_goOn 26 = .ok (.istore 4, 2) := by decide +kernel
theorem dX5_goOn_28 : decode cX5_goOn 28 = .ok (.iload 4, 2) := by decide +kernel
theorem dX5_goOn_30 : decode cX5_goOn 30 = .ok (.bipush 10, 2) := by decide +kernel
theorem dX5_goOn_32 : decode cX5_goOn 32 = .ok (.if_icmp .ge 35, 3) := by decide +kernel
theorem dX5_goOn_35 : decode cX5_goOn 35 = .ok (.iload_n 1, 1) := by decide +kernel
theorem dX5_goOn_36 : decode cX5_goOn 36 = .ok (.iload 4, 2) := by decide +kernel
theorem dX5_goOn_38 : decode cX5_goOn 38 = .ok (.ishr, 1) := by decide +kernel
theorem dX5_goOn_39 : decode cX5_goOn 39 = .ok (.iconst 1, 1) := by decide +kernel
theorem dX5_goOn_40 : decode cX5_goOn 40 = .ok (.iand, 1) := by decide +kernel
theorem dX5_goOn_41 : decode cX5_goOn 41 = .ok (.ifCond .eq 20, 3) := by decide +kernel
theorem dX5_goOn_44 : decode cX5_goOn 44 = .ok (.iload_n 3, 1) := by decide +kernel
theorem dX5_goOn_45 : decode cX5_goOn 45 = .ok (.aload_n 0, 1) := by decide +kernel
theorem dX5_goOn_46 : decode cX5_goOn 46 = .ok (.getfield 9, 3) := by decide +kernel
theorem dX5_goOn_49 : decode cX5_goOn 49 = .ok (.iload 4, 2) := by decide +kernel
theorem dX5_goOn_51 : decode cX5_goOn 51 = .ok (.iaload, 1) := by decide +kernel
theorem dX5_goOn_52 : decode cX5_goOn 52 = .ok (.aload_n 0, 1) := by decide +kernel
theorem dX5_goOn_53 : decode cX5_goOn 53 = .ok (.getfield 15, 3) := by decide +kernel
theorem dX5_goOn_56 : decode cX5_goOn 56 = .ok (.iload_n 2, 1) := by decide +kernel
theorem dX5_goOn_57 : decode cX5_goOn 57 = .ok (.iaload, 1) := by decide +kernel
theorem dX5_goOn_58 : decode cX5_goOn 58 = .ok (.iand, 1) := by decide +kernel
theorem dX5_goOn_59 : decode cX5_goOn 59 = .ok (.ior, 1) := by decide +kernel
theorem dX5_goOn_60 : decode cX5_goOn 60 = .ok (.istore_n 3, 1) := by decide +kernel
theorem dX5_goOn_61 : decode cX5_goOn 61 = .ok (.iinc 4 1, 3) := by decide +kernel
theorem dX5_goOn_64 : decode cX5_goOn 64 = .ok (.goto (-36), 3) := by decide +kernel
theorem dX5_goOn_67 : decode cX5_goOn 67 = .ok (.iload_n 3, 1) := by decide +kernel
theorem dX5_goOn_68 : decode cX5_goOn 68 = .ok (.ireturn, 1) := by decide +kernel
