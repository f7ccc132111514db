theorem dX1_init_0 : decode cX1_init 0 = .ok (.aload_n 0, 1) := by decide +kernel
theorem dX1_init_1 : decode cX1_init 1 = .ok (.invokespecial 3, 3) := by decide +kernel
theorem dX1_init_4 : decode cX1_init 4 = .ok (.aload_n 0, 1) := by decide +kernel
theorem dX1_init_5 : decode cX1_init 5 = .ok (.sipush 1024, 3) := by decide +kernel
theorem dX1_init_8 : decode cX1_init 8 = .ok (.newarray .int, 2) := by decide +kernel
theorem dX1_init_10 : decode cX1_init 10 = .ok (.putfield 9, 3) := by decide +kernel
theorem dX1_init_13 : decode cX1_init 13 = .ok (.aload_n 0, 1) := by decide +kernel
theorem dX1_init_14 : decode cX1_init 14 = .ok (.sipush 1024, 3) := by decide +kernel
theorem dX1_init_17 : decode cX1_init 17 = .ok (.newarray .int, 2) := by decide +kernel
theorem dX1_init_19 : decode cX1_init 19 = .ok (.putfield 15, 3) := by decide +kernel
theorem dX1_init_22 : decode cX1_init 22 = .ok (.aload_n 0, 1) := by decide +kernel
theorem dX1_init_23 : decode cX1_init 23 = .ok (.sipush 2048, 3) := by decide +kernel
theorem dX1_init_26 : decode cX1_init 26 = .ok (.newarray .int, 2) := by decide +kernel
theorem dX1_init_28 : decode cX1_init 28 = .ok (.putfield 18, 3) := by decide +kernel
theorem dX1_init_31 : decode cX1_init 31 = .ok (.aload_n 0, 1) := by decide +kernel
theorem dX1_init_32 : decode cX1_init 32 = .ok (.sipush 1024, 3) := by decide +kernel
theorem dX1_init_35 : decode cX1_init 35 = .ok (.newarray .int, 2) := by decide +kernel
theorem dX1_init_37 : decode cX1_init 37 = .ok (.putfield 21, 3) := by decide +kernel
theorem dX1_init_40 : decode cX1_init 40 = .ok (.return_, 1) := by decide +kernel
theorem dX1_part_0 : decode cX1_part 0 = .ok (.aload_n 0, 1) := by decide +kernel
theorem dX1_part_1 : decode cX1_part 1 = .ok (.getfield 9, 3) := by decide +kernel
theorem dX1_part_4 : decode cX1_part 4 = .ok (.iconst 0, 1) := by decide +kernel
theorem dX1_part_5 : decode cX1_part 5 = .ok (.invokestatic 24, 3) := by decide +kernel
theorem dX1_part_8 : decode cX1_part 8 = .ok (.iconst 1, 1) := by decide +kernel
theorem dX1_part_9 : decode cX1_part 9 = .ok (.istore_n 3, 1) := by decide +kernel
theorem dX1_part_10 : decode cX1_part 10 = .ok (.iconst 0, 1) := by decide +kernel
theorem dX1_part_11 : decode cX1_part 11 = .ok (.istore 4, 2) := by decide +kernel
theorem dX1_part_13 : decode cX1_part 13 = .ok (.iload 4, 2) := by decide +kernel
theorem dX1_part_15 : decode cX1_part 15 = .ok (.sipush 1024, 3) := by decide +kernel
theorem dX1_part_18 : decode cX1_part 18 = .ok (.if_icmp .ge 28, 3) := by decide +kernel
theorem dX1_part_21 : decode cX1_part 21 = .ok (.iload_n 3, 1) := by decide +kernel
theorem dX1_part_22 : decode cX1_part 22 = .ok (.istore 5, 2) := by decide +kernel
theorem dX1_part_24 : decode cX1_part 24 = .ok (.aload_n 0, 1) := by decide +kernel
theorem dX1_part_25 : decode cX1_part 25 = .ok (.aload_n 1, 1) := by decide +kernel
theorem dX1_part_26 : decode cX1_part 26 = .ok (.iload_n 2, 1) := by decide +kernel
theorem dX1_part_27 : decode cX1_part 27 = .ok (.invokevirtual 30, 3) := by decide +kernel
theorem dX1_part_30 : decode cX1_part 30 = .ok (.istore_n 3, 1) := by decide +kernel
theorem dX1_part_31 : decode cX1_part 31 = .ok (.iload_n 3, 1) := by decide +kernel
theorem dX1_part_32 : decode cX1_part 32 = .ok (.iload 5, 2) := by decide +kernel
theorem dX1_part_34 : decode cX1_part 34 = .ok (.if_icmp .ne 6, 3) := by decide +kernel
theorem dX1_part_37 : decode cX1_part 37 = .ok (.goto 9, 3) := by decide +kernel
theorem dX1_part_40 : decode cX1_part 40 = .ok (.iinc 4 1, 3) := by decide +kernel
theorem dX1_part_43 : decode cX1_part 43 = .ok (.goto (-30), 3) := by decide +kernel
theorem dX1_part_46 : decode cX1_part 46 = .ok (.iload_n 3, 1) := by decide +kernel
theorem dX1_part_47 : decode cX1_part 47 = .ok (.ireturn, 1) := by decide +kernel
theorem dX1_partFiner_0 : decode cX1_partFiner 0 = .ok (.aload_n 0, 1) := by decide +kernel
theorem dX1_partFiner_1 : decode cX1_partFiner 1 = .ok (.getfield 18, 3) := by decide +kernel
theorem dX1_partFiner_4 : decode cX1_partFiner 4 = .ok (.iconst (-1), 1) := by decide +kernel
theorem dX1_partFiner_5 : decode cX1_partFiner 5 = .ok (.invokestatic 24, 3) := by decide +kernel
theorem dX1_partFiner_8 : decode cX1_partFiner 8 = .ok (.iconst 0, 1) := by decide +kernel
theorem dX1_partFiner_9 : decode cX1_partFiner 9 = .ok (.istore_n 3, 1) := by decide +kernel
theorem dX1_partFiner_10 : decode cX1_partFiner 10 = .ok (.iconst 0, 1) := by decide +kernel
theorem dX1_partFiner_11 : decode cX1_partFiner 11 = .ok (.istore 4, 2) := by decide +kernel
theorem dX1_partFiner_13 : decode cX1_partFiner 13 = .ok (.iload 4, 2) := by decide +kernel
theorem dX1_partFiner_15 : decode cX1_partFiner 15 = .ok (.iload_n 2, 1) := by decide +kernel
theorem dX1_partFiner_16 : decode cX1_partFiner 16 = .ok (.if_icmp .ge 94, 3) := by decide +kernel
theorem dX1_partFiner_19 : decode cX1_partFiner 19 = .ok (.iload 4, 2) := by decide +kernel
theorem dX1_partFiner_21 : decode cX1_partFiner 21 = .ok (.sipush 1024, 3) := by decide +kernel
theorem dX1_partFiner_24 : decode cX1_partFiner 24 = .ok (.if_icmp .ge 86, 3) := by decide +kernel
theorem dX1_partFiner_27 : decode cX1_partFiner 27 = .ok (.aload_n 0, 1) := by decide +kernel
theorem dX1_partFiner_28 : decode cX1_partFiner 28 = .ok (.aload_n 1, 1) := by decide +kernel
theorem dX1_partFiner_29 : decode cX1_partFiner 29 = .ok (.iload 4, 2) := by decide +kernel
theorem dX1_partFiner_31 : decode cX1_partFiner 31 = .ok (.invokevirtual 34, 3) := by decide +kernel
theorem dX1_partFiner_34 : decode cX1_partFiner 34 = .ok (.istore 5, 2) := by decide +kernel
theorem dX1_partFiner_36 : decode cX1_partFiner 36 = .ok (.aload_n 0, 1) := by decide +kernel
theorem dX1_partFiner_37 : decode cX1_partFiner 37 = .ok (.aload_n 1, 1) := by decide +kernel
theorem dX1_partFiner_38 : decode cX1_partFiner 38 = .ok (.iload 4, 2) := by decide +kernel
theorem dX1_partFiner_40 : decode cX1_partFiner 40 = .ok (.iload 5, 2) := by decide +kernel
theorem dX1_partFiner_42 : decode cX1_partFiner 42 = .ok (.invokevirtual 37, 3) := by decide +kernel
theorem dX1_partFiner_45 : decode cX1_partFiner 45 = .ok (.istore 6, 2) := by decide +kernel
theorem dX1_partFiner_47 : decode cX1_partFiner 47 = .ok (.iload 6, 2) := by decide +kernel
theorem dX1_partFiner_49 : decode cX1_partFiner 49 = .ok (.iconst (-1), 1) := by decide +kernel
theorem dX1_partFiner_50 : decode cX1_partFiner 50 = .ok (.if_icmp .ne 40, 3) := by decide +kernel
theorem dX1_partFiner_53 : decode cX1_partFiner 53 = .ok (.aload_n 0, 1) := by decide +kernel
theorem dX1_partFiner_54 : decode cX1_partFiner 54 = .ok (.getfield 15, 3) := by decide +kernel
theorem dX1_partFiner_57 : decode cX1_partFiner 57 = .ok (.iload 4, 2) := by decide +kernel
theorem dX1_partFiner_59 : decode cX1_partFiner 59 = .ok (.iload_n 3, 1) := by decide +kernel
theorem dX1_partFiner_60 : decode cX1_partFiner 60 = .ok (.iastore, 1) := by decide +kernel
theorem dX1_partFiner_61 : decode cX1_partFiner 61 = .ok (.iinc 3 1, 3) := by decide +kernel
theorem dX1_partFiner_64 : decode cX1_partFiner 64 = .ok (.aload_n 0, 1) := by decide +kernel
theorem dX1_partFiner_65 : decode cX1_partFiner 65 = .ok (.getfield 21, 3) := by decide +kernel
theorem dX1_partFiner_68 : decode cX1_partFiner 68 = .ok (.iload 4, 2) := by decide +kernel
theorem dX1_partFiner_70 : decode cX1_partFiner 70 = .ok (.aload_n 0, 1) := by decide +kernel
theorem dX1_partFiner_71 : decode cX1_partFiner 71 = .ok (.getfield 18, 3) := by decide +kernel
theorem dX1_partFiner_74 : decode cX1_partFiner 74 = .ok (.iload 5, 2) := by decide +kernel
theorem dX1_partFiner_76 : decode cX1_partFiner 76 = .ok (.iaload, 1) := by decide +kernel
theorem dX1_partFiner_77 : decode cX1_partFiner 77 = .ok (.iastore, 1) := by decide +kernel
theorem dX1_partFiner_78 : decode cX1_partFiner 78 = .ok (.aload_n 0, 1) := by decide +kernel
theorem dX1_partFiner_79 : decode cX1_partFiner 79 = .ok (.getfield 18, 3) := by decide +kernel
theorem dX1_partFiner_82 : decode cX1_partFiner 82 = .ok (.iload 5, 2) := by decide +kernel
theorem dX1_partFiner_84 : decode cX1_partFiner 84 = .ok (.iload 4, 2) := by decide +kernel
theorem dX1_partFiner_86 : decode cX1_partFiner 86 = .ok (.iastore, 1) := by decide +kernel
theorem dX1_partFiner_87 : decode cX1_partFiner 87 = .ok (.goto 17, 3) := by decide +kernel
theorem dX1_partFiner_90 : decode cX1_partFiner 90 = .ok (.aload_n 0, 1) := by decide +kernel
theorem dX1_partFiner_91 : decode cX1_partFiner 91 = .ok (.getfield 15, 3) := by decide +kernel
theorem dX1_partFiner_94 : decode cX1_partFiner 94 = .ok (.iload 4, 2) := by decide +kernel
theorem dX1_partFiner_96 : decode cX1_partFiner 96 = .ok (.aload_n 0, 1) := by decide +kernel
theorem dX1_partFiner_97 : decode cX1_partFiner 97 = .ok (.getfield 15, 3) := by decide +kernel
theorem dX1_partFiner_100 : decode cX1_partFiner 100 = .ok (.iload 6, 2) := by decide +kernel
theorem dX1_partFiner_102 : decode cX1_partFiner 102 = .ok (.iaload, 1) := by decide +kernel
theorem dX1_partFiner_103 : decode cX1_partFiner 103 = .ok (.iastore, 1) := by decide +kernel
theorem dX1_partFiner_104 : decode cX1_partFiner 104 = .ok (.iinc 4 1, 3) := by decide +kernel
theorem dX1_partFiner_107 : decode cX1_partFiner 107 = .ok (.goto (-94), 3) := by decide +kernel
theorem dX1_partFiner_110 : decode cX1_partFiner 110 = .ok (.aload_n 0, 1) := by decide +kernel
theorem dX1_partFiner_111 : decode cX1_partFiner 111 = .ok (.getfield 15, 3) := by decide +kernel
theorem dX1_partFiner_114 : decode cX1_partFiner 114 = .ok (.iconst 0, 1) := by decide +kernel
theorem dX1_partFiner_115 : decode cX1_partFiner 115 = .ok (.aload_n 0, 1) := by decide +kernel
theorem dX1_partFiner_116 : decode cX1_partFiner 116 = .ok (.getfield 9, 3) := by decide +kernel
theorem dX1_partFiner_119 : decode cX1_partFiner 119 = .ok (.iconst 0, 1) := by decide +kernel
theorem dX1_partFiner_120 : decode cX1_partFiner 120 = .ok (.sipush 1024, 3) := by decide +kernel
theorem dX1_partFiner_123 : decode cX1_partFiner 123 = .ok (.invokestatic 41, 3) := by decide +kernel
theorem dX1_partFiner_126 : decode cX1_partFiner 126 = .ok (.iload_n 3, 1) := by decide +kernel
theorem dX1_partFiner_127 : decode cX1_partFiner 127 = .ok (.ireturn, 1) := by decide +kernel
theorem dX1_bucketOf_0 : decode cX1_bucketOf 0 = .ok (.iconst 0, 1) := by decide +kernel
theorem dX1_bucketOf_1 : decode cX1_bucketOf 1 = .ok (.istore_n 3, 1) := by decide +kernel
theorem dX1_bucketOf_2 : decode cX1_bucketOf 2 = .ok (.iconst 0, 1) := by decide +kernel
theorem dX1_bucketOf_3 : decode cX1_bucketOf 3 = .ok (.istore 4, 2) := by decide +kernel
theorem dX1_bucketOf_5 : decode cX1_bucketOf 5 = .ok (.iload 4, 2) := by decide +kernel
theorem dX1_bucketOf_7 : decode cX1_bucketOf 7 = .ok (.bipush 6, 2) := by decide +kernel
theorem dX1_bucketOf_9 : decode cX1_bucketOf 9 = .ok (.if_icmp .ge 25, 3) := by decide +kernel
theorem dX1_bucketOf_12 : decode cX1_bucketOf 12 = .ok (.iload_n 3, 1) := by decide +kernel
theorem dX1_bucketOf_13 : decode cX1_bucketOf 13 = .ok (.bipush 31, 2) := by decide +kernel
theorem dX1_bucketOf_15 : decode cX1_bucketOf 15 = .ok (.imul, 1) := by decide +kernel
theorem dX1_bucketOf_16 : decode cX1_bucketOf 16 = .ok (.aload_n 0, 1) := by decide +kernel
theorem dX1_bucketOf_17 : decode cX1_bucketOf 17 = .ok (.aload_n 1, 1) := by decide +kernel
theorem dX1_bucketOf_18 : decode cX1_bucketOf 18 = .ok (.iload_n 2, 1) := by decide +kernel
theorem dX1_bucketOf_19 : decode cX1_bucketOf 19 = .ok (.iload 4, 2) := by decide +kernel
theorem dX1_bucketOf_21 : decode cX1_bucketOf 21 = .ok (.invokevirtual 47, 3) := by decide +kernel
theorem dX1_bucketOf_24 : decode cX1_bucketOf 24 = .ok (.iadd, 1) := by decide +kernel
theorem dX1_bucketOf_25 : decode cX1_bucketOf 25 = .ok (.iconst 1, 1) := by decide +kernel
theorem dX1_bucketOf_26 : decode cX1_bucketOf 26 = .ok (.iadd, 1) := by decide +kernel
theorem dX1_bucketOf_27 : decode cX1_bucketOf 27 = .ok (.istore_n 3, 1) := by decide +kernel
theorem dX1_bucketOf_28 : decode cX1_bucketOf 28 = .ok (.iinc 4 1, 3) := by decide +kernel
theorem dX1_bucketOf_31 : decode cX1_bucketOf 31 = .ok (.goto (-26), 3) := by decide +kernel
theorem dX1_bucketOf_34 : decode cX1_bucketOf 34 = .ok (.iload_n 3, 1) := by decide +kernel
theorem dX1_bucketOf_35 : decode cX1_bucketOf 35 = .ok (.iload_n 3, 1) := by decide +kernel
theorem dX1_bucketOf_36 : decode cX1_bucketOf 36 = .ok (.bipush 15, 2) := by decide +kernel
theorem dX1_bucketOf_38 : decode cX1_bucketOf 38 = .ok (.iushr, 1) := by decide +kernel
theorem dX1_bucketOf_39 : decode cX1_bucketOf 39 = .ok (.ixor, 1) := by decide +kernel
theorem dX1_bucketOf_40 : decode cX1_bucketOf 40 = .ok (.sipush 2047, 3) := by decide +kernel
theorem dX1_bucketOf_43 : decode cX1_bucketOf 43 = .ok (.iand, 1) := by decide +kernel
theorem dX1_bucketOf_44 : decode cX1_bucketOf 44 = .ok (.ireturn, 1) := by decide +kernel
theorem dX1_firstLike_0 : decode cX1_firstLike 0 = .ok (.aload_n 0, 1) := by decide +kernel
theorem dX1_firstLike_1 : decode cX1_firstLike 1 = .ok (.getfield 18, 3) := by decide +kernel
theorem dX1_firstLike_4 : decode cX1_firstLike 4 = .ok (.iload_n 3, 1) := by decide +kernel
theorem dX1_firstLike_5 : decode cX1_firstLike 5 = .ok (.iaload, 1) := by decide +kernel
theorem dX1_firstLike_6 : decode cX1_firstLike 6 = .ok (.istore 4, 2) := by decide +kernel
theorem dX1_firstLike_8 : decode cX1_firstLike 8 = .ok (.iconst 0, 1) := by decide +kernel
theorem dX1_firstLike_9 : decode cX1_firstLike 9 = .ok (.istore 5, 2) := by decide +kernel
theorem dX1_firstLike_11 : decode cX1_firstLike 11 = .ok (.iload 5, 2) := by decide +kernel
theorem dX1_firstLike_13 : decode cX1_firstLike 13 = .ok (.sipush 1024, 3) := by decide +kernel
theorem dX1_firstLike_16 : decode cX1_firstLike 16 = .ok (.if_icmp .ge 38, 3) := by decide +kernel
theorem dX1_firstLike_19 : decode cX1_firstLike 19 = .ok (.iload 4, 2) := by decide +kernel
theorem dX1_firstLike_21 : decode cX1_firstLike 21 = .ok (.iconst (-1), 1) := by decide +kernel
theorem dX1_firstLike_22 : decode cX1_firstLike 22 = .ok (.if_icmp .eq 32, 3) := by decide +kernel
theorem dX1_firstLike_25 : decode cX1_firstLike 25 = .ok (.aload_n 0, 1) := by decide +kernel
theorem dX1_firstLike_26 : decode cX1_firstLike 26 = .ok (.aload_n 1, 1) := by decide +kernel
theorem dX1_firstLike_27 : decode cX1_firstLike 27 = .ok (.iload 4, 2) := by decide +kernel
theorem dX1_firstLike_29 : decode cX1_firstLike 29 = .ok (.iload_n 2, 1) := by decide +kernel
theorem dX1_firstLike_30 : decode cX1_firstLike 30 = .ok (.invokevirtual 50, 3) := by decide +kernel
theorem dX1_firstLike_33 : decode cX1_firstLike 33 = .ok (.ifCond .eq 6, 3) := by decide +kernel
theorem dX1_firstLike_36 : decode cX1_firstLike 36 = .ok (.iload 4, 2) := by decide +kernel
theorem dX1_firstLike_38 : decode cX1_firstLike 38 = .ok (.ireturn, 1) := by decide +kernel
theorem dX1_firstLike_39 : decode cX1_firstLike 39 = .ok (.aload_n 0, 1) := by decide +kernel
theorem dX1_firstLike_40 : decode cX1_firstLike 40 = .ok (.getfield 21, 3) := by decide +kernel
theorem dX1_firstLike_43 : decode cX1_firstLike 43 = .ok (.iload 4, 2) := by decide +kernel
theorem dX1_firstLike_45 : decode cX1_firstLike 45 = .ok (.iaload, 1) := by decide +kernel
theorem dX1_firstLike_46 : decode cX1_firstLike 46 = .ok (.istore 4, 2) := by decide +kernel
theorem dX1_firstLike_48 : decode cX1_firstLike 48 = .ok (.iinc 5 1, 3) := by decide +kernel
theorem dX1_firstLike_51 : decode cX1_firstLike 51 = .ok (.goto (-40), 3) := by decide +kernel
theorem dX1_firstLike_54 : decode cX1_firstLike 54 = .ok (.iconst (-1), 1) := by decide +kernel
theorem dX1_firstLike_55 : decode cX1_firstLike 55 = .ok (.ireturn, 1) := by decide +kernel
theorem dX1_doTheSame_0 : decode cX1_doTheSame 0 = .ok (.iconst 0, 1) := by decide +kernel
theorem dX1_doTheSame_1 : decode cX1_doTheSame 1 = .ok (.istore 4, 2) := by decide +kernel
theorem dX1_doTheSame_3 : decode cX1_doTheSame 3 = .ok (.iload 4, 2) := by decide +kernel
theorem dX1_doTheSame_5 : decode cX1_doTheSame 5 = .ok (.bipush 6, 2) := by decide +kernel
theorem dX1_doTheSame_7 : decode cX1_doTheSame 7 = .ok (.if_icmp .ge 30, 3) := by decide +kernel
theorem dX1_doTheSame_10 : decode cX1_doTheSame 10 = .ok (.aload_n 0, 1) := by decide +kernel
theorem dX1_doTheSame_11 : decode cX1_doTheSame 11 = .ok (.aload_n 1, 1) := by decide +kernel
theorem dX1_doTheSame_12 : decode cX1_doTheSame 12 = .ok (.iload_n 2, 1) := by decide +kernel
theorem dX1_doTheSame_13 : decode cX1_doTheSame 13 = .ok (.iload 4, 2) := by decide +kernel
theorem dX1_doTheSame_15 : decode cX1_doTheSame 15 = .ok (.invokevirtual 47, 3) := by decide +kernel
theorem dX1_doTheSame_18 : decode cX1_doTheSame 18 = .ok (.aload_n 0, 1) := by decide +kernel
theorem dX1_doTheSame_19 : decode cX1_doTheSame 19 = .ok (.aload_n 1, 1) := by decide +kernel
theorem dX1_doTheSame_20 : decode cX1_doTheSame 20 = .ok (.iload_n 3, 1) := by decide +kernel
theorem dX1_doTheSame_21 : decode cX1_doTheSame 21 = .ok (.iload 4, 2) := by decide +kernel
theorem dX1_doTheSame_23 : decode cX1_doTheSame 23 = .ok (.invokevirtual 47, 3) := by decide +kernel
theorem dX1_doTheSame_26 : decode cX1_doTheSame 26 = .ok (.if_icmp .eq 5, 3) := by decide +kernel
theorem dX1_doTheSame_29 : decode cX1_doTheSame 29 = .ok (.iconst 0, 1) := by decide +kernel
theorem dX1_doTheSame_30 : decode cX1_doTheSame 30 = .ok (.ireturn, 1) := by decide +kernel
theorem dX1_doTheSame_31 : decode cX1_doTheSame 31 = .ok (.iinc 4 1, 3) := by decide +kernel
theorem dX1_doTheSame_34 : decode cX1_doTheSame 34 = .ok (.goto (-31), 3) := by decide +kernel
theorem dX1_doTheSame_37 : decode cX1_doTheSame 37 = .ok (.iconst 1, 1) := by decide +kernel
theorem dX1_doTheSame_38 : decode cX1_doTheSame 38 = .ok (.ireturn, 1) := by decide +kernel
theorem dX1_groupBehind_0 : decode cX1_groupBehind 0 = .ok (.iload_n 2, 1) := by decide +kernel
theorem dX1_groupBehind_1 : decode cX1_groupBehind 1 = .ok (.bipush 6, 2) := by decide +kernel
theorem dX1_groupBehind_3 : decode cX1_groupBehind 3 = .ok (.imul, 1) := by decide +kernel
theorem dX1_groupBehind_4 : decode cX1_groupBehind 4 = .ok (.iload_n 3, 1) := by decide +kernel
theorem dX1_groupBehind_5 : decode cX1_groupBehind 5 = .ok (.iadd, 1) := by decide +kernel
theorem dX1_groupBehind_6 : decode cX1_groupBehind 6 = .ok (.istore 4, 2) := by decide +kernel
theorem dX1_groupBehind_8 : decode cX1_groupBehind 8 = .ok (.iload 4, 2) := by decide +kernel
theorem dX1_groupBehind_10 : decode cX1_groupBehind 10 = .ok (.ifCond .lt 17, 3) := by decide +kernel
theorem dX1_groupBehind_13 : decode cX1_groupBehind 13 = .ok (.iload 4, 2) := by decide +kernel
theorem dX1_groupBehind_15 : decode cX1_groupBehind 15 = .ok (.aload_n 1, 1) := by decide +kernel
theorem dX1_groupBehind_16 : decode cX1_groupBehind 16 = .ok (.arraylength, 1) := by decide +kernel
theorem dX1_groupBehind_17 : decode cX1_groupBehind 17 = .ok (.if_icmp .ge 10, 3) := by decide +kernel
theorem dX1_groupBehind_20 : decode cX1_groupBehind 20 = .ok (.aload_n 1, 1) := by decide +kernel
theorem dX1_groupBehind_21 : decode cX1_groupBehind 21 = .ok (.iload 4, 2) := by decide +kernel
theorem dX1_groupBehind_23 : decode cX1_groupBehind 23 = .ok (.iaload, 1) := by decide +kernel
theorem dX1_groupBehind_24 : decode cX1_groupBehind 24 = .ok (.goto 4, 3) := by decide +kernel
theorem dX1_groupBehind_27 : decode cX1_groupBehind 27 = .ok (.iconst (-1), 1) := by decide +kernel
theorem dX1_groupBehind_28 : decode cX1_groupBehind 28 = .ok (.istore 5, 2) := by decide +kernel
theorem dX1_groupBehind_30 : decode cX1_groupBehind 30 = .ok (.iload 5, 2) := by decide +kernel
theorem dX1_groupBehind_32 : decode cX1_groupBehind 32 = .ok (.ifCond .lt 21, 3) := by decide +kernel
theorem dX1_groupBehind_35 : decode cX1_groupBehind 35 = .ok (.iload 5, 2) := by decide +kernel
theorem dX1_groupBehind_37 : decode cX1_groupBehind 37 = .ok (.sipush 1024, 3) := by decide +kernel
theorem dX1_groupBehind_40 : decode cX1_groupBehind 40 = .ok (.if_icmp .ge 13, 3) := by decide +kernel
theorem dX1_groupBehind_43 : decode cX1_groupBehind 43 = .ok (.aload_n 0, 1) := by decide +kernel
theorem dX1_groupBehind_44 : decode cX1_groupBehind 44 = .ok (.getfield 9, 3) := by decide +kernel
theorem dX1_groupBehind_47 : decode cX1_groupBehind 47 = .ok (.iload 5, 2) := by decide +kernel
theorem dX1_groupBehind_49 : decode cX1_groupBehind 49 = .ok (.iaload, 1) := by decide +kernel
theorem dX1_groupBehind_50 : decode cX1_groupBehind 50 = .ok (.goto 4, 3) := by decide +kernel
theorem dX1_groupBehind_53 : decode cX1_groupBehind 53 = .ok (.iconst (-1), 1) := by decide +kernel
theorem dX1_groupBehind_54 : decode cX1_groupBehind 54 = .ok (.ireturn, 1) := by decide +kernel
