theorem dX10_known_31 : decode cX10_known 31 = .ok (.iadd, 1) := by decide +kernel
theorem dX10_known_32 : decode cX10_known 32 = .ok (.iaload, 1) := by decide +kernel
theorem dX10_known_33 : decode cX10_known 33 = .ok (.iastore, 1) := by decide +kernel
theorem dX10_known_34 : decode cX10_known 34 = .ok (.iinc 1 1, 3) := by decide +kernel
theorem dX10_known_37 : decode cX10_known 37 = .ok (.goto (-25), 3) := by decide +kernel
theorem dX10_known_40 : decode cX10_known 40 = .ok (.aload_n 0, 1) := by decide +kernel
theorem dX10_known_41 : decode cX10_known 41 = .ok (.bipush 7, 2) := by decide +kernel
theorem dX10_known_43 : decode cX10_known 43 = .ok (.putfield 124, 3) := by decide +kernel
theorem dX10_known_46 : decode cX10_known 46 = .ok (.aload_n 0, 1) := by decide +kernel
theorem dX10_known_47 : decode cX10_known 47 = .ok (.dup, 1) := by decide +kernel
theorem dX10_known_48 : decode cX10_known 48 = .ok (.getfield 124, 3) := by decide +kernel
theorem dX10_known_51 : decode cX10_known 51 = .ok (.iconst 1, 1) := by decide +kernel
theorem dX10_known_52 : decode cX10_known 52 = .ok (.iadd, 1) := by decide +kernel
theorem dX10_known_53 : decode cX10_known 53 = .ok (.putfield 124, 3) := by decide +kernel
theorem dX10_known_56 : decode cX10_known 56 = .ok (.aload_n 0, 1) := by decide +kernel
theorem dX10_known_57 : decode cX10_known 57 = .ok (.iconst 0, 1) := by decide +kernel
theorem dX10_known_58 : decode cX10_known 58 = .ok (.aload_n 0, 1) := by decide +kernel
theorem dX10_known_59 : decode cX10_known 59 = .ok (.getfield 124, 3) := by decide +kernel
theorem dX10_known_62 : decode cX10_known 62 = .ok (.bipush 61, 2) := by decide +kernel
theorem dX10_known_64 : decode cX10_known 64 = .ok (.imul, 1) := by decide +kernel
theorem dX10_known_65 : decode cX10_known 65 = .ok (.invokevirtual 212, 3) := by decide +kernel
theorem dX10_known_68 : decode cX10_known 68 = .ok (.return_, 1) := by decide +kernel
theorem dX10_puts_0 : decode cX10_puts 0 = .ok (.aload_n 0, 1) := by decide +kernel
theorem dX10_puts_1 : decode cX10_puts 1 = .ok (.getfield 31, 3) := by decide +kernel
theorem dX10_puts_4 : decode cX10_puts 4 = .ok (.iload_n 1, 1) := by decide +kernel
theorem dX10_puts_5 : decode cX10_puts 5 = .ok (.bipush 30, 2) := by decide +kernel
theorem dX10_puts_7 : decode cX10_puts 7 = .ok (.iadd, 1) := by decide +kernel
theorem dX10_puts_8 : decode cX10_puts 8 = .ok (.iaload, 1) := by decide +kernel
theorem dX10_puts_9 : decode cX10_puts 9 = .ok (.istore 4, 2) := by decide +kernel
theorem dX10_puts_11 : decode cX10_puts 11 = .ok (.iload 4, 2) := by decide +kernel
theorem dX10_puts_13 : decode cX10_puts 13 = .ok (.iload_n 2, 1) := by decide +kernel
theorem dX10_puts_14 : decode cX10_puts 14 = .ok (.if_icmp .le 35, 3) := by decide +kernel
theorem dX10_puts_17 : decode cX10_puts 17 = .ok (.aload_n 0, 1) := by decide +kernel
theorem dX10_puts_18 : decode cX10_puts 18 = .ok (.getfield 31, 3) := by decide +kernel
theorem dX10_puts_21 : decode cX10_puts 21 = .ok (.iload_n 1, 1) := by decide +kernel
theorem dX10_puts_22 : decode cX10_puts 22 = .ok (.bipush 31, 2) := by decide +kernel
theorem dX10_puts_24 : decode cX10_puts 24 = .ok (.iadd, 1) := by decide +kernel
theorem dX10_puts_25 : decode cX10_puts 25 = .ok (.iload 4, 2) := by decide +kernel
theorem dX10_puts_27 : decode cX10_puts 27 = .ok (.iadd, 1) := by decide +kernel
theorem dX10_puts_28 : decode cX10_puts 28 = .ok (.aload_n 0, 1) := by decide +kernel
theorem dX10_puts_29 : decode cX10_puts 29 = .ok (.getfield 31, 3) := by decide +kernel
theorem dX10_puts_32 : decode cX10_puts 32 = .ok (.iload_n 1, 1) := by decide +kernel
theorem dX10_puts_33 : decode cX10_puts 33 = .ok (.bipush 31, 2) := by decide +kernel
theorem dX10_puts_35 : decode cX10_puts 35 = .ok (.iadd, 1) := by decide +kernel
theorem dX10_puts_36 : decode cX10_puts 36 = .ok (.iload 4, 2) := by decide +kernel
theorem dX10_puts_38 : decode cX10_puts 38 = .ok (.iadd, 1) := by decide +kernel
theorem dX10_puts_39 : decode cX10_puts 39 = .ok (.iconst 1, 1) := by decide +kernel
theorem dX10_puts_40 : decode cX10_puts 40 = .ok (.isub, 1) := by decide +kernel
theorem dX10_puts_41 : decode cX10_puts 41 = .ok (.iaload, 1) := by decide +kernel
theorem dX10_puts_42 : decode cX10_puts 42 = .ok (.iastore, 1) := by decide +kernel
theorem dX10_puts_43 : decode cX10_puts 43 = .ok (.iinc 4 (-1), 3) := by decide +kernel
theorem dX10_puts_46 : decode cX10_puts 46 = .ok (.goto (-35), 3) := by decide +kernel
theorem dX10_puts_49 : decode cX10_puts 49 = .ok (.aload_n 0, 1) := by decide +kernel
theorem dX10_puts_50 : decode cX10_puts 50 = .ok (.getfield 31, 3) := by decide +kernel
theorem dX10_puts_53 : decode cX10_puts 53 = .ok (.iload_n 1, 1) := by decide +kernel
theorem dX10_puts_54 : decode cX10_puts 54 = .ok (.bipush 31, 2) := by decide +kernel
theorem dX10_puts_56 : decode cX10_puts 56 = .ok (.iadd, 1) := by decide +kernel
theorem dX10_puts_57 : decode cX10_puts 57 = .ok (.iload_n 2, 1) := by decide +kernel
theorem dX10_puts_58 : decode cX10_puts 58 = .ok (.iadd, 1) := by decide +kernel
theorem dX10_puts_59 : decode cX10_puts 59 = .ok (.iload_n 3, 1) := by decide +kernel
theorem dX10_puts_60 : decode cX10_puts 60 = .ok (.iastore, 1) := by decide +kernel
theorem dX10_puts_61 : decode cX10_puts 61 = .ok (.aload_n 0, 1) := by decide +kernel
theorem dX10_puts_62 : decode cX10_puts 62 = .ok (.getfield 31, 3) := by decide +kernel
theorem dX10_puts_65 : decode cX10_puts 65 = .ok (.iload_n 1, 1) := by decide +kernel
theorem dX10_puts_66 : decode cX10_puts 66 = .ok (.bipush 30, 2) := by decide +kernel
theorem dX10_puts_68 : decode cX10_puts 68 = .ok (.iadd, 1) := by decide +kernel
theorem dX10_puts_69 : decode cX10_puts 69 = .ok (.dup2, 1) := by decide +kernel
theorem dX10_puts_70 : decode cX10_puts 70 = .ok (.iaload, 1) := by decide +kernel
theorem dX10_puts_71 : decode cX10_puts 71 = .ok (.iconst 1, 1) := by decide +kernel
theorem dX10_puts_72 : decode cX10_puts 72 = .ok (.iadd, 1) := by decide +kernel
theorem dX10_puts_73 : decode cX10_puts 73 = .ok (.iastore, 1) := by decide +kernel
theorem dX10_puts_74 : decode cX10_puts 74 = .ok (.return_, 1) := by decide +kernel
theorem dX10_takesOut_0 : decode cX10_takesOut 0 = .ok (.iload_n 2, 1) := by decide +kernel
theorem dX10_takesOut_1 : decode cX10_takesOut 1 = .ok (.istore_n 3, 1) := by decide +kernel
theorem dX10_takesOut_2 : decode cX10_takesOut 2 = .ok (.iload_n 3, 1) := by decide +kernel
theorem dX10_takesOut_3 : decode cX10_takesOut 3 = .ok (.aload_n 0, 1) := by decide +kernel
theorem dX10_takesOut_4 : decode cX10_takesOut 4 = .ok (.getfield 31, 3) := by decide +kernel
theorem dX10_takesOut_7 : decode cX10_takesOut 7 = .ok (.iload_n 1, 1) := by decide +kernel
theorem dX10_takesOut_8 : decode cX10_takesOut 8 = .ok (.bipush 30, 2) := by decide +kernel
theorem dX10_takesOut_10 : decode cX10_takesOut 10 = .ok (.iadd, 1) := by decide +kernel
theorem dX10_takesOut_11 : decode cX10_takesOut 11 = .ok (.iaload, 1) := by decide +kernel
theorem dX10_takesOut_12 : decode cX10_takesOut 12 = .ok (.iconst 1, 1) := by decide +kernel
theorem dX10_takesOut_13 : decode cX10_takesOut 13 = .ok (.isub, 1) := by decide +kernel
theorem dX10_takesOut_14 : decode cX10_takesOut 14 = .ok (.if_icmp .ge 33, 3) := by decide +kernel
theorem dX10_takesOut_17 : decode cX10_takesOut 17 = .ok (.aload_n 0, 1) := by decide +kernel
theorem dX10_takesOut_18 : decode cX10_takesOut 18 = .ok (.getfield 31, 3) := by decide +kernel
theorem dX10_takesOut_21 : decode cX10_takesOut 21 = .ok (.iload_n 1, 1) := by decide +kernel
theorem dX10_takesOut_22 : decode cX10_takesOut 22 = .ok (.bipush 31, 2) := by decide +kernel
theorem dX10_takesOut_24 : decode cX10_takesOut 24 = .ok (.iadd, 1) := by decide +kernel
theorem dX10_takesOut_25 : decode cX10_takesOut 25 = .ok (.iload_n 3, 1) := by decide +kernel
theorem dX10_takesOut_26 : decode cX10_takesOut 26 = .ok (.iadd, 1) := by decide +kernel
theorem dX10_takesOut_27 : decode cX10_takesOut 27 = .ok (.aload_n 0, 1) := by decide +kernel
theorem dX10_takesOut_28 : decode cX10_takesOut 28 = .ok (.getfield 31, 3) := by decide +kernel
theorem dX10_takesOut_31 : decode cX10_takesOut 31 = .ok (.iload_n 1, 1) := by decide +kernel
theorem dX10_takesOut_32 : decode cX10_takesOut 32 = .ok (.bipush 31, 2) := by decide +kernel
theorem dX10_takesOut_34 : decode cX10_takesOut 34 = .ok (.iadd, 1) := by decide +kernel
theorem dX10_takesOut_35 : decode cX10_takesOut 35 = .ok (.iload_n 3, 1) := by decide +kernel
theorem dX10_takesOut_36 : decode cX10_takesOut 36 = .ok (.iadd, 1) := by decide +kernel
theorem dX10_takesOut_37 : decode cX10_takesOut 37 = .ok (.iconst 1, 1) := by decide +kernel
theorem dX10_takesOut_38 : decode cX10_takesOut 38 = .ok (.iadd, 1) := by decide +kernel
theorem dX10_takesOut_39 : decode cX10_takesOut 39 = .ok (.iaload, 1) := by decide +kernel
theorem dX10_takesOut_40 : decode cX10_takesOut 40 = .ok (.iastore, 1) := by decide +kernel
theorem dX10_takesOut_41 : decode cX10_takesOut 41 = .ok (.iinc 3 1, 3) := by decide +kernel
theorem dX10_takesOut_44 : decode cX10_takesOut 44 = .ok (.goto (-42), 3) := by decide +kernel
theorem dX10_takesOut_47 : decode cX10_takesOut 47 = .ok (.aload_n 0, 1) := by decide +kernel
theorem dX10_takesOut_48 : decode cX10_takesOut 48 = .ok (.getfield 31, 3) := by decide +kernel
theorem dX10_takesOut_51 : decode cX10_takesOut 51 = .ok (.iload_n 1, 1) := by decide +kernel
theorem dX10_takesOut_52 : decode cX10_takesOut 52 = .ok (.bipush 30, 2) := by decide +kernel
theorem dX10_takesOut_54 : decode cX10_takesOut 54 = .ok (.iadd, 1) := by decide +kernel
theorem dX10_takesOut_55 : decode cX10_takesOut 55 = .ok (.dup2, 1) := by decide +kernel
theorem dX10_takesOut_56 : decode cX10_takesOut 56 = .ok (.iaload, 1) := by decide +kernel
theorem dX10_takesOut_57 : decode cX10_takesOut 57 = .ok (.iconst 1, 1) := by decide +kernel
theorem dX10_takesOut_58 : decode cX10_takesOut 58 = .ok (.isub, 1) := by decide +kernel
theorem dX10_takesOut_59 : decode cX10_takesOut 59 = .ok (.iastore, 1) := by decide +kernel
theorem dX10_takesOut_60 : decode cX10_takesOut 60 = .ok (.return_, 1) := by decide +kernel
theorem dX10_insert_0 : decode cX10_insert 0 = .ok (.aload_n 0, 1) := by decide +kernel
theorem dX10_insert_1 : decode cX10_insert 1 = .ok (.iload_n 1, 1) := by decide +kernel
theorem dX10_insert_2 : decode cX10_insert 2 = .ok (.invokevirtual 209, 3) := by decide +kernel
theorem dX10_insert_5 : decode cX10_insert 5 = .ok (.ifCond .eq 15, 3) := by decide +kernel
theorem dX10_insert_8 : decode cX10_insert 8 = .ok (.iload_n 2, 1) := by decide +kernel
theorem dX10_insert_9 : decode cX10_insert 9 = .ok (.i2l, 1) := by decide +kernel
theorem dX10_insert_10 : decode cX10_insert 10 = .ok (.lconst 0, 1) := by decide +kernel
theorem dX10_insert_11 : decode cX10_insert 11 = .ok (.ldc2_w 207, 3) := by decide +kernel
theorem dX10_insert_14 : decode cX10_insert 14 = .ok (.invokestatic 144, 3) := by decide +kernel
theorem dX10_insert_17 : decode cX10_insert 17 = .ok (.ifCond .ne 5, 3) := by decide +kernel
theorem dX10_insert_20 : decode cX10_insert 20 = .ok (.iconst (-1), 1) := by decide +kernel
theorem dX10_insert_21 : decode cX10_insert 21 = .ok (.ireturn, 1) := by decide +kernel
theorem dX10_insert_22 : decode cX10_insert 22 = .ok (.aload_n 0, 1) := by decide +kernel
theorem dX10_insert_23 : decode cX10_insert 23 = .ok (.getfield 31, 3) := by decide +kernel
theorem dX10_insert_26 : decode cX10_insert 26 = .ok (.bipush 30, 2) := by decide +kernel
theorem dX10_insert_28 : decode cX10_insert 28 = .ok (.iaload, 1) := by decide +kernel
theorem dX10_insert_29 : decode cX10_insert 29 = .ok (.bipush 30, 2) := by decide +kernel
theorem dX10_insert_31 : decode cX10_insert 31 = .ok (.if_icmp .ne 6, 3) := by decide +kernel
theorem dX10_insert_34 : decode cX10_insert 34 = .ok (.bipush (-3), 2) := by decide +kernel
theorem dX10_insert_36 : decode cX10_insert 36 = .ok (.ireturn, 1) := by decide +kernel
theorem dX10_insert_37 : decode cX10_insert 37 = .ok (.aload_n 0, 1) := by decide +kernel
theorem dX10_insert_38 : decode cX10_insert 38 = .ok (.invokevirtual 215, 3) := by decide +kernel
theorem dX10_insert_41 : decode cX10_insert 41 = .ok (.aload_n 0, 1) := by decide +kernel
theorem dX10_insert_42 : decode cX10_insert 42 = .ok (.iconst 0, 1) := by decide +kernel
theorem dX10_insert_43 : decode cX10_insert 43 = .ok (.iload_n 1, 1) := by decide +kernel
theorem dX10_insert_44 : decode cX10_insert 44 = .ok (.iload_n 2, 1) := by decide +kernel
theorem dX10_insert_45 : decode cX10_insert 45 = .ok (.invokevirtual 218, 3) := by decide +kernel
theorem dX10_insert_48 : decode cX10_insert 48 = .ok (.aload_n 0, 1) := by decide +kernel
theorem dX10_insert_49 : decode cX10_insert 49 = .ok (.getfield 31, 3) := by decide +kernel
theorem dX10_insert_52 : decode cX10_insert 52 = .ok (.bipush 30, 2) := by decide +kernel
theorem dX10_insert_54 : decode cX10_insert 54 = .ok (.iaload, 1) := by decide +kernel
theorem dX10_insert_55 : decode cX10_insert 55 = .ok (.ireturn, 1) := by decide +kernel
theorem dX10_erase_0 : decode cX10_erase 0 = .ok (.iload_n 1, 1) := by decide +kernel
theorem dX10_erase_1 : decode cX10_erase 1 = .ok (.i2l, 1) := by decide +kernel
theorem dX10_erase_2 : decode cX10_erase 2 = .ok (.lconst 0, 1) := by decide +kernel
theorem dX10_erase_3 : decode cX10_erase 3 = .ok (.aload_n 0, 1) := by decide +kernel
theorem dX10_erase_4 : decode cX10_erase 4 = .ok (.getfield 31, 3) := by decide +kernel
theorem dX10_erase_7 : decode cX10_erase 7 = .ok (.bipush 30, 2) := by decide +kernel
theorem dX10_erase_9 : decode cX10_erase 9 = .ok (.iaload, 1) := by decide +kernel
theorem dX10_erase_10 : decode cX10_erase 10 = .ok (.iconst 1, 1) := by decide +kernel
theorem dX10_erase_11 : decode cX10_erase 11 = .ok (.isub, 1) := by decide +kernel
theorem dX10_erase_12 : decode cX10_erase 12 = .ok (.i2l, 1) := by decide +kernel
theorem dX10_erase_13 : decode cX10_erase 13 = .ok (.invokestatic 144, 3) := by decide +kernel
theorem dX10_erase_16 : decode cX10_erase 16 = .ok (.ifCond .ne 5, 3) := by decide +kernel
theorem dX10_erase_19 : decode cX10_erase 19 = .ok (.iconst (-1), 1) := by decide +kernel
theorem dX10_erase_20 : decode cX10_erase 20 = .ok (.ireturn, 1) := by decide +kernel
theorem dX10_erase_21 : decode cX10_erase 21 = .ok (.aload_n 0, 1) := by decide +kernel
theorem dX10_erase_22 : decode cX10_erase 22 = .ok (.invokevirtual 215, 3) := by decide +kernel
theorem dX10_erase_25 : decode cX10_erase 25 = .ok (.aload_n 0, 1) := by decide +kernel
theorem dX10_erase_26 : decode cX10_erase 26 = .ok (.getfield 31, 3) := by decide +kernel
theorem dX10_erase_29 : decode cX10_erase 29 = .ok (.bipush 31, 2) := by decide +kernel
theorem dX10_erase_31 : decode cX10_erase 31 = .ok (.iload_n 1, 1) := by decide +kernel
theorem dX10_erase_32 : decode cX10_erase 32 = .ok (.iadd, 1) := by decide +kernel
theorem dX10_erase_33 : decode cX10_erase 33 = .ok (.iaload, 1) := by decide +kernel
theorem dX10_erase_34 : decode cX10_erase 34 = .ok (.istore_n 2, 1) := by decide +kernel
theorem dX10_erase_35 : decode cX10_erase 35 = .ok (.aload_n 0, 1) := by decide +kernel
theorem dX10_erase_36 : decode cX10_erase 36 = .ok (.iconst 0, 1) := by decide +kernel
theorem dX10_erase_37 : decode cX10_erase 37 = .ok (.iload_n 1, 1) := by decide +kernel
theorem dX10_erase_38 : decode cX10_erase 38 = .ok (.invokevirtual 222, 3) := by decide +kernel
theorem dX10_erase_41 : decode cX10_erase 41 = .ok (.iload_n 2, 1) := by decide +kernel
theorem dX10_erase_42 : decode cX10_erase 42 = .ok (.ireturn, 1) := by decide +kernel
theorem dX10_tell_0 : decode cX10_tell 0 = .ok (.iload_n 1, 1) := by decide +kernel
theorem dX10_tell_1 : decode cX10_tell 1 = .ok (.i2l, 1) := by decide +kernel
theorem dX10_tell_2 : decode cX10_tell 2 = .ok (.lconst 0, 1) := by decide +kernel
theorem dX10_tell_3 : decode cX10_tell 3 = .ok (.ldc2_w 207, 3) := by decide +kernel
theorem dX10_tell_6 : decode cX10_tell 6 = .ok (.invokestatic 144, 3) := by decide +kernel
theorem dX10_tell_9 : decode cX10_tell 9 = .ok (.ifCond .eq 15, 3) := by decide +kernel
theorem dX10_tell_12 : decode cX10_tell 12 = .ok (.iload_n 2, 1) := by decide +kernel
theorem dX10_tell_13 : decode cX10_tell 13 = .ok (.i2l, 1) := by decide +kernel
theorem dX10_tell_14 : decode cX10_tell 14 = .ok (.lconst 0, 1) := by decide +kernel
theorem dX10_tell_15 : decode cX10_tell 15 = .ok (.ldc2_w 225, 3) := by decide +kernel
theorem dX10_tell_18 : decode cX10_tell 18 = .ok (.invokestatic 144, 3) := by decide +kernel
theorem dX10_tell_21 : decode cX10_tell 21 = .ok (.ifCond .ne 5, 3) := by decide +kernel
theorem dX10_tell_24 : decode cX10_tell 24 = .ok (.iconst (-1), 1) := by decide +kernel
theorem dX10_tell_25 : decode cX10_tell 25 = .ok (.ireturn, 1) := by decide +kernel
theorem dX10_tell_26 : decode cX10_tell 26 = .ok (.aload_n 0, 1) := by decide +kernel
theorem dX10_tell_27 : decode cX10_tell 27 = .ok (.getfield 31, 3) := by decide +kernel
theorem dX10_tell_30 : decode cX10_tell 30 = .ok (.iload_n 1, 1) := by decide +kernel
theorem dX10_tell_31 : decode cX10_tell 31 = .ok (.iaload, 1) := by decide +kernel
theorem dX10_tell_32 : decode cX10_tell 32 = .ok (.istore_n 3, 1) := by decide +kernel
theorem dX10_tell_33 : decode cX10_tell 33 = .ok (.iload_n 3, 1) := by decide +kernel
theorem dX10_tell_34 : decode cX10_tell 34 = .ok (.iload_n 2, 1) := by decide +kernel
theorem dX10_tell_35 : decode cX10_tell 35 = .ok (.if_icmp .ne 6, 3) := by decide +kernel
theorem dX10_tell_38 : decode cX10_tell 38 = .ok (.bipush (-2), 2) := by decide +kernel
theorem dX10_tell_40 : decode cX10_tell 40 = .ok (.ireturn, 1) := by decide +kernel
theorem dX10_tell_41 : decode cX10_tell 41 = .ok (.aload_n 0, 1) := by decide +kernel
theorem dX10_tell_42 : decode cX10_tell 42 = .ok (.invokevirtual 215, 3) := by decide +kernel
theorem dX10_tell_45 : decode cX10_tell 45 = .ok (.aload_n 0, 1) := by decide +kernel
theorem dX10_tell_46 : decode cX10_tell 46 = .ok (.getfield 31, 3) := by decide +kernel
theorem dX10_tell_49 : decode cX10_tell 49 = .ok (.iload_n 1, 1) := by decide +kernel
theorem dX10_tell_50 : decode cX10_tell 50 = .ok (.iload_n 2, 1) := by decide +kernel
theorem dX10_tell_51 : decode cX10_tell 51 = .ok (.iastore, 1) := by decide +kernel
theorem dX10_tell_52 : decode cX10_tell 52 = .ok (.iload_n 3, 1) := by decide +kernel
theorem dX10_tell_53 : decode cX10_tell 53 = .ok (.ireturn, 1) := by decide +kernel
theorem dX10_rename_0 : decode cX10_rename 0 = .ok (.aload_n 0, 1) := by decide +kernel
theorem dX10_rename_1 : decode cX10_rename 1 = .ok (.iload_n 1, 1) := by decide +kernel
theorem dX10_rename_2 : decode cX10_rename 2 = .ok (.invokevirtual 202, 3) := by decide +kernel
theorem dX10_rename_5 : decode cX10_rename 5 = .ok (.ifCond .eq 15, 3) := by decide +kernel
theorem dX10_rename_8 : decode cX10_rename 8 = .ok (.iload_n 2, 1) := by decide +kernel
theorem dX10_rename_9 : decode cX10_rename 9 = .ok (.i2l, 1) := by decide +kernel
theorem dX10_rename_10 : decode cX10_rename 10 = .ok (.lconst 0, 1) := by decide +kernel
theorem dX10_rename_11 : decode cX10_rename 11 = .ok (.ldc2_w 205, 3) := by decide +kernel
theorem dX10_rename_14 : decode cX10_rename 14 = .ok (.invokestatic 144, 3) := by decide +kernel
theorem dX10_rename_17 : decode cX10_rename 17 = .ok (.ifCond .ne 5, 3) := by decide +kernel
theorem dX10_rename_20 : decode cX10_rename 20 = .ok (.iconst (-1), 1) := by decide +kernel
theorem dX10_rename_21 : decode cX10_rename 21 = .ok (.ireturn, 1) := by decide +kernel
theorem dX10_rename_22 : decode cX10_rename 22 = .ok (.aload_n 0, 1) := by decide +kernel
theorem dX10_rename_23 : decode cX10_rename 23 = .ok (.getfield 31, 3) := by decide +kernel
theorem dX10_rename_26 : decode cX10_rename 26 = .ok (.bipush 26, 2) := by decide +kernel
theorem dX10_rename_28 : decode cX10_rename 28 = .ok (.iload_n 1, 1) := by decide +kernel
theorem dX10_rename_29 : decode cX10_rename 29 = .ok (.iadd, 1) := by decide +kernel
theorem dX10_rename_30 : decode cX10_rename 30 = .ok (.iaload, 1) := by decide +kernel
theorem dX10_rename_31 : decode cX10_rename 31 = .ok (.istore_n 3, 1) := by decide +kernel
theorem dX10_rename_32 : decode cX10_rename 32 = .ok (.iload_n 3, 1) := by decide +kernel
theorem dX10_rename_33 : decode cX10_rename 33 = .ok (.iload_n 2, 1) := by decide +kernel
theorem dX10_rename_34 : decode cX10_rename 34 = .ok (.if_icmp .ne 6, 3) := by decide +kernel
theorem dX10_rename_37 : decode cX10_rename 37 = .ok (.bipush (-2), 2) := by decide +kernel
theorem dX10_rename_39 : decode cX10_rename 39 = .ok (.ireturn, 1) := by decide +kernel
theorem dX10_rename_40 : decode cX10_rename 40 = .ok (.aload_n 0, 1) := by decide +kernel
theorem dX10_rename_41 : decode cX10_rename 41 = .ok (.invokevirtual 215, 3) := by decide +kernel
theorem dX10_rename_44 : decode cX10_rename 44 = .ok (.aload_n 0, 1) := by decide +kernel
theorem dX10_rename_45 : decode cX10_rename 45 = .ok (.getfield 31, 3) := by decide +kernel
theorem dX10_rename_48 : decode cX10_rename 48 = .ok (.bipush 26, 2) := by decide +kernel
theorem dX10_rename_50 : decode cX10_rename 50 = .ok (.iload_n 1, 1) := by decide +kernel
theorem dX10_rename_51 : decode cX10_rename 51 = .ok (.iadd, 1) := by decide +kernel
theorem dX10_rename_52 : decode cX10_rename 52 = .ok (.iload_n 2, 1) := by decide +kernel
theorem dX10_rename_53 : decode cX10_rename 53 = .ok (.iastore, 1) := by decide +kernel
theorem dX10_rename_54 : decode cX10_rename 54 = .ok (.iload_n 3, 1) := by decide +kernel
theorem dX10_rename_55 : decode cX10_rename 55 = .ok (.ireturn, 1) := by decide +kernel
theorem dX10_undo_0 : decode cX10_undo 0 = .ok (.aload_n 0, 1) := by decide +kernel
theorem dX10_undo_1 : decode cX10_undo 1 = .ok (.getfield 124, 3) := by decide +kernel
theorem dX10_undo_4 : decode cX10_undo 4 = .ok (.ifCond .ne 6, 3) := by decide +kernel
theorem dX10_undo_7 : decode cX10_undo 7 = .ok (.bipush (-2), 2) := by decide +kernel
theorem dX10_undo_9 : decode cX10_undo 9 = .ok (.ireturn, 1) := by decide +kernel
theorem dX10_undo_10 : decode cX10_undo 10 = .ok (.aload_n 0, 1) := by decide +kernel
theorem dX10_undo_11 : decode cX10_undo 11 = .ok (.aload_n 0, 1) := by decide +kernel
theorem dX10_undo_12 : decode cX10_undo 12 = .ok (.getfield 124, 3) := by decide +kernel
theorem dX10_undo_15 : decode cX10_undo 15 = .ok (.bipush 61, 2) := by decide +kernel
theorem dX10_undo_17 : decode cX10_undo 17 = .ok (.imul, 1) := by decide +kernel
theorem dX10_undo_18 : decode cX10_undo 18 = .ok (.iconst 0, 1) := by decide +kernel
theorem dX10_undo_19 : decode cX10_undo 19 = .ok (.invokevirtual 212, 3) := by decide +kernel
theorem dX10_undo_22 : decode cX10_undo 22 = .ok (.aload_n 0, 1) := by decide +kernel
theorem dX10_undo_23 : decode cX10_undo 23 = .ok (.dup, 1) := by decide +kernel
theorem dX10_undo_24 : decode cX10_undo 24 = .ok (.getfield 124, 3) := by decide +kernel
theorem dX10_undo_27 : decode cX10_undo 27 = .ok (.iconst 1, 1) := by decide +kernel
theorem dX10_undo_28 : decode cX10_undo 28 = .ok (.isub, 1) := by decide +kernel
theorem dX10_undo_29 : decode cX10_undo 29 = .ok (.putfield 124, 3) := by decide +kernel
theorem dX10_undo_32 : decode cX10_undo 32 = .ok (.aload_n 0, 1) := by decide +kernel
theorem dX10_undo_33 : decode cX10_undo 33 = .ok (.getfield 124, 3) := by decide +kernel
theorem dX10_undo_36 : decode cX10_undo 36 = .ok (.ireturn, 1) := by decide +kernel
theorem dX10_isTaken_0 : decode cX10_isTaken 0 = .ok (.iload_n 0, 1) := by decide +kernel
theorem dX10_isTaken_1 : decode cX10_isTaken 1 = .ok (.bipush 6, 2) := by decide +kernel
theorem dX10_isTaken_3 : decode cX10_isTaken 3 = .ok (.if_icmp .eq 8, 3) := by decide +kernel
theorem dX10_isTaken_6 : decode cX10_isTaken 6 = .ok (.iload_n 0, 1) := by decide +kernel
theorem dX10_isTaken_7 : decode cX10_isTaken 7 = .ok (.iload_n 1, 1) := by decide +kernel
theorem dX10_isTaken_8 : decode cX10_isTaken 8 = .ok (.if_icmp .ne 7, 3) := by decide +kernel
theorem dX10_isTaken_11 : decode cX10_isTaken 11 = .ok (.iconst 1, 1) := by decide +kernel
theorem dX10_isTaken_12 : decode cX10_isTaken 12 = .ok (.goto 4, 3) := by decide +kernel
theorem dX10_isTaken_15 : decode cX10_isTaken 15 = .ok (.iconst 0, 1) := by decide +kernel
theorem dX10_isTaken_16 : decode cX10_isTaken 16 = .ok (.ireturn, 1) := by decide +kernel
theorem dX10_taking_0 : decode cX10_taking 0 = .ok (.iconst 0, 1) := by decide +kernel
theorem dX10_taking_1 : decode cX10_taking 1 = .ok (.istore_n 3, 1) := by decide +kernel
theorem dX10_taking_2 : decode cX10_taking 2 = .ok (.iconst 0, 1) := by decide +kernel
theorem dX10_taking_3 : decode cX10_taking 3 = .ok (.istore 4, 2) := by decide +kernel
theorem dX10_taking_5 : decode cX10_taking 5 = .ok (.iload 4, 2) := by decide +kernel
theorem dX10_taking_7 : decode cX10_taking 7 = .ok (.aload_n 0, 1) := by decide +kernel
theorem dX10_taking_8 : decode cX10_taking 8 = .ok (.getfield 121, 3) := by decide +kernel
theorem dX10_taking_11 : decode cX10_taking 11 = .ok (.if_icmp .ge 43, 3) := by decide +kernel
theorem dX10_taking_14 : decode cX10_taking 14 = .ok (.iload_n 3, 1) := by decide +kernel
theorem dX10_taking_15 : decode cX10_taking 15 = .ok (.iload_n 1, 1) := by decide +kernel
theorem dX10_taking_16 : decode cX10_taking 16 = .ok (.iload 4, 2) := by decide +kernel
theorem dX10_taking_18 : decode cX10_taking 18 = .ok (.invokestatic 133, 3) := by decide +kernel
theorem dX10_taking_21 : decode cX10_taking 21 = .ok (.ifCond .eq 24, 3) := by decide +kernel
theorem dX10_taking_24 : decode cX10_taking 24 = .ok (.aload_n 0, 1) := by decide +kernel
theorem dX10_taking_25 : decode cX10_taking 25 = .ok (.getfield 13, 3) := by decide +kernel
theorem dX10_taking_28 : decode cX10_taking 28 = .ok (.iload 4, 2) := by decide +kernel
theorem dX10_taking_30 : decode cX10_taking 30 = .ok (.iaload, 1) := by decide +kernel
theorem dX10_taking_31 : decode cX10_taking 31 = .ok (.iload_n 2, 1) := by decide +kernel
theorem dX10_taking_32 : decode cX10_taking 32 = .ok (.invokestatic 227, 3) := by decide +kernel
theorem dX10_taking_35 : decode cX10_taking 35 = .ok (.ifCond .eq 10, 3) := by decide +kernel
theorem dX10_taking_38 : decode cX10_taking 38 = .ok (.iconst 1, 1) := by decide +kernel
theorem dX10_taking_39 : decode cX10_taking 39 = .ok (.iload 4, 2) := by decide +kernel
theorem dX10_taking_41 : decode cX10_taking 41 = .ok (.ishl, 1) := by decide +kernel
theorem dX10_taking_42 : decode cX10_taking 42 = .ok (.goto 4, 3) := by decide +kernel
theorem dX10_taking_45 : decode cX10_taking 45 = .ok (.iconst 0, 1) := by decide +kernel
theorem dX10_taking_46 : decode cX10_taking 46 = .ok (.ior, 1) := by decide +kernel
theorem dX10_taking_47 : decode cX10_taking 47 = .ok (.istore_n 3, 1) := by decide +kernel
theorem dX10_taking_48 : decode cX10_taking 48 = .ok (.iinc 4 1, 3) := by decide +kernel
theorem dX10_taking_51 : decode cX10_taking 51 = .ok (.goto (-46), 3) := by decide +kernel
theorem dX10_taking_54 : decode cX10_taking 54 = .ok (.iload_n 3, 1) := by decide +kernel
theorem dX10_taking_55 : decode cX10_taking 55 = .ok (.ireturn, 1) := by decide +kernel
theorem dX10_begun_0 : decode cX10_begun 0 = .ok (.iconst 0, 1) := by decide +kernel
theorem dX10_begun_1 : decode cX10_begun 1 = .ok (.istore_n 2, 1) := by decide +kernel
theorem dX10_begun_2 : decode cX10_begun 2 = .ok (.iconst 0, 1) := by decide +kernel
theorem dX10_begun_3 : decode cX10_begun 3 = .ok (.istore_n 3, 1) := by decide +kernel
theorem dX10_begun_4 : decode cX10_begun 4 = .ok (.iload_n 3, 1) := by decide +kernel
theorem dX10_begun_5 : decode cX10_begun 5 = .ok (.aload_n 0, 1) := by decide +kernel
theorem dX10_begun_6 : decode cX10_begun 6 = .ok (.getfield 118, 3) := by decide +kernel
theorem dX10_begun_9 : decode cX10_begun 9 = .ok (.if_icmp .ge 35, 3) := by decide +kernel
theorem dX10_begun_12 : decode cX10_begun 12 = .ok (.iload_n 2, 1) := by decide +kernel
theorem dX10_begun_13 : decode cX10_begun 13 = .ok (.aload_n 0, 1) := by decide +kernel
theorem dX10_begun_14 : decode cX10_begun 14 = .ok (.getfield 230, 3) := by decide +kernel
theorem dX10_begun_17 : decode cX10_begun 17 = .ok (.iload_n 3, 1) := by decide +kernel
theorem dX10_begun_18 : decode cX10_begun 18 = .ok (.invokestatic 133, 3) := by decide +kernel
theorem dX10_begun_21 : decode cX10_begun 21 = .ok (.ifCond .eq 7, 3) := by decide +kernel
theorem dX10_begun_24 : decode cX10_begun 24 = .ok (.iconst 0, 1) := by decide +kernel
theorem dX10_begun_25 : decode cX10_begun 25 = .ok (.goto 11, 3) := by decide +kernel
theorem dX10_begun_28 : decode cX10_begun 28 = .ok (.aload_n 0, 1) := by decide +kernel
theorem dX10_begun_29 : decode cX10_begun 29 = .ok (.getfield 7, 3) := by decide +kernel
theorem dX10_begun_32 : decode cX10_begun 32 = .ok (.iconst 0, 1) := by decide +kernel
theorem dX10_begun_33 : decode cX10_begun 33 = .ok (.iload_n 3, 1) := by decide +kernel
theorem dX10_begun_34 : decode cX10_begun 34 = .ok (.iadd, 1) := by decide +kernel
theorem dX10_begun_35 : decode cX10_begun 35 = .ok (.iaload, 1) := by decide +kernel
theorem dX10_begun_36 : decode cX10_begun 36 = .ok (.ior, 1) := by decide +kernel
theorem dX10_begun_37 : decode cX10_begun 37 = .ok (.istore_n 2, 1) := by decide +kernel
theorem dX10_begun_38 : decode cX10_begun 38 = .ok (.iinc 3 1, 3) := by decide +kernel
theorem dX10_begun_41 : decode cX10_begun 41 = .ok (.goto (-37), 3) := by decide +kernel
theorem dX10_begun_44 : decode cX10_begun 44 = .ok (.aload_n 0, 1) := by decide +kernel
theorem dX10_begun_45 : decode cX10_begun 45 = .ok (.iload_n 2, 1) := by decide +kernel
theorem dX10_begun_46 : decode cX10_begun 46 = .ok (.iload_n 1, 1) := by decide +kernel
theorem dX10_begun_47 : decode cX10_begun 47 = .ok (.invokevirtual 233, 3) := by decide +kernel
theorem dX10_begun_50 : decode cX10_begun 50 = .ok (.ireturn, 1) := by decide +kernel
theorem dX10_goes_0 : decode cX10_goes 0 = .ok (.iconst 0, 1) := by decide +kernel
theorem dX10_goes_1 : decode cX10_goes 1 = .ok (.istore_n 3, 1) := by decide +kernel
theorem dX10_goes_2 : decode cX10_goes 2 = .ok (.iconst 0, 1) := by decide +kernel
theorem dX10_goes_3 : decode cX10_goes 3 = .ok (.istore 4, 2) := by decide +kernel
theorem dX10_goes_5 : decode cX10_goes 5 = .ok (.iload 4, 2) := by decide +kernel
theorem dX10_goes_7 : decode cX10_goes 7 = .ok (.aload_n 0, 1) := by decide +kernel
theorem dX10_goes_8 : decode cX10_goes 8 = .ok (.getfield 118, 3) := by decide +kernel
theorem dX10_goes_11 : decode cX10_goes 11 = .ok (.if_icmp .ge 139, 3) := by decide +kernel
theorem dX10_goes_14 : decode cX10_goes 14 = .ok (.aload_n 0, 1) := by decide +kernel
theorem dX10_goes_15 : decode cX10_goes 15 = .ok (.getfield 31, 3) := by decide +kernel
theorem dX10_goes_18 : decode cX10_goes 18 = .ok (.bipush 26, 2) := by decide +kernel
theorem dX10_goes_20 : decode cX10_goes 20 = .ok (.iload 4, 2) := by decide +kernel
theorem dX10_goes_22 : decode cX10_goes 22 = .ok (.iadd, 1) := by decide +kernel
theorem dX10_goes_23 : decode cX10_goes 23 = .ok (.iaload, 1) := by decide +kernel
theorem dX10_goes_24 : decode cX10_goes 24 = .ok (.istore 5, 2) := by decide +kernel
theorem dX10_goes_26 : decode cX10_goes 26 = .ok (.iload_n 1, 1) := by decide +kernel
theorem dX10_goes_27 : decode cX10_goes 27 = .ok (.aload_n 0, 1) := by decide +kernel
theorem dX10_goes_28 : decode cX10_goes 28 = .ok (.getfield 7, 3) := by decide +kernel
theorem dX10_goes_31 : decode cX10_goes 31 = .ok (.bipush 8, 2) := by decide +kernel
theorem dX10_goes_33 : decode cX10_goes 33 = .ok (.iload 4, 2) := by decide +kernel
theorem dX10_goes_35 : decode cX10_goes 35 = .ok (.iadd, 1) := by decide +kernel
theorem dX10_goes_36 : decode cX10_goes 36 = .ok (.iaload, 1) := by decide +kernel
theorem dX10_goes_37 : decode cX10_goes 37 = .ok (.iand, 1) := by decide +kernel
theorem dX10_goes_38 : decode cX10_goes 38 = .ok (.istore 6, 2) := by decide +kernel
theorem dX10_goes_40 : decode cX10_goes 40 = .ok (.iload 5, 2) := by decide +kernel
theorem dX10_goes_42 : decode cX10_goes 42 = .ok (.iconst 1, 1) := by decide +kernel
theorem dX10_goes_43 : decode cX10_goes 43 = .ok (.if_icmp .le 20, 3) := by decide +kernel
theorem dX10_goes_46 : decode cX10_goes 46 = .ok (.iload 6, 2) := by decide +kernel
theorem dX10_goes_48 : decode cX10_goes 48 = .ok (.aload_n 0, 1) := by decide +kernel
theorem dX10_goes_49 : decode cX10_goes 49 = .ok (.getfield 7, 3) := by decide +kernel
theorem dX10_goes_52 : decode cX10_goes 52 = .ok (.iconst 4, 1) := by decide +kernel
theorem dX10_goes_53 : decode cX10_goes 53 = .ok (.iload 4, 2) := by decide +kernel
theorem dX10_goes_55 : decode cX10_goes 55 = .ok (.iadd, 1) := by decide +kernel
theorem dX10_goes_56 : decode cX10_goes 56 = .ok (.iaload, 1) := by decide +kernel
theorem dX10_goes_57 : decode cX10_goes 57 = .ok (.iconst (-1), 1) := by decide +kernel
theorem dX10_goes_58 : decode cX10_goes 58 = .ok (.ixor, 1) := by decide +kernel
theorem dX10_goes_59 : decode cX10_goes 59 = .ok (.iand, 1) := by decide +kernel
theorem dX10_goes_60 : decode cX10_goes 60 = .ok (.goto 5, 3) := by decide +kernel
theorem dX10_goes_63 : decode cX10_goes 63 = .ok (.iload 6, 2) := by decide +kernel
theorem dX10_goes_65 : decode cX10_goes 65 = .ok (.istore 7, 2) := by decide +kernel
theorem dX10_goes_67 : decode cX10_goes 67 = .ok (.iconst 0, 1) := by decide +kernel
theorem dX10_goes_68 : decode cX10_goes 68 = .ok (.istore 8, 2) := by decide +kernel
theorem dX10_goes_70 : decode cX10_goes 70 = .ok (.iconst 0, 1) := by decide +kernel
theorem dX10_goes_71 : decode cX10_goes 71 = .ok (.istore 9, 2) := by decide +kernel
theorem dX10_goes_73 : decode cX10_goes 73 = .ok (.iload 9, 2) := by decide +kernel
theorem dX10_goes_75 : decode cX10_goes 75 = .ok (.aload_n 0, 1) := by decide +kernel
theorem dX10_goes_76 : decode cX10_goes 76 = .ok (.getfield 121, 3) := by decide +kernel
theorem dX10_goes_79 : decode cX10_goes 79 = .ok (.if_icmp .ge 35, 3) := by decide +kernel
theorem dX10_goes_82 : decode cX10_goes 82 = .ok (.iload 8, 2) := by decide +kernel
theorem dX10_goes_84 : decode cX10_goes 84 = .ok (.iload 7, 2) := by decide +kernel
theorem dX10_goes_86 : decode cX10_goes 86 = .ok (.iload 9, 2) := by decide +kernel
theorem dX10_goes_88 : decode cX10_goes 88 = .ok (.invokestatic 133, 3) := by decide +kernel
theorem dX10_goes_91 : decode cX10_goes 91 = .ok (.ifCond .eq 13, 3) := by decide +kernel
theorem dX10_goes_94 : decode cX10_goes 94 = .ok (.aload_n 0, 1) := by decide +kernel
theorem dX10_goes_95 : decode cX10_goes 95 = .ok (.getfield 16, 3) := by decide +kernel
theorem dX10_goes_98 : decode cX10_goes 98 = .ok (.iload 9, 2) := by decide +kernel
theorem dX10_goes_100 : decode cX10_goes 100 = .ok (.iaload, 1) := by decide +kernel
theorem dX10_goes_101 : decode cX10_goes 101 = .ok (.goto 4, 3) := by decide +kernel
theorem dX10_goes_104 : decode cX10_goes 104 = .ok (.iconst 0, 1) := by decide +kernel
theorem dX10_goes_105 : decode cX10_goes 105 = .ok (.ior, 1) := by decide +kernel
theorem dX10_goes_106 : decode cX10_goes 106 = .ok (.istore 8, 2) := by decide +kernel
theorem dX10_goes_108 : decode cX10_goes 108 = .ok (.iinc 9 1, 3) := by decide +kernel
theorem dX10_goes_111 : decode cX10_goes 111 = .ok (.goto (-38), 3) := by decide +kernel
theorem dX10_goes_114 : decode cX10_goes 114 = .ok (.iload_n 3, 1) := by decide +kernel
theorem dX10_goes_115 : decode cX10_goes 115 = .ok (.aload_n 0, 1) := by decide +kernel
theorem dX10_goes_116 : decode cX10_goes 116 = .ok (.iload 8, 2) := by decide +kernel
theorem dX10_goes_118 : decode cX10_goes 118 = .ok (.iload_n 2, 1) := by decide +kernel
theorem dX10_goes_119 : decode cX10_goes 119 = .ok (.invokevirtual 233, 3) := by decide +kernel
theorem dX10_goes_122 : decode cX10_goes 122 = .ok (.iload_n 2, 1) := by decide +kernel
theorem dX10_goes_123 : decode cX10_goes 123 = .ok (.iconst 5, 1) := by decide +kernel
theorem dX10_goes_124 : decode cX10_goes 124 = .ok (.if_icmp .ne 16, 3) := by decide +kernel
theorem dX10_goes_127 : decode cX10_goes 127 = .ok (.iload 5, 2) := by decide +kernel
theorem dX10_goes_129 : decode cX10_goes 129 = .ok (.iconst 2, 1) := by decide +kernel
theorem dX10_goes_130 : decode cX10_goes 130 = .ok (.irem, 1) := by decide +kernel
theorem dX10_goes_131 : decode cX10_goes 131 = .ok (.iconst 1, 1) := by decide +kernel
theorem dX10_goes_132 : decode cX10_goes 132 = .ok (.if_icmp .ne 8, 3) := by decide +kernel
theorem dX10_goes_135 : decode cX10_goes 135 = .ok (.iload 6, 2) := by decide +kernel
theorem dX10_goes_137 : decode cX10_goes 137 = .ok (.goto 4, 3) := by decide +kernel
theorem dX10_goes_140 : decode cX10_goes 140 = .ok (.iconst 0, 1) := by decide +kernel
theorem dX10_goes_141 : decode cX10_goes 141 = .ok (.ior, 1) := by decide +kernel
theorem dX10_goes_142 : decode cX10_goes 142 = .ok (.ior, 1) := by decide +kernel
theorem dX10_goes_143 : decode cX10_goes 143 = .ok (.istore_n 3, 1) := by decide +kernel
theorem dX10_goes_144 : decode cX10_goes 144 = .ok (.iinc 4 1, 3) := by decide +kernel
theorem dX10_goes_147 : decode cX10_goes 147 = .ok (.goto (-142), 3) := by decide +kernel
theorem dX10_goes_150 : decode cX10_goes 150 = .ok (.iload_n 3, 1) := by decide +kernel
theorem dX10_goes_151 : decode cX10_goes 151 = .ok (.ireturn, 1) := by decide +kernel
theorem dX10_walks_0 : decode cX10_walks 0 = .ok (.iconst 0, 1) := by decide +kernel
theorem dX10_walks_1 : decode cX10_walks 1 = .ok (.istore_n 2, 1) := by decide +kernel
theorem dX10_walks_2 : decode cX10_walks 2 = .ok (.iconst 0, 1) := by decide +kernel
theorem dX10_walks_3 : decode cX10_walks 3 = .ok (.istore_n 3, 1) := by decide +kernel
theorem dX10_walks_4 : decode cX10_walks 4 = .ok (.iload_n 3, 1) := by decide +kernel
theorem dX10_walks_5 : decode cX10_walks 5 = .ok (.aload_n 0, 1) := by decide +kernel
theorem dX10_walks_6 : decode cX10_walks 6 = .ok (.getfield 31, 3) := by decide +kernel
theorem dX10_walks_9 : decode cX10_walks 9 = .ok (.iload_n 1, 1) := by decide +kernel
theorem dX10_walks_10 : decode cX10_walks 10 = .ok (.bipush 30, 2) := by decide +kernel
theorem dX10_walks_12 : decode cX10_walks 12 = .ok (.iadd, 1) := by decide +kernel
theorem dX10_walks_13 : decode cX10_walks 13 = .ok (.iaload, 1) := by decide +kernel
theorem dX10_walks_14 : decode cX10_walks 14 = .ok (.if_icmp .ge 88, 3) := by decide +kernel
theorem dX10_walks_17 : decode cX10_walks 17 = .ok (.aload_n 0, 1) := by decide +kernel
theorem dX10_walks_18 : decode cX10_walks 18 = .ok (.getfield 31, 3) := by decide +kernel
theorem dX10_walks_21 : decode cX10_walks 21 = .ok (.iload_n 1, 1) := by decide +kernel
theorem dX10_walks_22 : decode cX10_walks 22 = .ok (.aload_n 0, 1) := by decide +kernel
theorem dX10_walks_23 : decode cX10_walks 23 = .ok (.getfield 31, 3) := by decide +kernel
theorem dX10_walks_26 : decode cX10_walks 26 = .ok (.iload_n 1, 1) := by decide +kernel
theorem dX10_walks_27 : decode cX10_walks 27 = .ok (.bipush 31, 2) := by decide +kernel
theorem dX10_walks_29 : decode cX10_walks 29 = .ok (.iadd, 1) := by decide +kernel
theorem dX10_walks_30 : decode cX10_walks 30 = .ok (.iload_n 3, 1) := by decide +kernel
theorem dX10_walks_31 : decode cX10_walks 31 = .ok (.iadd, 1) := by decide +kernel
theorem dX10_walks_32 : decode cX10_walks 32 = .ok (.iaload, 1) := by decide +kernel
theorem dX10_walks_33 : decode cX10_walks 33 = .ok (.iadd, 1) := by decide +kernel
theorem dX10_walks_34 : decode cX10_walks 34 = .ok (.iaload, 1) := by decide +kernel
theorem dX10_walks_35 : decode cX10_walks 35 = .ok (.istore 4, 2) := by decide +kernel
theorem dX10_walks_37 : decode cX10_walks 37 = .ok (.iload_n 3, 1) := by decide +kernel
theorem dX10_walks_38 : decode cX10_walks 38 = .ok (.ifCond .ne 7, 3) := by decide +kernel
theorem dX10_walks_41 : decode cX10_walks 41 = .ok (.iconst 0, 1) := by decide +kernel
theorem dX10_walks_42 : decode cX10_walks 42 = .ok (.goto 10, 3) := by decide +kernel
theorem dX10_walks_45 : decode cX10_walks 45 = .ok (.aload_n 0, 1) := by decide +kernel
theorem dX10_walks_46 : decode cX10_walks 46 = .ok (.iload_n 2, 1) := by decide +kernel
theorem dX10_walks_47 : decode cX10_walks 47 = .ok (.iload 4, 2) := by decide +kernel
theorem dX10_walks_49 : decode cX10_walks 49 = .ok (.invokevirtual 236, 3) := by decide +kernel
theorem dX10_walks_52 : decode cX10_walks 52 = .ok (.istore 5, 2) := by decide +kernel
theorem dX10_walks_54 : decode cX10_walks 54 = .ok (.aload_n 0, 1) := by decide +kernel
theorem dX10_walks_55 : decode cX10_walks 55 = .ok (.getfield 51, 3) := by decide +kernel
theorem dX10_walks_58 : decode cX10_walks 58 = .ok (.iload_n 3, 1) := by decide +kernel
theorem dX10_walks_59 : decode cX10_walks 59 = .ok (.iload 5, 2) := by decide +kernel
theorem dX10_walks_61 : decode cX10_walks 61 = .ok (.ifCond .ne 7, 3) := by decide +kernel
theorem dX10_walks_64 : decode cX10_walks 64 = .ok (.iconst 1, 1) := by decide +kernel
theorem dX10_walks_65 : decode cX10_walks 65 = .ok (.goto 4, 3) := by decide +kernel
theorem dX10_walks_68 : decode cX10_walks 68 = .ok (.iconst 0, 1) := by decide +kernel
theorem dX10_walks_69 : decode cX10_walks 69 = .ok (.bastore, 1) := by decide +kernel
theorem dX10_walks_70 : decode cX10_walks 70 = .ok (.iload 5, 2) := by decide +kernel
theorem dX10_walks_72 : decode cX10_walks 72 = .ok (.ifCond .ne 12, 3) := by decide +kernel
theorem dX10_walks_75 : decode cX10_walks 75 = .ok (.aload_n 0, 1) := by decide +kernel
theorem dX10_walks_76 : decode cX10_walks 76 = .ok (.iload 4, 2) := by decide +kernel
theorem dX10_walks_78 : decode cX10_walks 78 = .ok (.invokevirtual 239, 3) := by decide +kernel
theorem dX10_walks_81 : decode cX10_walks 81 = .ok (.goto 5, 3) := by decide +kernel
theorem dX10_walks_84 : decode cX10_walks 84 = .ok (.iload 5, 2) := by decide +kernel
theorem dX10_walks_86 : decode cX10_walks 86 = .ok (.istore_n 2, 1) := by decide +kernel
theorem dX10_walks_87 : decode cX10_walks 87 = .ok (.aload_n 0, 1) := by decide +kernel
theorem dX10_walks_88 : decode cX10_walks 88 = .ok (.getfield 48, 3) := by decide +kernel
theorem dX10_walks_91 : decode cX10_walks 91 = .ok (.iload_n 3, 1) := by decide +kernel
theorem dX10_walks_92 : decode cX10_walks 92 = .ok (.iconst 1, 1) := by decide +kernel
theorem dX10_walks_93 : decode cX10_walks 93 = .ok (.iadd, 1) := by decide +kernel
theorem dX10_walks_94 : decode cX10_walks 94 = .ok (.iload_n 2, 1) := by decide +kernel
theorem dX10_walks_95 : decode cX10_walks 95 = .ok (.iastore, 1) := by decide +kernel
theorem dX10_walks_96 : decode cX10_walks 96 = .ok (.iinc 3 1, 3) := by decide +kernel
theorem dX10_walks_99 : decode cX10_walks 99 = .ok (.goto (-95), 3) := by decide +kernel
theorem dX10_walks_102 : decode cX10_walks 102 = .ok (.aload_n 0, 1) := by decide +kernel
theorem dX10_walks_103 : decode cX10_walks 103 = .ok (.getfield 51, 3) := by decide +kernel
theorem dX10_walks_106 : decode cX10_walks 106 = .ok (.aload_n 0, 1) := by decide +kernel
theorem dX10_walks_107 : decode cX10_walks 107 = .ok (.getfield 31, 3) := by decide +kernel
theorem dX10_walks_110 : decode cX10_walks 110 = .ok (.iload_n 1, 1) := by decide +kernel
theorem dX10_walks_111 : decode cX10_walks 111 = .ok (.bipush 30, 2) := by decide +kernel
theorem dX10_walks_113 : decode cX10_walks 113 = .ok (.iadd, 1) := by decide +kernel
theorem dX10_walks_114 : decode cX10_walks 114 = .ok (.iaload, 1) := by decide +kernel
theorem dX10_walks_115 : decode cX10_walks 115 = .ok (.iconst 1, 1) := by decide +kernel
theorem dX10_walks_116 : decode cX10_walks 116 = .ok (.bastore, 1) := by decide +kernel
theorem dX10_walks_117 : decode cX10_walks 117 = .ok (.return_, 1) := by decide +kernel
theorem dX10_pieces_0 : decode cX10_pieces 0 = .ok (.iconst 0, 1) := by decide +kernel
theorem dX10_pieces_1 : decode cX10_pieces 1 = .ok (.istore_n 2, 1) := by decide +kernel
theorem dX10_pieces_2 : decode cX10_pieces 2 = .ok (.iconst 0, 1) := by decide +kernel
theorem dX10_pieces_3 : decode cX10_pieces 3 = .ok (.istore_n 3, 1) := by decide +kernel
theorem dX10_pieces_4 : decode cX10_pieces 4 = .ok (.iload_n 3, 1) := by decide +kernel
theorem dX10_pieces_5 : decode cX10_pieces 5 = .ok (.aload_n 0, 1) := by decide +kernel
theorem dX10_pieces_6 : decode cX10_pieces 6 = .ok (.getfield 31, 3) := by decide +kernel
theorem dX10_pieces_9 : decode cX10_pieces 9 = .ok (.iload_n 1, 1) := by decide +kernel
theorem dX10_pieces_10 : decode cX10_pieces 10 = .ok (.bipush 30, 2) := by decide +kernel
theorem dX10_pieces_12 : decode cX10_pieces 12 = .ok (.iadd, 1) := by decide +kernel
theorem dX10_pieces_13 : decode cX10_pieces 13 = .ok (.iaload, 1) := by decide +kernel
theorem dX10_pieces_14 : decode cX10_pieces 14 = .ok (.if_icmp .ge 26, 3) := by decide +kernel
theorem dX10_pieces_17 : decode cX10_pieces 17 = .ok (.iload_n 2, 1) := by decide +kernel
theorem dX10_pieces_18 : decode cX10_pieces 18 = .ok (.aload_n 0, 1) := by decide +kernel
theorem dX10_pieces_19 : decode cX10_pieces 19 = .ok (.getfield 51, 3) := by decide +kernel
theorem dX10_pieces_22 : decode cX10_pieces 22 = .ok (.iload_n 3, 1) := by decide +kernel
theorem dX10_pieces_23 : decode cX10_pieces 23 = .ok (.baload, 1) := by decide +kernel
theorem dX10_pieces_24 : decode cX10_pieces 24 = .ok (.ifCond .eq 7, 3) := by decide +kernel
theorem dX10_pieces_27 : decode cX10_pieces 27 = .ok (.iconst 1, 1) := by decide +kernel
theorem dX10_pieces_28 : decode cX10_pieces 28 = .ok (.goto 4, 3) := by decide +kernel
theorem dX10_pieces_31 : decode cX10_pieces 31 = .ok (.iconst 0, 1) := by decide +kernel
theorem dX10_pieces_32 : decode cX10_pieces 32 = .ok (.iadd, 1) := by decide +kernel
theorem dX10_pieces_33 : decode cX10_pieces 33 = .ok (.istore_n 2, 1) := by decide +kernel
theorem dX10_pieces_34 : decode cX10_pieces 34 = .ok (.iinc 3 1, 3) := by decide +kernel
theorem dX10_pieces_37 : decode cX10_pieces 37 = .ok (.goto (-33), 3) := by decide +kernel
theorem dX10_pieces_40 : decode cX10_pieces 40 = .ok (.iload_n 2, 1) := by decide +kernel
theorem dX10_pieces_41 : decode cX10_pieces 41 = .ok (.ireturn, 1) := by decide +kernel
theorem dX10_isBoundary_0 : decode cX10_isBoundary 0 = .ok (.aload_n 0, 1) := by decide +kernel
theorem dX10_isBoundary_1 : decode cX10_isBoundary 1 = .ok (.iload_n 1, 1) := by decide +kernel
theorem dX10_isBoundary_2 : decode cX10_isBoundary 2 = .ok (.invokevirtual 209, 3) := by decide +kernel
theorem dX10_isBoundary_5 : decode cX10_isBoundary 5 = .ok (.ifCond .ne 5, 3) := by decide +kernel
theorem dX10_isBoundary_8 : decode cX10_isBoundary 8 = .ok (.iconst (-1), 1) := by decide +kernel
theorem dX10_isBoundary_9 : decode cX10_isBoundary 9 = .ok (.ireturn, 1) := by decide +kernel
theorem dX10_isBoundary_10 : decode cX10_isBoundary 10 = .ok (.aload_n 0, 1) := by decide +kernel
theorem dX10_isBoundary_11 : decode cX10_isBoundary 11 = .ok (.iconst 0, 1) := by decide +kernel
theorem dX10_isBoundary_12 : decode cX10_isBoundary 12 = .ok (.invokevirtual 242, 3) := by decide +kernel
theorem dX10_isBoundary_15 : decode cX10_isBoundary 15 = .ok (.aload_n 0, 1) := by decide +kernel
theorem dX10_isBoundary_16 : decode cX10_isBoundary 16 = .ok (.getfield 51, 3) := by decide +kernel
theorem dX10_isBoundary_19 : decode cX10_isBoundary 19 = .ok (.iload_n 1, 1) := by decide +kernel
theorem dX10_isBoundary_20 : decode cX10_isBoundary 20 = .ok (.baload, 1) := by decide +kernel
theorem dX10_isBoundary_21 : decode cX10_isBoundary 21 = .ok (.ifCond .eq 7, 3) := by decide +kernel
theorem dX10_isBoundary_24 : decode cX10_isBoundary 24 = .ok (.iconst 1, 1) := by decide +kernel
theorem dX10_isBoundary_25 : decode cX10_isBoundary 25 = .ok (.goto 4, 3) := by decide +kernel
theorem dX10_isBoundary_28 : decode cX10_isBoundary 28 = .ok (.iconst 0, 1) := by decide +kernel
theorem dX10_isBoundary_29 : decode cX10_isBoundary 29 = .ok (.ireturn, 1) := by decide +kernel
theorem dX10_boundary_0 : decode cX10_boundary 0 = .ok (.aload_n 0, 1) := by decide +kernel
theorem dX10_boundary_1 : decode cX10_boundary 1 = .ok (.iload_n 1, 1) := by decide +kernel
theorem dX10_boundary_2 : decode cX10_boundary 2 = .ok (.invokevirtual 209, 3) := by decide +kernel
theorem dX10_boundary_5 : decode cX10_boundary 5 = .ok (.ifCond .eq 13, 3) := by decide +kernel
theorem dX10_boundary_8 : decode cX10_boundary 8 = .ok (.iload_n 2, 1) := by decide +kernel
theorem dX10_boundary_9 : decode cX10_boundary 9 = .ok (.i2l, 1) := by decide +kernel
theorem dX10_boundary_10 : decode cX10_boundary 10 = .ok (.lconst 0, 1) := by decide +kernel
theorem dX10_boundary_11 : decode cX10_boundary 11 = .ok (.lconst 1, 1) := by decide +kernel
theorem dX10_boundary_12 : decode cX10_boundary 12 = .ok (.invokestatic 144, 3) := by decide +kernel
theorem dX10_boundary_15 : decode cX10_boundary 15 = .ok (.ifCond .ne 5, 3) := by decide +kernel
theorem dX10_boundary_18 : decode cX10_boundary 18 = .ok (.iconst (-1), 1) := by decide +kernel
theorem dX10_boundary_19 : decode cX10_boundary 19 = .ok (.ireturn, 1) := by decide +kernel
theorem dX10_boundary_20 : decode cX10_boundary 20 = .ok (.aload_n 0, 1) := by decide +kernel
theorem dX10_boundary_21 : decode cX10_boundary 21 = .ok (.iconst 0, 1) := by decide +kernel
theorem dX10_boundary_22 : decode cX10_boundary 22 = .ok (.invokevirtual 242, 3) := by decide +kernel
theorem dX10_boundary_25 : decode cX10_boundary 25 = .ok (.iload_n 2, 1) := by decide +kernel
theorem dX10_boundary_26 : decode cX10_boundary 26 = .ok (.ifCond .ne 7, 3) := by decide +kernel
theorem dX10_boundary_29 : decode cX10_boundary 29 = .ok (.iconst 1, 1) := by decide +kernel
theorem dX10_boundary_30 : decode cX10_boundary 30 = .ok (.goto 4, 3) := by decide +kernel
theorem dX10_boundary_33 : decode cX10_boundary 33 = .ok (.iconst (-1), 1) := by decide +kernel
theorem dX10_boundary_34 : decode cX10_boundary 34 = .ok (.istore_n 3, 1) := by decide +kernel
theorem dX10_boundary_35 : decode cX10_boundary 35 = .ok (.iload_n 1, 1) := by decide +kernel
theorem dX10_boundary_36 : decode cX10_boundary 36 = .ok (.iload_n 3, 1) := by decide +kernel
theorem dX10_boundary_37 : decode cX10_boundary 37 = .ok (.iadd, 1) := by decide +kernel
theorem dX10_boundary_38 : decode cX10_boundary 38 = .ok (.istore 4, 2) := by decide +kernel
theorem dX10_boundary_40 : decode cX10_boundary 40 = .ok (.iload 4, 2) := by decide +kernel
theorem dX10_boundary_42 : decode cX10_boundary 42 = .ok (.i2l, 1) := by decide +kernel
theorem dX10_boundary_43 : decode cX10_boundary 43 = .ok (.lconst 0, 1) := by decide +kernel
theorem dX10_boundary_44 : decode cX10_boundary 44 = .ok (.aload_n 0, 1) := by decide +kernel
theorem dX10_boundary_45 : decode cX10_boundary 45 = .ok (.getfield 31, 3) := by decide +kernel
theorem dX10_boundary_48 : decode cX10_boundary 48 = .ok (.bipush 30, 2) := by decide +kernel
theorem dX10_boundary_50 : decode cX10_boundary 50 = .ok (.iaload, 1) := by decide +kernel
theorem dX10_boundary_51 : decode cX10_boundary 51 = .ok (.i2l, 1) := by decide +kernel
theorem dX10_boundary_52 : decode cX10_boundary 52 = .ok (.invokestatic 144, 3) := by decide +kernel
theorem dX10_boundary_55 : decode cX10_boundary 55 = .ok (.ifCond .eq 25, 3) := by decide +kernel
theorem dX10_boundary_58 : decode cX10_boundary 58 = .ok (.aload_n 0, 1) := by decide +kernel
theorem dX10_boundary_59 : decode cX10_boundary 59 = .ok (.getfield 51, 3) := by decide +kernel
theorem dX10_boundary_62 : decode cX10_boundary 62 = .ok (.iload 4, 2) := by decide +kernel
theorem dX10_boundary_64 : decode cX10_boundary 64 = .ok (.baload, 1) := by decide +kernel
theorem dX10_boundary_65 : decode cX10_boundary 65 = .ok (.ifCond .eq 6, 3) := by decide +kernel
theorem dX10_boundary_68 : decode cX10_boundary 68 = .ok (.iload 4, 2) := by decide +kernel
theorem dX10_boundary_70 : decode cX10_boundary 70 = .ok (.ireturn, 1) := by decide +kernel
theorem dX10_boundary_71 : decode cX10_boundary 71 = .ok (.iload 4, 2) := by decide +kernel
theorem dX10_boundary_73 : decode cX10_boundary 73 = .ok (.iload_n 3, 1) := by decide +kernel
theorem dX10_boundary_74 : decode cX10_boundary 74 = .ok (.iadd, 1) := by decide +kernel
theorem dX10_boundary_75 : decode cX10_boundary 75 = .ok (.istore 4, 2) := by decide +kernel
theorem dX10_boundary_77 : decode cX10_boundary 77 = .ok (.goto (-37), 3) := by decide +kernel
theorem dX10_boundary_80 : decode cX10_boundary 80 = .ok (.bipush (-4), 2) := by decide +kernel
theorem dX10_boundary_82 : decode cX10_boundary 82 = .ok (.ireturn, 1) := by decide +kernel
theorem dX10_stand_0 : decode cX10_stand 0 = .ok (.aload_n 0, 1) := by decide +kernel
theorem dX10_stand_1 : decode cX10_stand 1 = .ok (.iload_n 1, 1) := by decide +kernel
theorem dX10_stand_2 : decode cX10_stand 2 = .ok (.invokevirtual 209, 3) := by decide +kernel
theorem dX10_stand_5 : decode cX10_stand 5 = .ok (.ifCond .ne 5, 3) := by decide +kernel
theorem dX10_stand_8 : decode cX10_stand 8 = .ok (.iconst (-1), 1) := by decide +kernel
theorem dX10_stand_9 : decode cX10_stand 9 = .ok (.ireturn, 1) := by decide +kernel
theorem dX10_stand_10 : decode cX10_stand 10 = .ok (.aload_n 0, 1) := by decide +kernel
theorem dX10_stand_11 : decode cX10_stand 11 = .ok (.iconst 0, 1) := by decide +kernel
theorem dX10_stand_12 : decode cX10_stand 12 = .ok (.invokevirtual 242, 3) := by decide +kernel
theorem dX10_stand_15 : decode cX10_stand 15 = .ok (.iload_n 1, 1) := by decide +kernel
theorem dX10_stand_16 : decode cX10_stand 16 = .ok (.ifCond .ne 8, 3) := by decide +kernel
theorem dX10_stand_19 : decode cX10_stand 19 = .ok (.bipush (-4), 2) := by decide +kernel
theorem dX10_stand_21 : decode cX10_stand 21 = .ok (.goto 9, 3) := by decide +kernel
theorem dX10_stand_24 : decode cX10_stand 24 = .ok (.aload_n 0, 1) := by decide +kernel
theorem dX10_stand_25 : decode cX10_stand 25 = .ok (.getfield 48, 3) := by decide +kernel
theorem dX10_stand_28 : decode cX10_stand 28 = .ok (.iload_n 1, 1) := by decide +kernel
theorem dX10_stand_29 : decode cX10_stand 29 = .ok (.iaload, 1) := by decide +kernel
theorem dX10_stand_30 : decode cX10_stand 30 = .ok (.ireturn, 1) := by decide +kernel
theorem dX10_rulesIn_0 : decode cX10_rulesIn 0 = .ok (.iconst 0, 1) := by decide +kernel
theorem dX10_rulesIn_1 : decode cX10_rulesIn 1 = .ok (.istore_n 3, 1) := by decide +kernel
theorem dX10_rulesIn_2 : decode cX10_rulesIn 2 = .ok (.iconst 0, 1) := by decide +kernel
theorem dX10_rulesIn_3 : decode cX10_rulesIn 3 = .ok (.istore 4, 2) := by decide +kernel
theorem dX10_rulesIn_5 : decode cX10_rulesIn 5 = .ok (.iload 4, 2) := by decide +kernel
theorem dX10_rulesIn_7 : decode cX10_rulesIn 7 = .ok (.aload_n 0, 1) := by decide +kernel
theorem dX10_rulesIn_8 : decode cX10_rulesIn 8 = .ok (.getfield 118, 3) := by decide +kernel
theorem dX10_rulesIn_11 : decode cX10_rulesIn 11 = .ok (.if_icmp .ge 34, 3) := by decide +kernel
theorem dX10_rulesIn_14 : decode cX10_rulesIn 14 = .ok (.iload_n 3, 1) := by decide +kernel
theorem dX10_rulesIn_15 : decode cX10_rulesIn 15 = .ok (.iload_n 1, 1) := by decide +kernel
theorem dX10_rulesIn_16 : decode cX10_rulesIn 16 = .ok (.aload_n 0, 1) := by decide +kernel
theorem dX10_rulesIn_17 : decode cX10_rulesIn 17 = .ok (.getfield 7, 3) := by decide +kernel
theorem dX10_rulesIn_20 : decode cX10_rulesIn 20 = .ok (.iload_n 2, 1) := by decide +kernel
theorem dX10_rulesIn_21 : decode cX10_rulesIn 21 = .ok (.iload 4, 2) := by decide +kernel
theorem dX10_rulesIn_23 : decode cX10_rulesIn 23 = .ok (.iadd, 1) := by decide +kernel
theorem dX10_rulesIn_24 : decode cX10_rulesIn 24 = .ok (.iaload, 1) := by decide +kernel
theorem dX10_rulesIn_25 : decode cX10_rulesIn 25 = .ok (.iand, 1) := by decide +kernel
theorem dX10_rulesIn_26 : decode cX10_rulesIn 26 = .ok (.ifCond .eq 10, 3) := by decide +kernel
theorem dX10_rulesIn_29 : decode cX10_rulesIn 29 = .ok (.iconst 1, 1) := by decide +kernel
theorem dX10_rulesIn_30 : decode cX10_rulesIn 30 = .ok (.iload 4, 2) := by decide +kernel
theorem dX10_rulesIn_32 : decode cX10_rulesIn 32 = .ok (.ishl, 1) := by decide +kernel
theorem dX10_rulesIn_33 : decode cX10_rulesIn 33 = .ok (.goto 4, 3) := by decide +kernel
theorem dX10_rulesIn_36 : decode cX10_rulesIn 36 = .ok (.iconst 0, 1) := by decide +kernel
theorem dX10_rulesIn_37 : decode cX10_rulesIn 37 = .ok (.ior, 1) := by decide +kernel
theorem dX10_rulesIn_38 : decode cX10_rulesIn 38 = .ok (.istore_n 3, 1) := by decide +kernel
theorem dX10_rulesIn_39 : decode cX10_rulesIn 39 = .ok (.iinc 4 1, 3) := by decide +kernel
theorem dX10_rulesIn_42 : decode cX10_rulesIn 42 = .ok (.goto (-37), 3) := by decide +kernel
theorem dX10_rulesIn_45 : decode cX10_rulesIn 45 = .ok (.iload_n 3, 1) := by decide +kernel
theorem dX10_rulesIn_46 : decode cX10_rulesIn 46 = .ok (.ireturn, 1) := by decide +kernel
theorem dX10_piece_0 : decode cX10_piece 0 = .ok (.aload_n 0, 1) := by decide +kernel
theorem dX10_piece_1 : decode cX10_piece 1 = .ok (.iconst 0, 1) := by decide +kernel
theorem dX10_piece_2 : decode cX10_piece 2 = .ok (.invokevirtual 242, 3) := by decide +kernel
theorem dX10_piece_5 : decode cX10_piece 5 = .ok (.iload_n 1, 1) := by decide +kernel
theorem dX10_piece_6 : decode cX10_piece 6 = .ok (.i2l, 1) := by decide +kernel
theorem dX10_piece_7 : decode cX10_piece 7 = .ok (.lconst 0, 1) := by decide +kernel
theorem dX10_piece_8 : decode cX10_piece 8 = .ok (.aload_n 0, 1) := by decide +kernel
theorem dX10_piece_9 : decode cX10_piece 9 = .ok (.iconst 0, 1) := by decide +kernel
theorem dX10_piece_10 : decode cX10_piece 10 = .ok (.invokevirtual 245, 3) := by decide +kernel
theorem dX10_piece_13 : decode cX10_piece 13 = .ok (.iconst 1, 1) := by decide +kernel
theorem dX10_piece_14 : decode cX10_piece 14 = .ok (.isub, 1) := by decide +kernel
theorem dX10_piece_15 : decode cX10_piece 15 = .ok (.i2l, 1) := by decide +kernel
theorem dX10_piece_16 : decode cX10_piece 16 = .ok (.invokestatic 144, 3) := by decide +kernel
theorem dX10_piece_19 : decode cX10_piece 19 = .ok (.ifCond .eq 15, 3) := by decide +kernel
theorem dX10_piece_22 : decode cX10_piece 22 = .ok (.iload_n 2, 1) := by decide +kernel
theorem dX10_piece_23 : decode cX10_piece 23 = .ok (.i2l, 1) := by decide +kernel
theorem dX10_piece_24 : decode cX10_piece 24 = .ok (.lconst 0, 1) := by decide +kernel
theorem dX10_piece_25 : decode cX10_piece 25 = .ok (.ldc2_w 205, 3) := by decide +kernel
theorem dX10_piece_28 : decode cX10_piece 28 = .ok (.invokestatic 144, 3) := by decide +kernel
theorem dX10_piece_31 : decode cX10_piece 31 = .ok (.ifCond .ne 5, 3) := by decide +kernel
theorem dX10_piece_34 : decode cX10_piece 34 = .ok (.iconst (-1), 1) := by decide +kernel
theorem dX10_piece_35 : decode cX10_piece 35 = .ok (.ireturn, 1) := by decide +kernel
theorem dX10_piece_36 : decode cX10_piece 36 = .ok (.iconst (-1), 1) := by decide +kernel
theorem dX10_piece_37 : decode cX10_piece 37 = .ok (.istore_n 3, 1) := by decide +kernel
theorem dX10_piece_38 : decode cX10_piece 38 = .ok (.iconst 0, 1) := by decide +kernel
theorem dX10_piece_39 : decode cX10_piece 39 = .ok (.istore 4, 2) := by decide +kernel
theorem dX10_piece_41 : decode cX10_piece 41 = .ok (.iload_n 3, 1) := by decide +kernel
theorem dX10_piece_42 : decode cX10_piece 42 = .ok (.iload_n 1, 1) := by decide +kernel
theorem dX10_piece_43 : decode cX10_piece 43 = .ok (.if_icmp .ge 27, 3) := by decide +kernel
theorem dX10_piece_46 : decode cX10_piece 46 = .ok (.iload_n 3, 1) := by decide +kernel
theorem dX10_piece_47 : decode cX10_piece 47 = .ok (.aload_n 0, 1) := by decide +kernel
theorem dX10_piece_48 : decode cX10_piece 48 = .ok (.getfield 51, 3) := by decide +kernel
theorem dX10_piece_51 : decode cX10_piece 51 = .ok (.iload 4, 2) := by decide +kernel
theorem dX10_piece_53 : decode cX10_piece 53 = .ok (.baload, 1) := by decide +kernel
theorem dX10_piece_54 : decode cX10_piece 54 = .ok (.ifCond .eq 7, 3) := by decide +kernel
theorem dX10_piece_57 : decode cX10_piece 57 = .ok (.iconst 1, 1) := by decide +kernel
theorem dX10_piece_58 : decode cX10_piece 58 = .ok (.goto 4, 3) := by decide +kernel
theorem dX10_piece_61 : decode cX10_piece 61 = .ok (.iconst 0, 1) := by decide +kernel
theorem dX10_piece_62 : decode cX10_piece 62 = .ok (.iadd, 1) := by decide +kernel
theorem dX10_piece_63 : decode cX10_piece 63 = .ok (.istore_n 3, 1) := by decide +kernel
theorem dX10_piece_64 : decode cX10_piece 64 = .ok (.iinc 4 1, 3) := by decide +kernel
theorem dX10_piece_67 : decode cX10_piece 67 = .ok (.goto (-26), 3) := by decide +kernel
theorem dX10_piece_70 : decode cX10_piece 70 = .ok (.iinc 4 (-1), 3) := by decide +kernel
theorem dX10_piece_73 : decode cX10_piece 73 = .ok (.iload 4, 2) := by decide +kernel
theorem dX10_piece_75 : decode cX10_piece 75 = .ok (.iconst 1, 1) := by decide +kernel
theorem dX10_piece_76 : decode cX10_piece 76 = .ok (.iadd, 1) := by decide +kernel
theorem dX10_piece_77 : decode cX10_piece 77 = .ok (.istore 5, 2) := by decide +kernel
theorem dX10_piece_79 : decode cX10_piece 79 = .ok (.aload_n 0, 1) := by decide +kernel
theorem dX10_piece_80 : decode cX10_piece 80 = .ok (.getfield 51, 3) := by decide +kernel
theorem dX10_piece_83 : decode cX10_piece 83 = .ok (.iload 5, 2) := by decide +kernel
theorem dX10_piece_85 : decode cX10_piece 85 = .ok (.baload, 1) := by decide +kernel
theorem dX10_piece_86 : decode cX10_piece 86 = .ok (.ifCond .ne 9, 3) := by decide +kernel
theorem dX10_piece_89 : decode cX10_piece 89 = .ok (.iinc 5 1, 3) := by decide +kernel
theorem dX10_piece_92 : decode cX10_piece 92 = .ok (.goto (-13), 3) := by decide +kernel
theorem dX10_piece_95 : decode cX10_piece 95 = .ok (.iload_n 2, 1) := by decide +kernel
theorem dX10_piece_96 : decode cX10_piece 96 = .ok (.ifCond .ne 8, 3) := by decide +kernel
theorem dX10_piece_99 : decode cX10_piece 99 = .ok (.iload 4, 2) := by decide +kernel
theorem dX10_piece_101 : decode cX10_piece 101 = .ok (.goto 38, 3) := by decide +kernel
theorem dX10_piece_104 : decode cX10_piece 104 = .ok (.iload_n 2, 1) := by decide +kernel
theorem dX10_piece_105 : decode cX10_piece 105 = .ok (.iconst 1, 1) := by decide +kernel
theorem dX10_piece_106 : decode cX10_piece 106 = .ok (.if_icmp .ne 11, 3) := by decide +kernel
theorem dX10_piece_109 : decode cX10_piece 109 = .ok (.iload 5, 2) := by decide +kernel
theorem dX10_piece_111 : decode cX10_piece 111 = .ok (.iload 4, 2) := by decide +kernel
theorem dX10_piece_113 : decode cX10_piece 113 = .ok (.isub, 1) := by decide +kernel
