theorem dX0_init_0 : decode cX0_init 0 = .ok (.aload_n 0, 1) := by decide +kernel
theorem dX0_init_1 : decode cX0_init 1 = .ok (.invokespecial 3, 3) := by decide +kernel
theorem dX0_init_4 : decode cX0_init 4 = .ok (.aload_n 0, 1) := by decide +kernel
theorem dX0_init_5 : decode cX0_init 5 = .ok (.bipush 8, 2) := by decide +kernel
theorem dX0_init_7 : decode cX0_init 7 = .ok (.newarray .int, 2) := by decide +kernel
theorem dX0_init_9 : decode cX0_init 9 = .ok (.putfield 9, 3) := by decide +kernel
theorem dX0_init_12 : decode cX0_init 12 = .ok (.aload_n 0, 1) := by decide +kernel
theorem dX0_init_13 : decode cX0_init 13 = .ok (.bipush 8, 2) := by decide +kernel
theorem dX0_init_15 : decode cX0_init 15 = .ok (.newarray .int, 2) := by decide +kernel
theorem dX0_init_17 : decode cX0_init 17 = .ok (.putfield 15, 3) := by decide +kernel
theorem dX0_init_20 : decode cX0_init 20 = .ok (.aload_n 0, 1) := by decide +kernel
theorem dX0_init_21 : decode cX0_init 21 = .ok (.bipush 8, 2) := by decide +kernel
theorem dX0_init_23 : decode cX0_init 23 = .ok (.newarray .int, 2) := by decide +kernel
theorem dX0_init_25 : decode cX0_init 25 = .ok (.putfield 18, 3) := by decide +kernel
theorem dX0_init_28 : decode cX0_init 28 = .ok (.return_, 1) := by decide +kernel
theorem dX0_number_0 : decode cX0_number 0 = .ok (.aload_n 0, 1) := by decide +kernel
theorem dX0_number_1 : decode cX0_number 1 = .ok (.getfield 21, 3) := by decide +kernel
theorem dX0_number_4 : decode cX0_number 4 = .ok (.ireturn, 1) := by decide +kernel
theorem dX0_forget_0 : decode cX0_forget 0 = .ok (.aload_n 0, 1) := by decide +kernel
theorem dX0_forget_1 : decode cX0_forget 1 = .ok (.iconst 0, 1) := by decide +kernel
theorem dX0_forget_2 : decode cX0_forget 2 = .ok (.putfield 21, 3) := by decide +kernel
theorem dX0_forget_5 : decode cX0_forget 5 = .ok (.return_, 1) := by decide +kernel
theorem dX0_note_0 : decode cX0_note 0 = .ok (.aload_n 0, 1) := by decide +kernel
theorem dX0_note_1 : decode cX0_note 1 = .ok (.getfield 21, 3) := by decide +kernel
theorem dX0_note_4 : decode cX0_note 4 = .ok (.bipush 8, 2) := by decide +kernel
theorem dX0_note_6 : decode cX0_note 6 = .ok (.if_icmp .lt 7, 3) := by decide +kernel
theorem dX0_note_9 : decode cX0_note 9 = .ok (.aload_n 0, 1) := by decide +kernel
theorem dX0_note_10 : decode cX0_note 10 = .ok (.invokevirtual 25, 3) := by decide +kernel
theorem dX0_note_13 : decode cX0_note 13 = .ok (.aload_n 0, 1) := by decide +kernel
theorem dX0_note_14 : decode cX0_note 14 = .ok (.getfield 9, 3) := by decide +kernel
theorem dX0_note_17 : decode cX0_note 17 = .ok (.aload_n 0, 1) := by decide +kernel
theorem dX0_note_18 : decode cX0_note 18 = .ok (.getfield 21, 3) := by decide +kernel
theorem dX0_note_21 : decode cX0_note 21 = .ok (.iload_n 1, 1) := by decide +kernel
theorem dX0_note_22 : decode cX0_note 22 = .ok (.iastore, 1) := by decide +kernel
theorem dX0_note_23 : decode cX0_note 23 = .ok (.aload_n 0, 1) := by decide +kernel
theorem dX0_note_24 : decode cX0_note 24 = .ok (.getfield 15, 3) := by decide +kernel
theorem dX0_note_27 : decode cX0_note 27 = .ok (.aload_n 0, 1) := by decide +kernel
theorem dX0_note_28 : decode cX0_note 28 = .ok (.getfield 21, 3) := by decide +kernel
theorem dX0_note_31 : decode cX0_note 31 = .ok (.iload_n 2, 1) := by decide +kernel
theorem dX0_note_32 : decode cX0_note 32 = .ok (.iastore, 1) := by decide +kernel
theorem dX0_note_33 : decode cX0_note 33 = .ok (.aload_n 0, 1) := by decide +kernel
theorem dX0_note_34 : decode cX0_note 34 = .ok (.getfield 18, 3) := by decide +kernel
theorem dX0_note_37 : decode cX0_note 37 = .ok (.aload_n 0, 1) := by decide +kernel
theorem dX0_note_38 : decode cX0_note 38 = .ok (.getfield 21, 3) := by decide +kernel
theorem dX0_note_41 : decode cX0_note 41 = .ok (.iload_n 3, 1) := by decide +kernel
theorem dX0_note_42 : decode cX0_note 42 = .ok (.iastore, 1) := by decide +kernel
theorem dX0_note_43 : decode cX0_note 43 = .ok (.aload_n 0, 1) := by decide +kernel
theorem dX0_note_44 : decode cX0_note 44 = .ok (.dup, 1) := by decide +kernel
theorem dX0_note_45 : decode cX0_note 45 = .ok (.getfield 21, 3) := by decide +kernel
theorem dX0_note_48 : decode cX0_note 48 = .ok (.iconst 1, 1) := by decide +kernel
theorem dX0_note_49 : decode cX0_note 49 = .ok (.iadd, 1) := by decide +kernel
theorem dX0_note_50 : decode cX0_note 50 = .ok (.putfield 21, 3) := by decide +kernel
theorem dX0_note_53 : decode cX0_note 53 = .ok (.return_, 1) := by decide +kernel
theorem dX0_dropOldest_0 : decode cX0_dropOldest 0 = .ok (.aload_n 0, 1) := by decide +kernel
theorem dX0_dropOldest_1 : decode cX0_dropOldest 1 = .ok (.bipush 7, 2) := by decide +kernel
theorem dX0_dropOldest_3 : decode cX0_dropOldest 3 = .ok (.putfield 21, 3) := by decide +kernel
theorem dX0_dropOldest_6 : decode cX0_dropOldest 6 = .ok (.aload_n 0, 1) := by decide +kernel
theorem dX0_dropOldest_7 : decode cX0_dropOldest 7 = .ok (.getfield 9, 3) := by decide +kernel
theorem dX0_dropOldest_10 : decode cX0_dropOldest 10 = .ok (.iconst 1, 1) := by decide +kernel
theorem dX0_dropOldest_11 : decode cX0_dropOldest 11 = .ok (.aload_n 0, 1) := by decide +kernel
theorem dX0_dropOldest_12 : decode cX0_dropOldest 12 = .ok (.getfield 9, 3) := by decide +kernel
theorem dX0_dropOldest_15 : decode cX0_dropOldest 15 = .ok (.iconst 0, 1) := by decide +kernel
theorem dX0_dropOldest_16 : decode cX0_dropOldest 16 = .ok (.aload_n 0, 1) := by decide +kernel
theorem dX0_dropOldest_17 : decode cX0_dropOldest 17 = .ok (.getfield 21, 3) := by decide +kernel
theorem dX0_dropOldest_20 : decode cX0_dropOldest 20 = .ok (.invokestatic 28, 3) := by decide +kernel
theorem dX0_dropOldest_23 : decode cX0_dropOldest 23 = .ok (.aload_n 0, 1) := by decide +kernel
theorem dX0_dropOldest_24 : decode cX0_dropOldest 24 = .ok (.getfield 15, 3) := by decide +kernel
theorem dX0_dropOldest_27 : decode cX0_dropOldest 27 = .ok (.iconst 1, 1) := by decide +kernel
theorem dX0_dropOldest_28 : decode cX0_dropOldest 28 = .ok (.aload_n 0, 1) := by decide +kernel
theorem dX0_dropOldest_29 : decode cX0_dropOldest 29 = .ok (.getfield 15, 3) := by decide +kernel
theorem dX0_dropOldest_32 : decode cX0_dropOldest 32 = .ok (.iconst 0, 1) := by decide +kernel
theorem dX0_dropOldest_33 : decode cX0_dropOldest 33 = .ok (.aload_n 0, 1) := by decide +kernel
theorem dX0_dropOldest_34 : decode cX0_dropOldest 34 = .ok (.getfield 21, 3) := by decide +kernel
theorem dX0_dropOldest_37 : decode cX0_dropOldest 37 = .ok (.invokestatic 28, 3) := by decide +kernel
theorem dX0_dropOldest_40 : decode cX0_dropOldest 40 = .ok (.aload_n 0, 1) := by decide +kernel
theorem dX0_dropOldest_41 : decode cX0_dropOldest 41 = .ok (.getfield 18, 3) := by decide +kernel
theorem dX0_dropOldest_44 : decode cX0_dropOldest 44 = .ok (.iconst 1, 1) := by decide +kernel
theorem dX0_dropOldest_45 : decode cX0_dropOldest 45 = .ok (.aload_n 0, 1) := by decide +kernel
theorem dX0_dropOldest_46 : decode cX0_dropOldest 46 = .ok (.getfield 18, 3) := by decide +kernel
theorem dX0_dropOldest_49 : decode cX0_dropOldest 49 = .ok (.iconst 0, 1) := by decide +kernel
theorem dX0_dropOldest_50 : decode cX0_dropOldest 50 = .ok (.aload_n 0, 1) := by decide +kernel
theorem dX0_dropOldest_51 : decode cX0_dropOldest 51 = .ok (.getfield 21, 3) := by decide +kernel
theorem dX0_dropOldest_54 : decode cX0_dropOldest 54 = .ok (.invokestatic 28, 3) := by decide +kernel
theorem dX0_dropOldest_57 : decode cX0_dropOldest 57 = .ok (.return_, 1) := by decide +kernel
theorem dX0_takeBackFrom_0 : decode cX0_takeBackFrom 0 = .ok (.aload_n 0, 1) := by decide +kernel
theorem dX0_takeBackFrom_1 : decode cX0_takeBackFrom 1 = .ok (.getfield 21, 3) := by decide +kernel
theorem dX0_takeBackFrom_4 : decode cX0_takeBackFrom 4 = .ok (.ifCond .gt 5, 3) := by decide +kernel
theorem dX0_takeBackFrom_7 : decode cX0_takeBackFrom 7 = .ok (.iconst 0, 1) := by decide +kernel
theorem dX0_takeBackFrom_8 : decode cX0_takeBackFrom 8 = .ok (.ireturn, 1) := by decide +kernel
theorem dX0_takeBackFrom_9 : decode cX0_takeBackFrom 9 = .ok (.aload_n 0, 1) := by decide +kernel
theorem dX0_takeBackFrom_10 : decode cX0_takeBackFrom 10 = .ok (.dup, 1) := by decide +kernel
theorem dX0_takeBackFrom_11 : decode cX0_takeBackFrom 11 = .ok (.getfield 21, 3) := by decide +kernel
theorem dX0_takeBackFrom_14 : decode cX0_takeBackFrom 14 = .ok (.iconst 1, 1) := by decide +kernel
theorem dX0_takeBackFrom_15 : decode cX0_takeBackFrom 15 = .ok (.isub, 1) := by decide +kernel
theorem dX0_takeBackFrom_16 : decode cX0_takeBackFrom 16 = .ok (.putfield 21, 3) := by decide +kernel
theorem dX0_takeBackFrom_19 : decode cX0_takeBackFrom 19 = .ok (.aload_n 0, 1) := by decide +kernel
theorem dX0_takeBackFrom_20 : decode cX0_takeBackFrom 20 = .ok (.getfield 15, 3) := by decide +kernel
theorem dX0_takeBackFrom_23 : decode cX0_takeBackFrom 23 = .ok (.aload_n 0, 1) := by decide +kernel
theorem dX0_takeBackFrom_24 : decode cX0_takeBackFrom 24 = .ok (.getfield 21, 3) := by decide +kernel
theorem dX0_takeBackFrom_27 : decode cX0_takeBackFrom 27 = .ok (.iaload, 1) := by decide +kernel
theorem dX0_takeBackFrom_28 : decode cX0_takeBackFrom 28 = .ok (.istore_n 2, 1) := by decide +kernel
theorem dX0_takeBackFrom_29 : decode cX0_takeBackFrom 29 = .ok (.aload_n 0, 1) := by decide +kernel
theorem dX0_takeBackFrom_30 : decode cX0_takeBackFrom 30 = .ok (.getfield 18, 3) := by decide +kernel
theorem dX0_takeBackFrom_33 : decode cX0_takeBackFrom 33 = .ok (.aload_n 0, 1) := by decide +kernel
theorem dX0_takeBackFrom_34 : decode cX0_takeBackFrom 34 = .ok (.getfield 21, 3) := by decide +kernel
theorem dX0_takeBackFrom_37 : decode cX0_takeBackFrom 37 = .ok (.iaload, 1) := by decide +kernel
theorem dX0_takeBackFrom_38 : decode cX0_takeBackFrom 38 = .ok (.istore_n 3, 1) := by decide +kernel
theorem dX0_takeBackFrom_39 : decode cX0_takeBackFrom 39 = .ok (.aload_n 0, 1) := by decide +kernel
theorem dX0_takeBackFrom_40 : decode cX0_takeBackFrom 40 = .ok (.getfield 9, 3) := by decide +kernel
theorem dX0_takeBackFrom_43 : decode cX0_takeBackFrom 43 = .ok (.aload_n 0, 1) := by decide +kernel
theorem dX0_takeBackFrom_44 : decode cX0_takeBackFrom 44 = .ok (.getfield 21, 3) := by decide +kernel
theorem dX0_takeBackFrom_47 : decode cX0_takeBackFrom 47 = .ok (.iaload, 1) := by decide +kernel
theorem dX0_takeBackFrom_48 : decode cX0_takeBackFrom 48 = .ok (.tableswitch 51 0 2 #[28, 35, 43], 28) := by decide +kernel
theorem dX0_takeBackFrom_76 : decode cX0_takeBackFrom 76 = .ok (.aload_n 1, 1) := by decide +kernel
theorem dX0_takeBackFrom_77 : decode cX0_takeBackFrom 77 = .ok (.iload_n 2, 1) := by decide +kernel
theorem dX0_takeBackFrom_78 : decode cX0_takeBackFrom 78 = .ok (.invokevirtual 34, 3) := by decide +kernel
theorem dX0_takeBackFrom_81 : decode cX0_takeBackFrom 81 = .ok (.iconst 0, 1) := by decide +kernel
theorem dX0_takeBackFrom_82 : decode cX0_takeBackFrom 82 = .ok (.ireturn, 1) := by decide +kernel
theorem dX0_takeBackFrom_83 : decode cX0_takeBackFrom 83 = .ok (.aload_n 1, 1) := by decide +kernel
theorem dX0_takeBackFrom_84 : decode cX0_takeBackFrom 84 = .ok (.iload_n 2, 1) := by decide +kernel
theorem dX0_takeBackFrom_85 : decode cX0_takeBackFrom 85 = .ok (.iload_n 3, 1) := by decide +kernel
theorem dX0_takeBackFrom_86 : decode cX0_takeBackFrom 86 = .ok (.invokevirtual 40, 3) := by decide +kernel
theorem dX0_takeBackFrom_89 : decode cX0_takeBackFrom 89 = .ok (.iconst 0, 1) := by decide +kernel
theorem dX0_takeBackFrom_90 : decode cX0_takeBackFrom 90 = .ok (.ireturn, 1) := by decide +kernel
theorem dX0_takeBackFrom_91 : decode cX0_takeBackFrom 91 = .ok (.aload_n 1, 1) := by decide +kernel
theorem dX0_takeBackFrom_92 : decode cX0_takeBackFrom 92 = .ok (.iload_n 2, 1) := by decide +kernel
theorem dX0_takeBackFrom_93 : decode cX0_takeBackFrom 93 = .ok (.iload_n 3, 1) := by decide +kernel
theorem dX0_takeBackFrom_94 : decode cX0_takeBackFrom 94 = .ok (.invokevirtual 44, 3) := by decide +kernel
theorem dX0_takeBackFrom_97 : decode cX0_takeBackFrom 97 = .ok (.iconst 0, 1) := by decide +kernel
theorem dX0_takeBackFrom_98 : decode cX0_takeBackFrom 98 = .ok (.ireturn, 1) := by decide +kernel
theorem dX0_takeBackFrom_99 : decode cX0_takeBackFrom 99 = .ok (.aload_n 1, 1) := by decide +kernel
theorem dX0_takeBackFrom_100 : decode cX0_takeBackFrom 100 = .ok (.iload_n 2, 1) := by decide +kernel
theorem dX0_takeBackFrom_101 : decode cX0_takeBackFrom 101 = .ok (.iload_n 3, 1) := by decide +kernel
theorem dX0_takeBackFrom_102 : decode cX0_takeBackFrom 102 = .ok (.invokevirtual 47, 3) := by decide +kernel
theorem dX0_takeBackFrom_105 : decode cX0_takeBackFrom 105 = .ok (.iconst 1, 1) := by decide +kernel
theorem dX0_takeBackFrom_106 : decode cX0_takeBackFrom 106 = .ok (.ireturn, 1) := by decide +kernel
