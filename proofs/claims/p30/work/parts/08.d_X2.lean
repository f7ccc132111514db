theorem dX2_init_0 : decode cX2_init 0 = .ok (.aload_n 0, 1) := by decide +kernel
theorem dX2_init_1 : decode cX2_init 1 = .ok (.invokespecial 3, 3) := by decide +kernel
theorem dX2_init_4 : decode cX2_init 4 = .ok (.aload_n 0, 1) := by decide +kernel
theorem dX2_init_5 : decode cX2_init 5 = .ok (.bipush 16, 2) := by decide +kernel
theorem dX2_init_7 : decode cX2_init 7 = .ok (.newarray .int, 2) := by decide +kernel
theorem dX2_init_9 : decode cX2_init 9 = .ok (.putfield 9, 3) := by decide +kernel
theorem dX2_init_12 : decode cX2_init 12 = .ok (.aload_n 0, 1) := by decide +kernel
theorem dX2_init_13 : decode cX2_init 13 = .ok (.bipush 16, 2) := by decide +kernel
theorem dX2_init_15 : decode cX2_init 15 = .ok (.newarray .int, 2) := by decide +kernel
theorem dX2_init_17 : decode cX2_init 17 = .ok (.putfield 15, 3) := by decide +kernel
theorem dX2_init_20 : decode cX2_init 20 = .ok (.aload_n 0, 1) := by decide +kernel
theorem dX2_init_21 : decode cX2_init 21 = .ok (.bipush 16, 2) := by decide +kernel
theorem dX2_init_23 : decode cX2_init 23 = .ok (.newarray .boolean, 2) := by decide +kernel
theorem dX2_init_25 : decode cX2_init 25 = .ok (.putfield 18, 3) := by decide +kernel
theorem dX2_init_28 : decode cX2_init 28 = .ok (.return_, 1) := by decide +kernel
theorem dX2_clear_0 : decode cX2_clear 0 = .ok (.aload_n 0, 1) := by decide +kernel
theorem dX2_clear_1 : decode cX2_clear 1 = .ok (.iconst 0, 1) := by decide +kernel
theorem dX2_clear_2 : decode cX2_clear 2 = .ok (.putfield 22, 3) := by decide +kernel
theorem dX2_clear_5 : decode cX2_clear 5 = .ok (.return_, 1) := by decide +kernel
theorem dX2_push_0 : decode cX2_push 0 = .ok (.aload_n 0, 1) := by decide +kernel
theorem dX2_push_1 : decode cX2_push 1 = .ok (.getfield 22, 3) := by decide +kernel
theorem dX2_push_4 : decode cX2_push 4 = .ok (.bipush 16, 2) := by decide +kernel
theorem dX2_push_6 : decode cX2_push 6 = .ok (.if_icmp .ge 43, 3) := by decide +kernel
theorem dX2_push_9 : decode cX2_push 9 = .ok (.aload_n 0, 1) := by decide +kernel
theorem dX2_push_10 : decode cX2_push 10 = .ok (.getfield 9, 3) := by decide +kernel
theorem dX2_push_13 : decode cX2_push 13 = .ok (.aload_n 0, 1) := by decide +kernel
theorem dX2_push_14 : decode cX2_push 14 = .ok (.getfield 22, 3) := by decide +kernel
theorem dX2_push_17 : decode cX2_push 17 = .ok (.iload_n 1, 1) := by decide +kernel
theorem dX2_push_18 : decode cX2_push 18 = .ok (.iastore, 1) := by decide +kernel
theorem dX2_push_19 : decode cX2_push 19 = .ok (.aload_n 0, 1) := by decide +kernel
theorem dX2_push_20 : decode cX2_push 20 = .ok (.getfield 15, 3) := by decide +kernel
theorem dX2_push_23 : decode cX2_push 23 = .ok (.aload_n 0, 1) := by decide +kernel
theorem dX2_push_24 : decode cX2_push 24 = .ok (.getfield 22, 3) := by decide +kernel
theorem dX2_push_27 : decode cX2_push 27 = .ok (.iload_n 2, 1) := by decide +kernel
theorem dX2_push_28 : decode cX2_push 28 = .ok (.iastore, 1) := by decide +kernel
theorem dX2_push_29 : decode cX2_push 29 = .ok (.aload_n 0, 1) := by decide +kernel
theorem dX2_push_30 : decode cX2_push 30 = .ok (.getfield 18, 3) := by decide +kernel
theorem dX2_push_33 : decode cX2_push 33 = .ok (.aload_n 0, 1) := by decide +kernel
theorem dX2_push_34 : decode cX2_push 34 = .ok (.getfield 22, 3) := by decide +kernel
theorem dX2_push_37 : decode cX2_push 37 = .ok (.iload_n 3, 1) := by decide +kernel
theorem dX2_push_38 : decode cX2_push 38 = .ok (.bastore, 1) := by decide +kernel
theorem dX2_push_39 : decode cX2_push 39 = .ok (.aload_n 0, 1) := by decide +kernel
theorem dX2_push_40 : decode cX2_push 40 = .ok (.dup, 1) := by decide +kernel
theorem dX2_push_41 : decode cX2_push 41 = .ok (.getfield 22, 3) := by decide +kernel
theorem dX2_push_44 : decode cX2_push 44 = .ok (.iconst 1, 1) := by decide +kernel
theorem dX2_push_45 : decode cX2_push 45 = .ok (.iadd, 1) := by decide +kernel
theorem dX2_push_46 : decode cX2_push 46 = .ok (.putfield 22, 3) := by decide +kernel
theorem dX2_push_49 : decode cX2_push 49 = .ok (.return_, 1) := by decide +kernel
theorem dX2_pop_0 : decode cX2_pop 0 = .ok (.aload_n 0, 1) := by decide +kernel
theorem dX2_pop_1 : decode cX2_pop 1 = .ok (.getfield 22, 3) := by decide +kernel
theorem dX2_pop_4 : decode cX2_pop 4 = .ok (.ifCond .le 13, 3) := by decide +kernel
theorem dX2_pop_7 : decode cX2_pop 7 = .ok (.aload_n 0, 1) := by decide +kernel
theorem dX2_pop_8 : decode cX2_pop 8 = .ok (.dup, 1) := by decide +kernel
theorem dX2_pop_9 : decode cX2_pop 9 = .ok (.getfield 22, 3) := by decide +kernel
theorem dX2_pop_12 : decode cX2_pop 12 = .ok (.iconst 1, 1) := by decide +kernel
theorem dX2_pop_13 : decode cX2_pop 13 = .ok (.isub, 1) := by decide +kernel
theorem dX2_pop_14 : decode cX2_pop 14 = .ok (.putfield 22, 3) := by decide +kernel
theorem dX2_pop_17 : decode cX2_pop 17 = .ok (.return_, 1) := by decide +kernel
theorem dX2_first_0 : decode cX2_first 0 = .ok (.aload_n 0, 1) := by decide +kernel
theorem dX2_first_1 : decode cX2_first 1 = .ok (.getfield 22, 3) := by decide +kernel
theorem dX2_first_4 : decode cX2_first 4 = .ok (.ifCond .le 17, 3) := by decide +kernel
theorem dX2_first_7 : decode cX2_first 7 = .ok (.aload_n 0, 1) := by decide +kernel
theorem dX2_first_8 : decode cX2_first 8 = .ok (.getfield 9, 3) := by decide +kernel
theorem dX2_first_11 : decode cX2_first 11 = .ok (.aload_n 0, 1) := by decide +kernel
theorem dX2_first_12 : decode cX2_first 12 = .ok (.getfield 22, 3) := by decide +kernel
theorem dX2_first_15 : decode cX2_first 15 = .ok (.iconst 1, 1) := by decide +kernel
theorem dX2_first_16 : decode cX2_first 16 = .ok (.isub, 1) := by decide +kernel
theorem dX2_first_17 : decode cX2_first 17 = .ok (.iaload, 1) := by decide +kernel
theorem dX2_first_18 : decode cX2_first 18 = .ok (.goto 4, 3) := by decide +kernel
theorem dX2_first_21 : decode cX2_first 21 = .ok (.iconst 0, 1) := by decide +kernel
theorem dX2_first_22 : decode cX2_first 22 = .ok (.ireturn, 1) := by decide +kernel
theorem dX2_last_0 : decode cX2_last 0 = .ok (.aload_n 0, 1) := by decide +kernel
theorem dX2_last_1 : decode cX2_last 1 = .ok (.getfield 22, 3) := by decide +kernel
theorem dX2_last_4 : decode cX2_last 4 = .ok (.ifCond .le 17, 3) := by decide +kernel
theorem dX2_last_7 : decode cX2_last 7 = .ok (.aload_n 0, 1) := by decide +kernel
theorem dX2_last_8 : decode cX2_last 8 = .ok (.getfield 15, 3) := by decide +kernel
theorem dX2_last_11 : decode cX2_last 11 = .ok (.aload_n 0, 1) := by decide +kernel
theorem dX2_last_12 : decode cX2_last 12 = .ok (.getfield 22, 3) := by decide +kernel
theorem dX2_last_15 : decode cX2_last 15 = .ok (.iconst 1, 1) := by decide +kernel
theorem dX2_last_16 : decode cX2_last 16 = .ok (.isub, 1) := by decide +kernel
theorem dX2_last_17 : decode cX2_last 17 = .ok (.iaload, 1) := by decide +kernel
theorem dX2_last_18 : decode cX2_last 18 = .ok (.goto 4, 3) := by decide +kernel
theorem dX2_last_21 : decode cX2_last 21 = .ok (.iconst 0, 1) := by decide +kernel
theorem dX2_last_22 : decode cX2_last 22 = .ok (.ireturn, 1) := by decide +kernel
theorem dX2_mayLack_0 : decode cX2_mayLack 0 = .ok (.aload_n 0, 1) := by decide +kernel
theorem dX2_mayLack_1 : decode cX2_mayLack 1 = .ok (.getfield 22, 3) := by decide +kernel
theorem dX2_mayLack_4 : decode cX2_mayLack 4 = .ok (.ifCond .le 21, 3) := by decide +kernel
theorem dX2_mayLack_7 : decode cX2_mayLack 7 = .ok (.aload_n 0, 1) := by decide +kernel
theorem dX2_mayLack_8 : decode cX2_mayLack 8 = .ok (.getfield 18, 3) := by decide +kernel
theorem dX2_mayLack_11 : decode cX2_mayLack 11 = .ok (.aload_n 0, 1) := by decide +kernel
theorem dX2_mayLack_12 : decode cX2_mayLack 12 = .ok (.getfield 22, 3) := by decide +kernel
theorem dX2_mayLack_15 : decode cX2_mayLack 15 = .ok (.iconst 1, 1) := by decide +kernel
theorem dX2_mayLack_16 : decode cX2_mayLack 16 = .ok (.isub, 1) := by decide +kernel
theorem dX2_mayLack_17 : decode cX2_mayLack 17 = .ok (.baload, 1) := by decide +kernel
theorem dX2_mayLack_18 : decode cX2_mayLack 18 = .ok (.ifCond .eq 7, 3) := by decide +kernel
theorem dX2_mayLack_21 : decode cX2_mayLack 21 = .ok (.iconst 1, 1) := by decide +kernel
theorem dX2_mayLack_22 : decode cX2_mayLack 22 = .ok (.goto 4, 3) := by decide +kernel
theorem dX2_mayLack_25 : decode cX2_mayLack 25 = .ok (.iconst 0, 1) := by decide +kernel
theorem dX2_mayLack_26 : decode cX2_mayLack 26 = .ok (.ireturn, 1) := by decide +kernel
