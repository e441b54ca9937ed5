theorem dX0_init_0 : decode cX0_init 0 = .ok (.aload_n 0, 1) := by decide +kernel
theorem dX0_init_1 : decode cX0_init 1 = .ok (.invokespecial 3, 3) := by decide +kernel
theorem dX0_init_4 : decode cX0_init 4 = .ok (.aload_n 0, 1) := by decide +kernel
theorem dX0_init_5 : decode cX0_init 5 = .ok (.bipush 16, 2) := by decide +kernel
theorem dX0_init_7 : decode cX0_init 7 = .ok (.newarray .boolean, 2) := by decide +kernel
theorem dX0_init_9 : decode cX0_init 9 = .ok (.putfield 11, 3) := by decide +kernel
theorem dX0_init_12 : decode cX0_init 12 = .ok (.aload_n 0, 1) := by decide +kernel
theorem dX0_init_13 : decode cX0_init 13 = .ok (.bipush 16, 2) := by decide +kernel
theorem dX0_init_15 : decode cX0_init 15 = .ok (.putfield 15, 3) := by decide +kernel
theorem dX0_init_18 : decode cX0_init 18 = .ok (.aload_n 0, 1) := by decide +kernel
theorem dX0_init_19 : decode cX0_init 19 = .ok (.bipush 16, 2) := by decide +kernel
theorem dX0_init_21 : decode cX0_init 21 = .ok (.putfield 19, 3) := by decide +kernel
theorem dX0_init_24 : decode cX0_init 24 = .ok (.return_, 1) := by decide +kernel
theorem dX0_isPosition_0 : decode cX0_isPosition 0 = .ok (.iload_n 0, 1) := by decide +kernel
theorem dX0_isPosition_1 : decode cX0_isPosition 1 = .ok (.ifCond .lt 13, 3) := by decide +kernel
theorem dX0_isPosition_4 : decode cX0_isPosition 4 = .ok (.iload_n 0, 1) := by decide +kernel
theorem dX0_isPosition_5 : decode cX0_isPosition 5 = .ok (.bipush 16, 2) := by decide +kernel
theorem dX0_isPosition_7 : decode cX0_isPosition 7 = .ok (.if_icmp .ge 7, 3) := by decide +kernel
theorem dX0_isPosition_10 : decode cX0_isPosition 10 = .ok (.iconst 1, 1) := by decide +kernel
theorem dX0_isPosition_11 : decode cX0_isPosition 11 = .ok (.goto 4, 3) := by decide +kernel
theorem dX0_isPosition_14 : decode cX0_isPosition 14 = .ok (.iconst 0, 1) := by decide +kernel
theorem dX0_isPosition_15 : decode cX0_isPosition 15 = .ok (.ireturn, 1) := by decide +kernel
theorem dX0_c_0 : decode cX0_c 0 = .ok (.getstatic 22, 3) := by decide +kernel
theorem dX0_c_3 : decode cX0_c 3 = .ok (.iload_n 0, 1) := by decide +kernel
theorem dX0_c_4 : decode cX0_c 4 = .ok (.bipush 15, 2) := by decide +kernel
theorem dX0_c_6 : decode cX0_c 6 = .ok (.iand, 1) := by decide +kernel
theorem dX0_c_7 : decode cX0_c 7 = .ok (.iaload, 1) := by decide +kernel
theorem dX0_c_8 : decode cX0_c 8 = .ok (.ireturn, 1) := by decide +kernel
theorem dX0_s_0 : decode cX0_s 0 = .ok (.getstatic 22, 3) := by decide +kernel
theorem dX0_s_3 : decode cX0_s 3 = .ok (.iload_n 0, 1) := by decide +kernel
theorem dX0_s_4 : decode cX0_s 4 = .ok (.iconst 4, 1) := by decide +kernel
theorem dX0_s_5 : decode cX0_s 5 = .ok (.isub, 1) := by decide +kernel
theorem dX0_s_6 : decode cX0_s 6 = .ok (.bipush 15, 2) := by decide +kernel
theorem dX0_s_8 : decode cX0_s 8 = .ok (.iand, 1) := by decide +kernel
theorem dX0_s_9 : decode cX0_s 9 = .ok (.iaload, 1) := by decide +kernel
theorem dX0_s_10 : decode cX0_s 10 = .ok (.ireturn, 1) := by decide +kernel
theorem dX0_permit_0 : decode cX0_permit 0 = .ok (.iload_n 1, 1) := by decide +kernel
theorem dX0_permit_1 : decode cX0_permit 1 = .ok (.invokestatic 26, 3) := by decide +kernel
theorem dX0_permit_4 : decode cX0_permit 4 = .ok (.ifCond .ne 5, 3) := by decide +kernel
theorem dX0_permit_7 : decode cX0_permit 7 = .ok (.iconst 0, 1) := by decide +kernel
theorem dX0_permit_8 : decode cX0_permit 8 = .ok (.ireturn, 1) := by decide +kernel
theorem dX0_permit_9 : decode cX0_permit 9 = .ok (.aload_n 0, 1) := by decide +kernel
theorem dX0_permit_10 : decode cX0_permit 10 = .ok (.getfield 11, 3) := by decide +kernel
theorem dX0_permit_13 : decode cX0_permit 13 = .ok (.iload_n 1, 1) := by decide +kernel
theorem dX0_permit_14 : decode cX0_permit 14 = .ok (.baload, 1) := by decide +kernel
theorem dX0_permit_15 : decode cX0_permit 15 = .ok (.ifCond .ne 7, 3) := by decide +kernel
theorem dX0_permit_18 : decode cX0_permit 18 = .ok (.iconst 1, 1) := by decide +kernel
theorem dX0_permit_19 : decode cX0_permit 19 = .ok (.goto 4, 3) := by decide +kernel
theorem dX0_permit_22 : decode cX0_permit 22 = .ok (.iconst 0, 1) := by decide +kernel
theorem dX0_permit_23 : decode cX0_permit 23 = .ok (.istore_n 3, 1) := by decide +kernel
theorem dX0_permit_24 : decode cX0_permit 24 = .ok (.iload_n 2, 1) := by decide +kernel
theorem dX0_permit_25 : decode cX0_permit 25 = .ok (.iload_n 3, 1) := by decide +kernel
theorem dX0_permit_26 : decode cX0_permit 26 = .ok (.if_icmp .ne 5, 3) := by decide +kernel
theorem dX0_permit_29 : decode cX0_permit 29 = .ok (.iconst 0, 1) := by decide +kernel
theorem dX0_permit_30 : decode cX0_permit 30 = .ok (.ireturn, 1) := by decide +kernel
theorem dX0_permit_31 : decode cX0_permit 31 = .ok (.aload_n 0, 1) := by decide +kernel
theorem dX0_permit_32 : decode cX0_permit 32 = .ok (.getfield 11, 3) := by decide +kernel
theorem dX0_permit_35 : decode cX0_permit 35 = .ok (.iload_n 1, 1) := by decide +kernel
theorem dX0_permit_36 : decode cX0_permit 36 = .ok (.iload_n 2, 1) := by decide +kernel
theorem dX0_permit_37 : decode cX0_permit 37 = .ok (.ifCond .ne 7, 3) := by decide +kernel
theorem dX0_permit_40 : decode cX0_permit 40 = .ok (.iconst 1, 1) := by decide +kernel
theorem dX0_permit_41 : decode cX0_permit 41 = .ok (.goto 4, 3) := by decide +kernel
theorem dX0_permit_44 : decode cX0_permit 44 = .ok (.iconst 0, 1) := by decide +kernel
theorem dX0_permit_45 : decode cX0_permit 45 = .ok (.bastore, 1) := by decide +kernel
theorem dX0_permit_46 : decode cX0_permit 46 = .ok (.aload_n 0, 1) := by decide +kernel
theorem dX0_permit_47 : decode cX0_permit 47 = .ok (.dup, 1) := by decide +kernel
theorem dX0_permit_48 : decode cX0_permit 48 = .ok (.getfield 15, 3) := by decide +kernel
theorem dX0_permit_51 : decode cX0_permit 51 = .ok (.iload_n 2, 1) := by decide +kernel
theorem dX0_permit_52 : decode cX0_permit 52 = .ok (.ifCond .eq 7, 3) := by decide +kernel
theorem dX0_permit_55 : decode cX0_permit 55 = .ok (.iconst 1, 1) := by decide +kernel
theorem dX0_permit_56 : decode cX0_permit 56 = .ok (.goto 4, 3) := by decide +kernel
theorem dX0_permit_59 : decode cX0_permit 59 = .ok (.iconst (-1), 1) := by decide +kernel
theorem dX0_permit_60 : decode cX0_permit 60 = .ok (.iadd, 1) := by decide +kernel
theorem dX0_permit_61 : decode cX0_permit 61 = .ok (.putfield 15, 3) := by decide +kernel
theorem dX0_permit_64 : decode cX0_permit 64 = .ok (.iconst 1, 1) := by decide +kernel
theorem dX0_permit_65 : decode cX0_permit 65 = .ok (.ireturn, 1) := by decide +kernel
theorem dX0_fits_0 : decode cX0_fits 0 = .ok (.aload_n 0, 1) := by decide +kernel
theorem dX0_fits_1 : decode cX0_fits 1 = .ok (.getfield 11, 3) := by decide +kernel
theorem dX0_fits_4 : decode cX0_fits 4 = .ok (.iload_n 1, 1) := by decide +kernel
theorem dX0_fits_5 : decode cX0_fits 5 = .ok (.baload, 1) := by decide +kernel
theorem dX0_fits_6 : decode cX0_fits 6 = .ok (.ifCond .ne 23, 3) := by decide +kernel
theorem dX0_fits_9 : decode cX0_fits 9 = .ok (.iload_n 2, 1) := by decide +kernel
theorem dX0_fits_10 : decode cX0_fits 10 = .ok (.iconst (-1), 1) := by decide +kernel
theorem dX0_fits_11 : decode cX0_fits 11 = .ok (.if_icmp .eq 14, 3) := by decide +kernel
theorem dX0_fits_14 : decode cX0_fits 14 = .ok (.iload_n 1, 1) := by decide +kernel
theorem dX0_fits_15 : decode cX0_fits 15 = .ok (.iload_n 2, 1) := by decide +kernel
theorem dX0_fits_16 : decode cX0_fits 16 = .ok (.isub, 1) := by decide +kernel
theorem dX0_fits_17 : decode cX0_fits 17 = .ok (.aload_n 0, 1) := by decide +kernel
theorem dX0_fits_18 : decode cX0_fits 18 = .ok (.getfield 19, 3) := by decide +kernel
theorem dX0_fits_21 : decode cX0_fits 21 = .ok (.irem, 1) := by decide +kernel
theorem dX0_fits_22 : decode cX0_fits 22 = .ok (.ifCond .eq 7, 3) := by decide +kernel
theorem dX0_fits_25 : decode cX0_fits 25 = .ok (.iconst 1, 1) := by decide +kernel
theorem dX0_fits_26 : decode cX0_fits 26 = .ok (.goto 4, 3) := by decide +kernel
theorem dX0_fits_29 : decode cX0_fits 29 = .ok (.iconst 0, 1) := by decide +kernel
theorem dX0_fits_30 : decode cX0_fits 30 = .ok (.ireturn, 1) := by decide +kernel
theorem dX1_init_0 : decode cX1_init 0 = .ok (.aload_n 0, 1) := by decide +kernel
theorem dX1_init_1 : decode cX1_init 1 = .ok (.invokespecial 1, 3) := by decide +kernel
theorem dX1_init_4 : decode cX1_init 4 = .ok (.aload_n 0, 1) := by decide +kernel
theorem dX1_init_5 : decode cX1_init 5 = .ok (.iconst 4, 1) := by decide +kernel
theorem dX1_init_6 : decode cX1_init 6 = .ok (.newarray .int, 2) := by decide +kernel
theorem dX1_init_8 : decode cX1_init 8 = .ok (.putfield 9, 3) := by decide +kernel
theorem dX1_init_11 : decode cX1_init 11 = .ok (.aload_n 0, 1) := by decide +kernel
theorem dX1_init_12 : decode cX1_init 12 = .ok (.iconst 4, 1) := by decide +kernel
theorem dX1_init_13 : decode cX1_init 13 = .ok (.newarray .int, 2) := by decide +kernel
theorem dX1_init_15 : decode cX1_init 15 = .ok (.putfield 13, 3) := by decide +kernel
theorem dX1_init_18 : decode cX1_init 18 = .ok (.aload_n 0, 1) := by decide +kernel
theorem dX1_init_19 : decode cX1_init 19 = .ok (.iconst 4, 1) := by decide +kernel
theorem dX1_init_20 : decode cX1_init 20 = .ok (.newarray .int, 2) := by decide +kernel
theorem dX1_init_22 : decode cX1_init 22 = .ok (.putfield 16, 3) := by decide +kernel
theorem dX1_init_25 : decode cX1_init 25 = .ok (.aload_n 0, 1) := by decide +kernel
theorem dX1_init_26 : decode cX1_init 26 = .ok (.iconst 0, 1) := by decide +kernel
theorem dX1_init_27 : decode cX1_init 27 = .ok (.putfield 19, 3) := by decide +kernel
theorem dX1_init_30 : decode cX1_init 30 = .ok (.return_, 1) := by decide +kernel
theorem dX1_has_0 : decode cX1_has 0 = .ok (.iload_n 1, 1) := by decide +kernel
theorem dX1_has_1 : decode cX1_has 1 = .ok (.ifCond .lt 15, 3) := by decide +kernel
theorem dX1_has_4 : decode cX1_has 4 = .ok (.iload_n 1, 1) := by decide +kernel
theorem dX1_has_5 : decode cX1_has 5 = .ok (.aload_n 0, 1) := by decide +kernel
theorem dX1_has_6 : decode cX1_has 6 = .ok (.getfield 19, 3) := by decide +kernel
theorem dX1_has_9 : decode cX1_has 9 = .ok (.if_icmp .ge 7, 3) := by decide +kernel
theorem dX1_has_12 : decode cX1_has 12 = .ok (.iconst 1, 1) := by decide +kernel
theorem dX1_has_13 : decode cX1_has 13 = .ok (.goto 4, 3) := by decide +kernel
theorem dX1_has_16 : decode cX1_has 16 = .ok (.iconst 0, 1) := by decide +kernel
theorem dX1_has_17 : decode cX1_has 17 = .ok (.ireturn, 1) := by decide +kernel
theorem dX1_isFull_0 : decode cX1_isFull 0 = .ok (.aload_n 0, 1) := by decide +kernel
theorem dX1_isFull_1 : decode cX1_isFull 1 = .ok (.getfield 19, 3) := by decide +kernel
theorem dX1_isFull_4 : decode cX1_isFull 4 = .ok (.iconst 4, 1) := by decide +kernel
theorem dX1_isFull_5 : decode cX1_isFull 5 = .ok (.if_icmp .lt 7, 3) := by decide +kernel
theorem dX1_isFull_8 : decode cX1_isFull 8 = .ok (.iconst 1, 1) := by decide +kernel
theorem dX1_isFull_9 : decode cX1_isFull 9 = .ok (.goto 4, 3) := by decide +kernel
theorem dX1_isFull_12 : decode cX1_isFull 12 = .ok (.iconst 0, 1) := by decide +kernel
theorem dX1_isFull_13 : decode cX1_isFull 13 = .ok (.ireturn, 1) := by decide +kernel
theorem dX1_add_0 : decode cX1_add 0 = .ok (.aload_n 0, 1) := by decide +kernel
theorem dX1_add_1 : decode cX1_add 1 = .ok (.getfield 9, 3) := by decide +kernel
theorem dX1_add_4 : decode cX1_add 4 = .ok (.aload_n 0, 1) := by decide +kernel
theorem dX1_add_5 : decode cX1_add 5 = .ok (.getfield 19, 3) := by decide +kernel
theorem dX1_add_8 : decode cX1_add 8 = .ok (.iload_n 1, 1) := by decide +kernel
theorem dX1_add_9 : decode cX1_add 9 = .ok (.iastore, 1) := by decide +kernel
theorem dX1_add_10 : decode cX1_add 10 = .ok (.aload_n 0, 1) := by decide +kernel
theorem dX1_add_11 : decode cX1_add 11 = .ok (.getfield 13, 3) := by decide +kernel
theorem dX1_add_14 : decode cX1_add 14 = .ok (.aload_n 0, 1) := by decide +kernel
theorem dX1_add_15 : decode cX1_add 15 = .ok (.getfield 19, 3) := by decide +kernel
theorem dX1_add_18 : decode cX1_add 18 = .ok (.iload_n 2, 1) := by decide +kernel
theorem dX1_add_19 : decode cX1_add 19 = .ok (.iastore, 1) := by decide +kernel
theorem dX1_add_20 : decode cX1_add 20 = .ok (.aload_n 0, 1) := by decide +kernel
theorem dX1_add_21 : decode cX1_add 21 = .ok (.dup, 1) := by decide +kernel
theorem dX1_add_22 : decode cX1_add 22 = .ok (.getfield 19, 3) := by decide +kernel
theorem dX1_add_25 : decode cX1_add 25 = .ok (.iconst 1, 1) := by decide +kernel
theorem dX1_add_26 : decode cX1_add 26 = .ok (.iadd, 1) := by decide +kernel
theorem dX1_add_27 : decode cX1_add 27 = .ok (.putfield 19, 3) := by decide +kernel
theorem dX1_add_30 : decode cX1_add 30 = .ok (.aload_n 0, 1) := by decide +kernel
theorem dX1_add_31 : decode cX1_add 31 = .ok (.getfield 19, 3) := by decide +kernel
theorem dX1_add_34 : decode cX1_add 34 = .ok (.iconst 1, 1) := by decide +kernel
theorem dX1_add_35 : decode cX1_add 35 = .ok (.isub, 1) := by decide +kernel
theorem dX1_add_36 : decode cX1_add 36 = .ok (.ireturn, 1) := by decide +kernel
theorem dX1_enlarge_0 : decode cX1_enlarge 0 = .ok (.aload_n 0, 1) := by decide +kernel
theorem dX1_enlarge_1 : decode cX1_enlarge 1 = .ok (.getfield 13, 3) := by decide +kernel
theorem dX1_enlarge_4 : decode cX1_enlarge 4 = .ok (.iload_n 1, 1) := by decide +kernel
theorem dX1_enlarge_5 : decode cX1_enlarge 5 = .ok (.dup2, 1) := by decide +kernel
theorem dX1_enlarge_6 : decode cX1_enlarge 6 = .ok (.iaload, 1) := by decide +kernel
theorem dX1_enlarge_7 : decode cX1_enlarge 7 = .ok (.iload_n 2, 1) := by decide +kernel
theorem dX1_enlarge_8 : decode cX1_enlarge 8 = .ok (.iadd, 1) := by decide +kernel
theorem dX1_enlarge_9 : decode cX1_enlarge 9 = .ok (.iastore, 1) := by decide +kernel
theorem dX1_enlarge_10 : decode cX1_enlarge 10 = .ok (.aload_n 0, 1) := by decide +kernel
theorem dX1_enlarge_11 : decode cX1_enlarge 11 = .ok (.getfield 13, 3) := by decide +kernel
theorem dX1_enlarge_14 : decode cX1_enlarge 14 = .ok (.iload_n 1, 1) := by decide +kernel
theorem dX1_enlarge_15 : decode cX1_enlarge 15 = .ok (.iaload, 1) := by decide +kernel
theorem dX1_enlarge_16 : decode cX1_enlarge 16 = .ok (.ireturn, 1) := by decide +kernel
theorem dX1_unused_0 : decode cX1_unused 0 = .ok (.aload_n 0, 1) := by decide +kernel
theorem dX1_unused_1 : decode cX1_unused 1 = .ok (.getfield 13, 3) := by decide +kernel
theorem dX1_unused_4 : decode cX1_unused 4 = .ok (.iload_n 1, 1) := by decide +kernel
theorem dX1_unused_5 : decode cX1_unused 5 = .ok (.iaload, 1) := by decide +kernel
theorem dX1_unused_6 : decode cX1_unused 6 = .ok (.aload_n 0, 1) := by decide +kernel
theorem dX1_unused_7 : decode cX1_unused 7 = .ok (.getfield 16, 3) := by decide +kernel
theorem dX1_unused_10 : decode cX1_unused 10 = .ok (.iload_n 1, 1) := by decide +kernel
theorem dX1_unused_11 : decode cX1_unused 11 = .ok (.iaload, 1) := by decide +kernel
theorem dX1_unused_12 : decode cX1_unused 12 = .ok (.isub, 1) := by decide +kernel
theorem dX1_unused_13 : decode cX1_unused 13 = .ok (.ireturn, 1) := by decide +kernel
theorem dX1_take_0 : decode cX1_take 0 = .ok (.aload_n 0, 1) := by decide +kernel
theorem dX1_take_1 : decode cX1_take 1 = .ok (.getfield 16, 3) := by decide +kernel
theorem dX1_take_4 : decode cX1_take 4 = .ok (.iload_n 1, 1) := by decide +kernel
theorem dX1_take_5 : decode cX1_take 5 = .ok (.dup2, 1) := by decide +kernel
theorem dX1_take_6 : decode cX1_take 6 = .ok (.iaload, 1) := by decide +kernel
theorem dX1_take_7 : decode cX1_take 7 = .ok (.iconst 1, 1) := by decide +kernel
theorem dX1_take_8 : decode cX1_take 8 = .ok (.iadd, 1) := by decide +kernel
theorem dX1_take_9 : decode cX1_take 9 = .ok (.iastore, 1) := by decide +kernel
theorem dX1_take_10 : decode cX1_take 10 = .ok (.return_, 1) := by decide +kernel
theorem dX1_giveBack_0 : decode cX1_giveBack 0 = .ok (.aload_n 0, 1) := by decide +kernel
theorem dX1_giveBack_1 : decode cX1_giveBack 1 = .ok (.getfield 16, 3) := by decide +kernel
theorem dX1_giveBack_4 : decode cX1_giveBack 4 = .ok (.iload_n 1, 1) := by decide +kernel
theorem dX1_giveBack_5 : decode cX1_giveBack 5 = .ok (.dup2, 1) := by decide +kernel
theorem dX1_giveBack_6 : decode cX1_giveBack 6 = .ok (.iaload, 1) := by decide +kernel
theorem dX1_giveBack_7 : decode cX1_giveBack 7 = .ok (.iconst 1, 1) := by decide +kernel
theorem dX1_giveBack_8 : decode cX1_giveBack 8 = .ok (.isub, 1) := by decide +kernel
theorem dX1_giveBack_9 : decode cX1_giveBack 9 = .ok (.iastore, 1) := by decide +kernel
theorem dX1_giveBack_10 : decode cX1_giveBack 10 = .ok (.return_, 1) := by decide +kernel
theorem dX2_init_0 : decode cX2_init 0 = .ok (.aload_n 0, 1) := by decide +kernel
theorem dX2_init_1 : decode cX2_init 1 = .ok (.invokespecial 3, 3) := by decide +kernel
theorem dX2_init_4 : decode cX2_init 4 = .ok (.aload_n 0, 1) := by decide +kernel
theorem dX2_init_5 : decode cX2_init 5 = .ok (.iconst 0, 1) := by decide +kernel
theorem dX2_init_6 : decode cX2_init 6 = .ok (.putfield 9, 3) := by decide +kernel
theorem dX2_init_9 : decode cX2_init 9 = .ok (.aload_n 0, 1) := by decide +kernel
theorem dX2_init_10 : decode cX2_init 10 = .ok (.iconst 0, 1) := by decide +kernel
theorem dX2_init_11 : decode cX2_init 11 = .ok (.putfield 15, 3) := by decide +kernel
theorem dX2_init_14 : decode cX2_init 14 = .ok (.aload_n 0, 1) := by decide +kernel
theorem dX2_init_15 : decode cX2_init 15 = .ok (.iload_n 1, 1) := by decide +kernel
theorem dX2_init_16 : decode cX2_init 16 = .ok (.putfield 18, 3) := by decide +kernel
theorem dX2_init_19 : decode cX2_init 19 = .ok (.aload_n 0, 1) := by decide +kernel
theorem dX2_init_20 : decode cX2_init 20 = .ok (.iload_n 1, 1) := by decide +kernel
theorem dX2_init_21 : decode cX2_init 21 = .ok (.newarray .int, 2) := by decide +kernel
theorem dX2_init_23 : decode cX2_init 23 = .ok (.putfield 21, 3) := by decide +kernel
theorem dX2_init_26 : decode cX2_init 26 = .ok (.aload_n 0, 1) := by decide +kernel
theorem dX2_init_27 : decode cX2_init 27 = .ok (.iload_n 1, 1) := by decide +kernel
theorem dX2_init_28 : decode cX2_init 28 = .ok (.newarray .int, 2) := by decide +kernel
theorem dX2_init_30 : decode cX2_init 30 = .ok (.putfield 25, 3) := by decide +kernel
theorem dX2_init_33 : decode cX2_init 33 = .ok (.aload_n 0, 1) := by decide +kernel
theorem dX2_init_34 : decode cX2_init 34 = .ok (.iload_n 1, 1) := by decide +kernel
theorem dX2_init_35 : decode cX2_init 35 = .ok (.newarray .long, 2) := by decide +kernel
theorem dX2_init_37 : decode cX2_init 37 = .ok (.putfield 28, 3) := by decide +kernel
theorem dX2_init_40 : decode cX2_init 40 = .ok (.aload_n 0, 1) := by decide +kernel
theorem dX2_init_41 : decode cX2_init 41 = .ok (.iload_n 1, 1) := by decide +kernel
theorem dX2_init_42 : decode cX2_init 42 = .ok (.newarray .long, 2) := by decide +kernel
theorem dX2_init_44 : decode cX2_init 44 = .ok (.putfield 32, 3) := by decide +kernel
theorem dX2_init_47 : decode cX2_init 47 = .ok (.aload_n 0, 1) := by decide +kernel
theorem dX2_init_48 : decode cX2_init 48 = .ok (.iload_n 1, 1) := by decide +kernel
theorem dX2_init_49 : decode cX2_init 49 = .ok (.iconst 1, 1) := by decide +kernel
theorem dX2_init_50 : decode cX2_init 50 = .ok (.iadd, 1) := by decide +kernel
theorem dX2_init_51 : decode cX2_init 51 = .ok (.newarray .long, 2) := by decide +kernel
theorem dX2_init_53 : decode cX2_init 53 = .ok (.putfield 35, 3) := by decide +kernel
theorem dX2_init_56 : decode cX2_init 56 = .ok (.aload_n 0, 1) := by decide +kernel
theorem dX2_init_57 : decode cX2_init 57 = .ok (.iload_n 1, 1) := by decide +kernel
theorem dX2_init_58 : decode cX2_init 58 = .ok (.iconst 1, 1) := by decide +kernel
theorem dX2_init_59 : decode cX2_init 59 = .ok (.iadd, 1) := by decide +kernel
theorem dX2_init_60 : decode cX2_init 60 = .ok (.newarray .long, 2) := by decide +kernel
theorem dX2_init_62 : decode cX2_init 62 = .ok (.putfield 38, 3) := by decide +kernel
theorem dX2_init_65 : decode cX2_init 65 = .ok (.aload_n 0, 1) := by decide +kernel
theorem dX2_init_66 : decode cX2_init 66 = .ok (.iload_n 1, 1) := by decide +kernel
theorem dX2_init_67 : decode cX2_init 67 = .ok (.iconst 1, 1) := by decide +kernel
theorem dX2_init_68 : decode cX2_init 68 = .ok (.iadd, 1) := by decide +kernel
theorem dX2_init_69 : decode cX2_init 69 = .ok (.newarray .long, 2) := by decide +kernel
theorem dX2_init_71 : decode cX2_init 71 = .ok (.putfield 41, 3) := by decide +kernel
theorem dX2_init_74 : decode cX2_init 74 = .ok (.aload_n 0, 1) := by decide +kernel
theorem dX2_init_75 : decode cX2_init 75 = .ok (.iload_n 1, 1) := by decide +kernel
theorem dX2_init_76 : decode cX2_init 76 = .ok (.iconst 1, 1) := by decide +kernel
theorem dX2_init_77 : decode cX2_init 77 = .ok (.iadd, 1) := by decide +kernel
theorem dX2_init_78 : decode cX2_init 78 = .ok (.newarray .long, 2) := by decide +kernel
theorem dX2_init_80 : decode cX2_init 80 = .ok (.putfield 44, 3) := by decide +kernel
theorem dX2_init_83 : decode cX2_init 83 = .ok (.return_, 1) := by decide +kernel
theorem dX2_has_0 : decode cX2_has 0 = .ok (.iload_n 1, 1) := by decide +kernel
theorem dX2_has_1 : decode cX2_has 1 = .ok (.ifCond .lt 15, 3) := by decide +kernel
theorem dX2_has_4 : decode cX2_has 4 = .ok (.iload_n 1, 1) := by decide +kernel
theorem dX2_has_5 : decode cX2_has 5 = .ok (.aload_n 0, 1) := by decide +kernel
theorem dX2_has_6 : decode cX2_has 6 = .ok (.getfield 18, 3) := by decide +kernel
theorem dX2_has_9 : decode cX2_has 9 = .ok (.if_icmp .ge 7, 3) := by decide +kernel
theorem dX2_has_12 : decode cX2_has 12 = .ok (.iconst 1, 1) := by decide +kernel
theorem dX2_has_13 : decode cX2_has 13 = .ok (.goto 4, 3) := by decide +kernel
theorem dX2_has_16 : decode cX2_has 16 = .ok (.iconst 0, 1) := by decide +kernel
theorem dX2_has_17 : decode cX2_has 17 = .ok (.ireturn, 1) := by decide +kernel
theorem dX2_standing_0 : decode cX2_standing 0 = .ok (.aload_n 0, 1) := by decide +kernel
theorem dX2_standing_1 : decode cX2_standing 1 = .ok (.getfield 9, 3) := by decide +kernel
theorem dX2_standing_4 : decode cX2_standing 4 = .ok (.aload_n 0, 1) := by decide +kernel
theorem dX2_standing_5 : decode cX2_standing 5 = .ok (.getfield 15, 3) := by decide +kernel
theorem dX2_standing_8 : decode cX2_standing 8 = .ok (.iadd, 1) := by decide +kernel
theorem dX2_standing_9 : decode cX2_standing 9 = .ok (.ireturn, 1) := by decide +kernel
theorem dX2_stands_0 : decode cX2_stands 0 = .ok (.iload_n 1, 1) := by decide +kernel
theorem dX2_stands_1 : decode cX2_stands 1 = .ok (.ifCond .lt 15, 3) := by decide +kernel
theorem dX2_stands_4 : decode cX2_stands 4 = .ok (.iload_n 1, 1) := by decide +kernel
theorem dX2_stands_5 : decode cX2_stands 5 = .ok (.aload_n 0, 1) := by decide +kernel
theorem dX2_stands_6 : decode cX2_stands 6 = .ok (.invokevirtual 47, 3) := by decide +kernel
theorem dX2_stands_9 : decode cX2_stands 9 = .ok (.if_icmp .ge 7, 3) := by decide +kernel
theorem dX2_stands_12 : decode cX2_stands 12 = .ok (.iconst 1, 1) := by decide +kernel
theorem dX2_stands_13 : decode cX2_stands 13 = .ok (.goto 4, 3) := by decide +kernel
theorem dX2_stands_16 : decode cX2_stands 16 = .ok (.iconst 0, 1) := by decide +kernel
theorem dX2_stands_17 : decode cX2_stands 17 = .ok (.ireturn, 1) := by decide +kernel
theorem dX2_stateAt_0 : decode cX2_stateAt 0 = .ok (.iload_n 1, 1) := by decide +kernel
theorem dX2_stateAt_1 : decode cX2_stateAt 1 = .ok (.aload_n 0, 1) := by decide +kernel
theorem dX2_stateAt_2 : decode cX2_stateAt 2 = .ok (.getfield 9, 3) := by decide +kernel
theorem dX2_stateAt_5 : decode cX2_stateAt 5 = .ok (.if_icmp .ge 5, 3) := by decide +kernel
theorem dX2_stateAt_8 : decode cX2_stateAt 8 = .ok (.iconst 2, 1) := by decide +kernel
theorem dX2_stateAt_9 : decode cX2_stateAt 9 = .ok (.ireturn, 1) := by decide +kernel
theorem dX2_stateAt_10 : decode cX2_stateAt 10 = .ok (.iload_n 1, 1) := by decide +kernel
theorem dX2_stateAt_11 : decode cX2_stateAt 11 = .ok (.aload_n 0, 1) := by decide +kernel
theorem dX2_stateAt_12 : decode cX2_stateAt 12 = .ok (.invokevirtual 47, 3) := by decide +kernel
theorem dX2_stateAt_15 : decode cX2_stateAt 15 = .ok (.if_icmp .ge 7, 3) := by decide +kernel
theorem dX2_stateAt_18 : decode cX2_stateAt 18 = .ok (.iconst 1, 1) := by decide +kernel
theorem dX2_stateAt_19 : decode cX2_stateAt 19 = .ok (.goto 4, 3) := by decide +kernel
theorem dX2_stateAt_22 : decode cX2_stateAt 22 = .ok (.iconst 0, 1) := by decide +kernel
theorem dX2_stateAt_23 : decode cX2_stateAt 23 = .ok (.ireturn, 1) := by decide +kernel
theorem dX2_turnBefore_0 : decode cX2_turnBefore 0 = .ok (.iload_n 1, 1) := by decide +kernel
theorem dX2_turnBefore_1 : decode cX2_turnBefore 1 = .ok (.ifCond .le 14, 3) := by decide +kernel
theorem dX2_turnBefore_4 : decode cX2_turnBefore 4 = .ok (.aload_n 0, 1) := by decide +kernel
theorem dX2_turnBefore_5 : decode cX2_turnBefore 5 = .ok (.getfield 25, 3) := by decide +kernel
theorem dX2_turnBefore_8 : decode cX2_turnBefore 8 = .ok (.iload_n 1, 1) := by decide +kernel
theorem dX2_turnBefore_9 : decode cX2_turnBefore 9 = .ok (.iconst 1, 1) := by decide +kernel
theorem dX2_turnBefore_10 : decode cX2_turnBefore 10 = .ok (.isub, 1) := by decide +kernel
theorem dX2_turnBefore_11 : decode cX2_turnBefore 11 = .ok (.iaload, 1) := by decide +kernel
theorem dX2_turnBefore_12 : decode cX2_turnBefore 12 = .ok (.goto 4, 3) := by decide +kernel
theorem dX2_turnBefore_15 : decode cX2_turnBefore 15 = .ok (.iconst (-1), 1) := by decide +kernel
theorem dX2_turnBefore_16 : decode cX2_turnBefore 16 = .ok (.ireturn, 1) := by decide +kernel
theorem dX2_setPoint_0 : decode cX2_setPoint 0 = .ok (.aload_n 0, 1) := by decide +kernel
theorem dX2_setPoint_1 : decode cX2_setPoint 1 = .ok (.getfield 28, 3) := by decide +kernel
theorem dX2_setPoint_4 : decode cX2_setPoint 4 = .ok (.iload_n 1, 1) := by decide +kernel
theorem dX2_setPoint_5 : decode cX2_setPoint 5 = .ok (.iload_n 2, 1) := by decide +kernel
theorem dX2_setPoint_6 : decode cX2_setPoint 6 = .ok (.i2l, 1) := by decide +kernel
theorem dX2_setPoint_7 : decode cX2_setPoint 7 = .ok (.lastore, 1) := by decide +kernel
theorem dX2_setPoint_8 : decode cX2_setPoint 8 = .ok (.aload_n 0, 1) := by decide +kernel
theorem dX2_setPoint_9 : decode cX2_setPoint 9 = .ok (.getfield 32, 3) := by decide +kernel
theorem dX2_setPoint_12 : decode cX2_setPoint 12 = .ok (.iload_n 1, 1) := by decide +kernel
theorem dX2_setPoint_13 : decode cX2_setPoint 13 = .ok (.iload_n 3, 1) := by decide +kernel
theorem dX2_setPoint_14 : decode cX2_setPoint 14 = .ok (.i2l, 1) := by decide +kernel
theorem dX2_setPoint_15 : decode cX2_setPoint 15 = .ok (.lastore, 1) := by decide +kernel
theorem dX2_setPoint_16 : decode cX2_setPoint 16 = .ok (.return_, 1) := by decide +kernel
theorem dX2_lay_0 : decode cX2_lay 0 = .ok (.aload_n 0, 1) := by decide +kernel
theorem dX2_lay_1 : decode cX2_lay 1 = .ok (.getfield 21, 3) := by decide +kernel
theorem dX2_lay_4 : decode cX2_lay 4 = .ok (.iload_n 1, 1) := by decide +kernel
theorem dX2_lay_5 : decode cX2_lay 5 = .ok (.iload_n 2, 1) := by decide +kernel
theorem dX2_lay_6 : decode cX2_lay 6 = .ok (.iastore, 1) := by decide +kernel
theorem dX2_lay_7 : decode cX2_lay 7 = .ok (.aload_n 0, 1) := by decide +kernel
theorem dX2_lay_8 : decode cX2_lay 8 = .ok (.getfield 25, 3) := by decide +kernel
theorem dX2_lay_11 : decode cX2_lay 11 = .ok (.iload_n 1, 1) := by decide +kernel
theorem dX2_lay_12 : decode cX2_lay 12 = .ok (.iload 4, 2) := by decide +kernel
theorem dX2_lay_14 : decode cX2_lay 14 = .ok (.iastore, 1) := by decide +kernel
theorem dX2_lay_15 : decode cX2_lay 15 = .ok (.aload_n 0, 1) := by decide +kernel
theorem dX2_lay_16 : decode cX2_lay 16 = .ok (.getfield 41, 3) := by decide +kernel
theorem dX2_lay_19 : decode cX2_lay 19 = .ok (.iload_n 1, 1) := by decide +kernel
theorem dX2_lay_20 : decode cX2_lay 20 = .ok (.iconst 1, 1) := by decide +kernel
theorem dX2_lay_21 : decode cX2_lay 21 = .ok (.iadd, 1) := by decide +kernel
theorem dX2_lay_22 : decode cX2_lay 22 = .ok (.aload_n 0, 1) := by decide +kernel
theorem dX2_lay_23 : decode cX2_lay 23 = .ok (.getfield 41, 3) := by decide +kernel
theorem dX2_lay_26 : decode cX2_lay 26 = .ok (.iload_n 1, 1) := by decide +kernel
theorem dX2_lay_27 : decode cX2_lay 27 = .ok (.laload, 1) := by decide +kernel
theorem dX2_lay_28 : decode cX2_lay 28 = .ok (.iload_n 3, 1) := by decide +kernel
theorem dX2_lay_29 : decode cX2_lay 29 = .ok (.iload 4, 2) := by decide +kernel
theorem dX2_lay_31 : decode cX2_lay 31 = .ok (.invokestatic 51, 3) := by decide +kernel
theorem dX2_lay_34 : decode cX2_lay 34 = .ok (.imul, 1) := by decide +kernel
theorem dX2_lay_35 : decode cX2_lay 35 = .ok (.i2l, 1) := by decide +kernel
theorem dX2_lay_36 : decode cX2_lay 36 = .ok (.ladd, 1) := by decide +kernel
theorem dX2_lay_37 : decode cX2_lay 37 = .ok (.lastore, 1) := by decide +kernel
theorem dX2_lay_38 : decode cX2_lay 38 = .ok (.aload_n 0, 1) := by decide +kernel
theorem dX2_lay_39 : decode cX2_lay 39 = .ok (.getfield 44, 3) := by decide +kernel
theorem dX2_lay_42 : decode cX2_lay 42 = .ok (.iload_n 1, 1) := by decide +kernel
theorem dX2_lay_43 : decode cX2_lay 43 = .ok (.iconst 1, 1) := by decide +kernel
theorem dX2_lay_44 : decode cX2_lay 44 = .ok (.iadd, 1) := by decide +kernel
theorem dX2_lay_45 : decode cX2_lay 45 = .ok (.aload_n 0, 1) := by decide +kernel
theorem dX2_lay_46 : decode cX2_lay 46 = .ok (.getfield 44, 3) := by decide +kernel
theorem dX2_lay_49 : decode cX2_lay 49 = .ok (.iload_n 1, 1) := by decide +kernel
theorem dX2_lay_50 : decode cX2_lay 50 = .ok (.laload, 1) := by decide +kernel
theorem dX2_lay_51 : decode cX2_lay 51 = .ok (.iload_n 3, 1) := by decide +kernel
theorem dX2_lay_52 : decode cX2_lay 52 = .ok (.iload 4, 2) := by decide +kernel
theorem dX2_lay_54 : decode cX2_lay 54 = .ok (.invokestatic 57, 3) := by decide +kernel
theorem dX2_lay_57 : decode cX2_lay 57 = .ok (.imul, 1) := by decide +kernel
theorem dX2_lay_58 : decode cX2_lay 58 = .ok (.i2l, 1) := by decide +kernel
theorem dX2_lay_59 : decode cX2_lay 59 = .ok (.ladd, 1) := by decide +kernel
theorem dX2_lay_60 : decode cX2_lay 60 = .ok (.lastore, 1) := by decide +kernel
theorem dX2_lay_61 : decode cX2_lay 61 = .ok (.aload_n 0, 1) := by decide +kernel
theorem dX2_lay_62 : decode cX2_lay 62 = .ok (.getfield 35, 3) := by decide +kernel
theorem dX2_lay_65 : decode cX2_lay 65 = .ok (.iload_n 1, 1) := by decide +kernel
theorem dX2_lay_66 : decode cX2_lay 66 = .ok (.iconst 1, 1) := by decide +kernel
theorem dX2_lay_67 : decode cX2_lay 67 = .ok (.iadd, 1) := by decide +kernel
theorem dX2_lay_68 : decode cX2_lay 68 = .ok (.aload_n 0, 1) := by decide +kernel
theorem dX2_lay_69 : decode cX2_lay 69 = .ok (.getfield 35, 3) := by decide +kernel
theorem dX2_lay_72 : decode cX2_lay 72 = .ok (.iload_n 1, 1) := by decide +kernel
theorem dX2_lay_73 : decode cX2_lay 73 = .ok (.laload, 1) := by decide +kernel
theorem dX2_lay_74 : decode cX2_lay 74 = .ok (.aload_n 0, 1) := by decide +kernel
theorem dX2_lay_75 : decode cX2_lay 75 = .ok (.getfield 41, 3) := by decide +kernel
theorem dX2_lay_78 : decode cX2_lay 78 = .ok (.iload_n 1, 1) := by decide +kernel
theorem dX2_lay_79 : decode cX2_lay 79 = .ok (.laload, 1) := by decide +kernel
theorem dX2_lay_80 : decode cX2_lay 80 = .ok (.ladd, 1) := by decide +kernel
theorem dX2_lay_81 : decode cX2_lay 81 = .ok (.aload_n 0, 1) := by decide +kernel
theorem dX2_lay_82 : decode cX2_lay 82 = .ok (.getfield 41, 3) := by decide +kernel
theorem dX2_lay_85 : decode cX2_lay 85 = .ok (.iload_n 1, 1) := by decide +kernel
theorem dX2_lay_86 : decode cX2_lay 86 = .ok (.iconst 1, 1) := by decide +kernel
theorem dX2_lay_87 : decode cX2_lay 87 = .ok (.iadd, 1) := by decide +kernel
theorem dX2_lay_88 : decode cX2_lay 88 = .ok (.laload, 1) := by decide +kernel
theorem dX2_lay_89 : decode cX2_lay 89 = .ok (.ladd, 1) := by decide +kernel
theorem dX2_lay_90 : decode cX2_lay 90 = .ok (.lastore, 1) := by decide +kernel
theorem dX2_lay_91 : decode cX2_lay 91 = .ok (.aload_n 0, 1) := by decide +kernel
theorem dX2_lay_92 : decode cX2_lay 92 = .ok (.getfield 38, 3) := by decide +kernel
theorem dX2_lay_95 : decode cX2_lay 95 = .ok (.iload_n 1, 1) := by decide +kernel
theorem dX2_lay_96 : decode cX2_lay 96 = .ok (.iconst 1, 1) := by decide +kernel
theorem dX2_lay_97 : decode cX2_lay 97 = .ok (.iadd, 1) := by decide +kernel
theorem dX2_lay_98 : decode cX2_lay 98 = .ok (.aload_n 0, 1) := by decide +kernel
theorem dX2_lay_99 : decode cX2_lay 99 = .ok (.getfield 38, 3) := by decide +kernel
theorem dX2_lay_102 : decode cX2_lay 102 = .ok (.iload_n 1, 1) := by decide +kernel
theorem dX2_lay_103 : decode cX2_lay 103 = .ok (.laload, 1) := by decide +kernel
theorem dX2_lay_104 : decode cX2_lay 104 = .ok (.aload_n 0, 1) := by decide +kernel
theorem dX2_lay_105 : decode cX2_lay 105 = .ok (.getfield 44, 3) := by decide +kernel
theorem dX2_lay_108 : decode cX2_lay 108 = .ok (.iload_n 1, 1) := by decide +kernel
theorem dX2_lay_109 : decode cX2_lay 109 = .ok (.laload, 1) := by decide +kernel
theorem dX2_lay_110 : decode cX2_lay 110 = .ok (.ladd, 1) := by decide +kernel
theorem dX2_lay_111 : decode cX2_lay 111 = .ok (.aload_n 0, 1) := by decide +kernel
theorem dX2_lay_112 : decode cX2_lay 112 = .ok (.getfield 44, 3) := by decide +kernel
theorem dX2_lay_115 : decode cX2_lay 115 = .ok (.iload_n 1, 1) := by decide +kernel
theorem dX2_lay_116 : decode cX2_lay 116 = .ok (.iconst 1, 1) := by decide +kernel
theorem dX2_lay_117 : decode cX2_lay 117 = .ok (.iadd, 1) := by decide +kernel
theorem dX2_lay_118 : decode cX2_lay 118 = .ok (.laload, 1) := by decide +kernel
theorem dX2_lay_119 : decode cX2_lay 119 = .ok (.ladd, 1) := by decide +kernel
theorem dX2_lay_120 : decode cX2_lay 120 = .ok (.lastore, 1) := by decide +kernel
theorem dX2_lay_121 : decode cX2_lay 121 = .ok (.return_, 1) := by decide +kernel
theorem dX2_shiftBuilt_0 : decode cX2_shiftBuilt 0 = .ok (.iload_n 1, 1) := by decide +kernel
theorem dX2_shiftBuilt_1 : decode cX2_shiftBuilt 1 = .ok (.istore 4, 2) := by decide +kernel
theorem dX2_shiftBuilt_3 : decode cX2_shiftBuilt 3 = .ok (.iload 4, 2) := by decide +kernel
theorem dX2_shiftBuilt_5 : decode cX2_shiftBuilt 5 = .ok (.aload_n 0, 1) := by decide +kernel
theorem dX2_shiftBuilt_6 : decode cX2_shiftBuilt 6 = .ok (.getfield 9, 3) := by decide +kernel
theorem dX2_shiftBuilt_9 : decode cX2_shiftBuilt 9 = .ok (.if_icmp .ge 37, 3) := by decide +kernel
theorem dX2_shiftBuilt_12 : decode cX2_shiftBuilt 12 = .ok (.aload_n 0, 1) := by decide +kernel
theorem dX2_shiftBuilt_13 : decode cX2_shiftBuilt 13 = .ok (.getfield 35, 3) := by decide +kernel
theorem dX2_shiftBuilt_16 : decode cX2_shiftBuilt 16 = .ok (.iload 4, 2) := by decide +kernel
theorem dX2_shiftBuilt_18 : decode cX2_shiftBuilt 18 = .ok (.iconst 1, 1) := by decide +kernel
theorem dX2_shiftBuilt_19 : decode cX2_shiftBuilt 19 = .ok (.iadd, 1) := by decide +kernel
theorem dX2_shiftBuilt_20 : decode cX2_shiftBuilt 20 = .ok (.dup2, 1) := by decide +kernel
theorem dX2_shiftBuilt_21 : decode cX2_shiftBuilt 21 = .ok (.laload, 1) := by decide +kernel
theorem dX2_shiftBuilt_22 : decode cX2_shiftBuilt 22 = .ok (.iload_n 2, 1) := by decide +kernel
theorem dX2_shiftBuilt_23 : decode cX2_shiftBuilt 23 = .ok (.i2l, 1) := by decide +kernel
theorem dX2_shiftBuilt_24 : decode cX2_shiftBuilt 24 = .ok (.ladd, 1) := by decide +kernel
theorem dX2_shiftBuilt_25 : decode cX2_shiftBuilt 25 = .ok (.lastore, 1) := by decide +kernel
theorem dX2_shiftBuilt_26 : decode cX2_shiftBuilt 26 = .ok (.aload_n 0, 1) := by decide +kernel
theorem dX2_shiftBuilt_27 : decode cX2_shiftBuilt 27 = .ok (.getfield 38, 3) := by decide +kernel
theorem dX2_shiftBuilt_30 : decode cX2_shiftBuilt 30 = .ok (.iload 4, 2) := by decide +kernel
theorem dX2_shiftBuilt_32 : decode cX2_shiftBuilt 32 = .ok (.iconst 1, 1) := by decide +kernel
theorem dX2_shiftBuilt_33 : decode cX2_shiftBuilt 33 = .ok (.iadd, 1) := by decide +kernel
theorem dX2_shiftBuilt_34 : decode cX2_shiftBuilt 34 = .ok (.dup2, 1) := by decide +kernel
theorem dX2_shiftBuilt_35 : decode cX2_shiftBuilt 35 = .ok (.laload, 1) := by decide +kernel
theorem dX2_shiftBuilt_36 : decode cX2_shiftBuilt 36 = .ok (.iload_n 3, 1) := by decide +kernel
theorem dX2_shiftBuilt_37 : decode cX2_shiftBuilt 37 = .ok (.i2l, 1) := by decide +kernel
theorem dX2_shiftBuilt_38 : decode cX2_shiftBuilt 38 = .ok (.ladd, 1) := by decide +kernel
theorem dX2_shiftBuilt_39 : decode cX2_shiftBuilt 39 = .ok (.lastore, 1) := by decide +kernel
theorem dX2_shiftBuilt_40 : decode cX2_shiftBuilt 40 = .ok (.iinc 4 1, 3) := by decide +kernel
theorem dX2_shiftBuilt_43 : decode cX2_shiftBuilt 43 = .ok (.goto (-40), 3) := by decide +kernel
theorem dX2_shiftBuilt_46 : decode cX2_shiftBuilt 46 = .ok (.return_, 1) := by decide +kernel
theorem dX2_offAt_0 : decode cX2_offAt 0 = .ok (.aload_n 0, 1) := by decide +kernel
theorem dX2_offAt_1 : decode cX2_offAt 1 = .ok (.getfield 35, 3) := by decide +kernel
theorem dX2_offAt_4 : decode cX2_offAt 4 = .ok (.iload_n 1, 1) := by decide +kernel
theorem dX2_offAt_5 : decode cX2_offAt 5 = .ok (.iconst 1, 1) := by decide +kernel
theorem dX2_offAt_6 : decode cX2_offAt 6 = .ok (.iadd, 1) := by decide +kernel
theorem dX2_offAt_7 : decode cX2_offAt 7 = .ok (.laload, 1) := by decide +kernel
theorem dX2_offAt_8 : decode cX2_offAt 8 = .ok (.aload_n 0, 1) := by decide +kernel
theorem dX2_offAt_9 : decode cX2_offAt 9 = .ok (.getfield 28, 3) := by decide +kernel
theorem dX2_offAt_12 : decode cX2_offAt 12 = .ok (.iload_n 1, 1) := by decide +kernel
theorem dX2_offAt_13 : decode cX2_offAt 13 = .ok (.laload, 1) := by decide +kernel
theorem dX2_offAt_14 : decode cX2_offAt 14 = .ok (.lsub, 1) := by decide +kernel
theorem dX2_offAt_15 : decode cX2_offAt 15 = .ok (.lstore_n 2, 1) := by decide +kernel
theorem dX2_offAt_16 : decode cX2_offAt 16 = .ok (.aload_n 0, 1) := by decide +kernel
theorem dX2_offAt_17 : decode cX2_offAt 17 = .ok (.getfield 38, 3) := by decide +kernel
theorem dX2_offAt_20 : decode cX2_offAt 20 = .ok (.iload_n 1, 1) := by decide +kernel
theorem dX2_offAt_21 : decode cX2_offAt 21 = .ok (.iconst 1, 1) := by decide +kernel
theorem dX2_offAt_22 : decode cX2_offAt 22 = .ok (.iadd, 1) := by decide +kernel
theorem dX2_offAt_23 : decode cX2_offAt 23 = .ok (.laload, 1) := by decide +kernel
theorem dX2_offAt_24 : decode cX2_offAt 24 = .ok (.aload_n 0, 1) := by decide +kernel
theorem dX2_offAt_25 : decode cX2_offAt 25 = .ok (.getfield 32, 3) := by decide +kernel
theorem dX2_offAt_28 : decode cX2_offAt 28 = .ok (.iload_n 1, 1) := by decide +kernel
theorem dX2_offAt_29 : decode cX2_offAt 29 = .ok (.laload, 1) := by decide +kernel
theorem dX2_offAt_30 : decode cX2_offAt 30 = .ok (.lsub, 1) := by decide +kernel
theorem dX2_offAt_31 : decode cX2_offAt 31 = .ok (.lstore 4, 2) := by decide +kernel
theorem dX2_offAt_33 : decode cX2_offAt 33 = .ok (.lload_n 2, 1) := by decide +kernel
theorem dX2_offAt_34 : decode cX2_offAt 34 = .ok (.lload_n 2, 1) := by decide +kernel
theorem dX2_offAt_35 : decode cX2_offAt 35 = .ok (.lmul, 1) := by decide +kernel
theorem dX2_offAt_36 : decode cX2_offAt 36 = .ok (.lload 4, 2) := by decide +kernel
theorem dX2_offAt_38 : decode cX2_offAt 38 = .ok (.lload 4, 2) := by decide +kernel
theorem dX2_offAt_40 : decode cX2_offAt 40 = .ok (.lmul, 1) := by decide +kernel
theorem dX2_offAt_41 : decode cX2_offAt 41 = .ok (.ladd, 1) := by decide +kernel
theorem dX2_offAt_42 : decode cX2_offAt 42 = .ok (.lreturn, 1) := by decide +kernel
theorem dJx00060_init_a7421_0 : decode cJx00060_init_a7421 0 = .ok (.aload_n 0, 1) := by decide +kernel
theorem dJx00060_init_a7421_1 : decode cJx00060_init_a7421 1 = .ok (.aload_n 1, 1) := by decide +kernel
theorem dJx00060_init_a7421_2 : decode cJx00060_init_a7421 2 = .ok (.invokespecial 7, 3) := by decide +kernel
theorem dJx00060_init_a7421_5 : decode cJx00060_init_a7421 5 = .ok (.return_, 1) := by decide +kernel
theorem dJ9_floorDiv_7cf53_0 : decode cJ9_floorDiv_7cf53 0 = .ok (.iload_n 0, 1) := by decide +kernel
theorem dJ9_floorDiv_7cf53_1 : decode cJ9_floorDiv_7cf53 1 = .ok (.iload_n 1, 1) := by decide +kernel
theorem dJ9_floorDiv_7cf53_2 : decode cJ9_floorDiv_7cf53 2 = .ok (.idiv, 1) := by decide +kernel
theorem dJ9_floorDiv_7cf53_3 : decode cJ9_floorDiv_7cf53 3 = .ok (.istore_n 2, 1) := by decide +kernel
theorem dJ9_floorDiv_7cf53_4 : decode cJ9_floorDiv_7cf53 4 = .ok (.iload_n 0, 1) := by decide +kernel
theorem dJ9_floorDiv_7cf53_5 : decode cJ9_floorDiv_7cf53 5 = .ok (.iload_n 1, 1) := by decide +kernel
theorem dJ9_floorDiv_7cf53_6 : decode cJ9_floorDiv_7cf53 6 = .ok (.ixor, 1) := by decide +kernel
theorem dJ9_floorDiv_7cf53_7 : decode cJ9_floorDiv_7cf53 7 = .ok (.ifCond .ge 14, 3) := by decide +kernel
theorem dJ9_floorDiv_7cf53_10 : decode cJ9_floorDiv_7cf53 10 = .ok (.iload_n 2, 1) := by decide +kernel
theorem dJ9_floorDiv_7cf53_11 : decode cJ9_floorDiv_7cf53 11 = .ok (.iload_n 1, 1) := by decide +kernel
theorem dJ9_floorDiv_7cf53_12 : decode cJ9_floorDiv_7cf53 12 = .ok (.imul, 1) := by decide +kernel
theorem dJ9_floorDiv_7cf53_13 : decode cJ9_floorDiv_7cf53 13 = .ok (.iload_n 0, 1) := by decide +kernel
theorem dJ9_floorDiv_7cf53_14 : decode cJ9_floorDiv_7cf53 14 = .ok (.if_icmp .eq 7, 3) := by decide +kernel
theorem dJ9_floorDiv_7cf53_17 : decode cJ9_floorDiv_7cf53 17 = .ok (.iload_n 2, 1) := by decide +kernel
theorem dJ9_floorDiv_7cf53_18 : decode cJ9_floorDiv_7cf53 18 = .ok (.iconst 1, 1) := by decide +kernel
theorem dJ9_floorDiv_7cf53_19 : decode cJ9_floorDiv_7cf53 19 = .ok (.isub, 1) := by decide +kernel
theorem dJ9_floorDiv_7cf53_20 : decode cJ9_floorDiv_7cf53 20 = .ok (.ireturn, 1) := by decide +kernel
theorem dJ9_floorDiv_7cf53_21 : decode cJ9_floorDiv_7cf53 21 = .ok (.iload_n 2, 1) := by decide +kernel
theorem dJ9_floorDiv_7cf53_22 : decode cJ9_floorDiv_7cf53 22 = .ok (.ireturn, 1) := by decide +kernel
theorem dJ9_max_7cf53_0 : decode cJ9_max_7cf53 0 = .ok (.iload_n 0, 1) := by decide +kernel
theorem dJ9_max_7cf53_1 : decode cJ9_max_7cf53 1 = .ok (.iload_n 1, 1) := by decide +kernel
theorem dJ9_max_7cf53_2 : decode cJ9_max_7cf53 2 = .ok (.if_icmp .lt 7, 3) := by decide +kernel
theorem dJ9_max_7cf53_5 : decode cJ9_max_7cf53 5 = .ok (.iload_n 0, 1) := by decide +kernel
theorem dJ9_max_7cf53_6 : decode cJ9_max_7cf53 6 = .ok (.goto 4, 3) := by decide +kernel
theorem dJ9_max_7cf53_9 : decode cJ9_max_7cf53 9 = .ok (.iload_n 1, 1) := by decide +kernel
theorem dJ9_max_7cf53_10 : decode cJ9_max_7cf53 10 = .ok (.ireturn, 1) := by decide +kernel
theorem dJ9_min_7cf53_0 : decode cJ9_min_7cf53 0 = .ok (.iload_n 0, 1) := by decide +kernel
theorem dJ9_min_7cf53_1 : decode cJ9_min_7cf53 1 = .ok (.iload_n 1, 1) := by decide +kernel
theorem dJ9_min_7cf53_2 : decode cJ9_min_7cf53 2 = .ok (.if_icmp .gt 7, 3) := by decide +kernel
theorem dJ9_min_7cf53_5 : decode cJ9_min_7cf53 5 = .ok (.iload_n 0, 1) := by decide +kernel
theorem dJ9_min_7cf53_6 : decode cJ9_min_7cf53 6 = .ok (.goto 4, 3) := by decide +kernel
theorem dJ9_min_7cf53_9 : decode cJ9_min_7cf53 9 = .ok (.iload_n 1, 1) := by decide +kernel
theorem dJ9_min_7cf53_10 : decode cJ9_min_7cf53 10 = .ok (.ireturn, 1) := by decide +kernel
