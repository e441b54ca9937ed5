theorem dX3_init_0 : decode cX3_init 0 = .ok (.aload_n 0, 1) := by decide +kernel
theorem dX3_init_1 : decode cX3_init 1 = .ok (.invokespecial 1, 3) := by decide +kernel
theorem dX3_init_4 : decode cX3_init 4 = .ok (.aload_n 0, 1) := by decide +kernel
theorem dX3_init_5 : decode cX3_init 5 = .ok (.new 7, 3) := by decide +kernel
theorem dX3_init_8 : decode cX3_init 8 = .ok (.dup, 1) := by decide +kernel
theorem dX3_init_9 : decode cX3_init 9 = .ok (.invokespecial 9, 3) := by decide +kernel
theorem dX3_init_12 : decode cX3_init 12 = .ok (.putfield 10, 3) := by decide +kernel
theorem dX3_init_15 : decode cX3_init 15 = .ok (.aload_n 0, 1) := by decide +kernel
theorem dX3_init_16 : decode cX3_init 16 = .ok (.new 16, 3) := by decide +kernel
theorem dX3_init_19 : decode cX3_init 19 = .ok (.dup, 1) := by decide +kernel
theorem dX3_init_20 : decode cX3_init 20 = .ok (.invokespecial 18, 3) := by decide +kernel
theorem dX3_init_23 : decode cX3_init 23 = .ok (.putfield 19, 3) := by decide +kernel
theorem dX3_init_26 : decode cX3_init 26 = .ok (.aload_n 0, 1) := by decide +kernel
theorem dX3_init_27 : decode cX3_init 27 = .ok (.new 23, 3) := by decide +kernel
theorem dX3_init_30 : decode cX3_init 30 = .ok (.dup, 1) := by decide +kernel
theorem dX3_init_31 : decode cX3_init 31 = .ok (.iconst 1, 1) := by decide +kernel
theorem dX3_init_32 : decode cX3_init 32 = .ok (.bipush 24, 2) := by decide +kernel
theorem dX3_init_34 : decode cX3_init 34 = .ok (.iload_n 1, 1) := by decide +kernel
theorem dX3_init_35 : decode cX3_init 35 = .ok (.invokestatic 25, 3) := by decide +kernel
theorem dX3_init_38 : decode cX3_init 38 = .ok (.invokestatic 31, 3) := by decide +kernel
theorem dX3_init_41 : decode cX3_init 41 = .ok (.invokespecial 34, 3) := by decide +kernel
theorem dX3_init_44 : decode cX3_init 44 = .ok (.putfield 37, 3) := by decide +kernel
theorem dX3_init_47 : decode cX3_init 47 = .ok (.aload_n 0, 1) := by decide +kernel
theorem dX3_init_48 : decode cX3_init 48 = .ok (.iconst 1, 1) := by decide +kernel
theorem dX3_init_49 : decode cX3_init 49 = .ok (.putfield 41, 3) := by decide +kernel
theorem dX3_init_52 : decode cX3_init 52 = .ok (.aload_n 0, 1) := by decide +kernel
theorem dX3_init_53 : decode cX3_init 53 = .ok (.iconst 0, 1) := by decide +kernel
theorem dX3_init_54 : decode cX3_init 54 = .ok (.putfield 45, 3) := by decide +kernel
theorem dX3_init_57 : decode cX3_init 57 = .ok (.aload_n 0, 1) := by decide +kernel
theorem dX3_init_58 : decode cX3_init 58 = .ok (.iconst (-1), 1) := by decide +kernel
theorem dX3_init_59 : decode cX3_init 59 = .ok (.putfield 48, 3) := by decide +kernel
theorem dX3_init_62 : decode cX3_init 62 = .ok (.aload_n 0, 1) := by decide +kernel
theorem dX3_init_63 : decode cX3_init 63 = .ok (.iconst (-1), 1) := by decide +kernel
theorem dX3_init_64 : decode cX3_init 64 = .ok (.putfield 51, 3) := by decide +kernel
theorem dX3_init_67 : decode cX3_init 67 = .ok (.return_, 1) := by decide +kernel
theorem dX3_kind_0 : decode cX3_kind 0 = .ok (.iload_n 1, 1) := by decide +kernel
theorem dX3_kind_1 : decode cX3_kind 1 = .ok (.iconst 0, 1) := by decide +kernel
theorem dX3_kind_2 : decode cX3_kind 2 = .ok (.sipush 200, 3) := by decide +kernel
theorem dX3_kind_5 : decode cX3_kind 5 = .ok (.invokestatic 54, 3) := by decide +kernel
theorem dX3_kind_8 : decode cX3_kind 8 = .ok (.ifCond .eq 13, 3) := by decide +kernel
theorem dX3_kind_11 : decode cX3_kind 11 = .ok (.iload_n 2, 1) := by decide +kernel
theorem dX3_kind_12 : decode cX3_kind 12 = .ok (.iconst 0, 1) := by decide +kernel
theorem dX3_kind_13 : decode cX3_kind 13 = .ok (.bipush 99, 2) := by decide +kernel
theorem dX3_kind_15 : decode cX3_kind 15 = .ok (.invokestatic 54, 3) := by decide +kernel
theorem dX3_kind_18 : decode cX3_kind 18 = .ok (.ifCond .ne 6, 3) := by decide +kernel
theorem dX3_kind_21 : decode cX3_kind 21 = .ok (.bipush (-2), 2) := by decide +kernel
theorem dX3_kind_23 : decode cX3_kind 23 = .ok (.ireturn, 1) := by decide +kernel
theorem dX3_kind_24 : decode cX3_kind 24 = .ok (.aload_n 0, 1) := by decide +kernel
theorem dX3_kind_25 : decode cX3_kind 25 = .ok (.getfield 10, 3) := by decide +kernel
theorem dX3_kind_28 : decode cX3_kind 28 = .ok (.invokevirtual 58, 3) := by decide +kernel
theorem dX3_kind_31 : decode cX3_kind 31 = .ok (.ifCond .eq 8, 3) := by decide +kernel
theorem dX3_kind_34 : decode cX3_kind 34 = .ok (.bipush (-4), 2) := by decide +kernel
theorem dX3_kind_36 : decode cX3_kind 36 = .ok (.goto 12, 3) := by decide +kernel
theorem dX3_kind_39 : decode cX3_kind 39 = .ok (.aload_n 0, 1) := by decide +kernel
theorem dX3_kind_40 : decode cX3_kind 40 = .ok (.getfield 10, 3) := by decide +kernel
theorem dX3_kind_43 : decode cX3_kind 43 = .ok (.iload_n 1, 1) := by decide +kernel
theorem dX3_kind_44 : decode cX3_kind 44 = .ok (.iload_n 2, 1) := by decide +kernel
theorem dX3_kind_45 : decode cX3_kind 45 = .ok (.invokevirtual 62, 3) := by decide +kernel
theorem dX3_kind_48 : decode cX3_kind 48 = .ok (.ireturn, 1) := by decide +kernel
theorem dX3_more_0 : decode cX3_more 0 = .ok (.aload_n 0, 1) := by decide +kernel
theorem dX3_more_1 : decode cX3_more 1 = .ok (.getfield 10, 3) := by decide +kernel
theorem dX3_more_4 : decode cX3_more 4 = .ok (.iload_n 1, 1) := by decide +kernel
theorem dX3_more_5 : decode cX3_more 5 = .ok (.invokevirtual 65, 3) := by decide +kernel
theorem dX3_more_8 : decode cX3_more 8 = .ok (.ifCond .ne 5, 3) := by decide +kernel
theorem dX3_more_11 : decode cX3_more 11 = .ok (.iconst (-1), 1) := by decide +kernel
theorem dX3_more_12 : decode cX3_more 12 = .ok (.ireturn, 1) := by decide +kernel
theorem dX3_more_13 : decode cX3_more 13 = .ok (.iload_n 2, 1) := by decide +kernel
theorem dX3_more_14 : decode cX3_more 14 = .ok (.iconst 1, 1) := by decide +kernel
theorem dX3_more_15 : decode cX3_more 15 = .ok (.bipush 99, 2) := by decide +kernel
theorem dX3_more_17 : decode cX3_more 17 = .ok (.invokestatic 54, 3) := by decide +kernel
theorem dX3_more_20 : decode cX3_more 20 = .ok (.ifCond .eq 15, 3) := by decide +kernel
theorem dX3_more_23 : decode cX3_more 23 = .ok (.aload_n 0, 1) := by decide +kernel
theorem dX3_more_24 : decode cX3_more 24 = .ok (.getfield 10, 3) := by decide +kernel
theorem dX3_more_27 : decode cX3_more 27 = .ok (.iload_n 1, 1) := by decide +kernel
theorem dX3_more_28 : decode cX3_more 28 = .ok (.iload_n 2, 1) := by decide +kernel
theorem dX3_more_29 : decode cX3_more 29 = .ok (.invokevirtual 69, 3) := by decide +kernel
theorem dX3_more_32 : decode cX3_more 32 = .ok (.goto 5, 3) := by decide +kernel
theorem dX3_more_35 : decode cX3_more 35 = .ok (.bipush (-2), 2) := by decide +kernel
theorem dX3_more_37 : decode cX3_more 37 = .ok (.ireturn, 1) := by decide +kernel
theorem dX3_line_0 : decode cX3_line 0 = .ok (.aload_n 0, 1) := by decide +kernel
theorem dX3_line_1 : decode cX3_line 1 = .ok (.iload_n 1, 1) := by decide +kernel
theorem dX3_line_2 : decode cX3_line 2 = .ok (.invokevirtual 72, 3) := by decide +kernel
theorem dX3_line_5 : decode cX3_line 5 = .ok (.iload_n 2, 1) := by decide +kernel
theorem dX3_line_6 : decode cX3_line 6 = .ok (.ldc 75, 2) := by decide +kernel
theorem dX3_line_8 : decode cX3_line 8 = .ok (.ldc 76, 2) := by decide +kernel
theorem dX3_line_10 : decode cX3_line 10 = .ok (.invokestatic 54, 3) := by decide +kernel
theorem dX3_line_13 : decode cX3_line 13 = .ok (.ifCond .eq 14, 3) := by decide +kernel
theorem dX3_line_16 : decode cX3_line 16 = .ok (.iload_n 3, 1) := by decide +kernel
theorem dX3_line_17 : decode cX3_line 17 = .ok (.ldc 75, 2) := by decide +kernel
theorem dX3_line_19 : decode cX3_line 19 = .ok (.ldc 76, 2) := by decide +kernel
theorem dX3_line_21 : decode cX3_line 21 = .ok (.invokestatic 54, 3) := by decide +kernel
theorem dX3_line_24 : decode cX3_line 24 = .ok (.ifCond .ne 6, 3) := by decide +kernel
theorem dX3_line_27 : decode cX3_line 27 = .ok (.bipush (-2), 2) := by decide +kernel
theorem dX3_line_29 : decode cX3_line 29 = .ok (.ireturn, 1) := by decide +kernel
theorem dX3_line_30 : decode cX3_line 30 = .ok (.aload_n 0, 1) := by decide +kernel
theorem dX3_line_31 : decode cX3_line 31 = .ok (.getfield 37, 3) := by decide +kernel
theorem dX3_line_34 : decode cX3_line 34 = .ok (.iload_n 1, 1) := by decide +kernel
theorem dX3_line_35 : decode cX3_line 35 = .ok (.invokevirtual 77, 3) := by decide +kernel
theorem dX3_line_38 : decode cX3_line 38 = .ok (.iconst 2, 1) := by decide +kernel
theorem dX3_line_39 : decode cX3_line 39 = .ok (.if_icmp .ne 6, 3) := by decide +kernel
theorem dX3_line_42 : decode cX3_line 42 = .ok (.bipush (-3), 2) := by decide +kernel
theorem dX3_line_44 : decode cX3_line 44 = .ok (.ireturn, 1) := by decide +kernel
theorem dX3_line_45 : decode cX3_line 45 = .ok (.aload_n 0, 1) := by decide +kernel
theorem dX3_line_46 : decode cX3_line 46 = .ok (.getfield 37, 3) := by decide +kernel
theorem dX3_line_49 : decode cX3_line 49 = .ok (.iload_n 1, 1) := by decide +kernel
theorem dX3_line_50 : decode cX3_line 50 = .ok (.iload_n 2, 1) := by decide +kernel
theorem dX3_line_51 : decode cX3_line 51 = .ok (.iload_n 3, 1) := by decide +kernel
theorem dX3_line_52 : decode cX3_line 52 = .ok (.invokevirtual 81, 3) := by decide +kernel
theorem dX3_line_55 : decode cX3_line 55 = .ok (.iconst 1, 1) := by decide +kernel
theorem dX3_line_56 : decode cX3_line 56 = .ok (.ireturn, 1) := by decide +kernel
theorem dX3_apart_0 : decode cX3_apart 0 = .ok (.iload_n 1, 1) := by decide +kernel
theorem dX3_apart_1 : decode cX3_apart 1 = .ok (.iconst 1, 1) := by decide +kernel
theorem dX3_apart_2 : decode cX3_apart 2 = .ok (.bipush 16, 2) := by decide +kernel
theorem dX3_apart_4 : decode cX3_apart 4 = .ok (.invokestatic 54, 3) := by decide +kernel
theorem dX3_apart_7 : decode cX3_apart 7 = .ok (.ifCond .ne 6, 3) := by decide +kernel
theorem dX3_apart_10 : decode cX3_apart 10 = .ok (.bipush (-2), 2) := by decide +kernel
theorem dX3_apart_12 : decode cX3_apart 12 = .ok (.ireturn, 1) := by decide +kernel
theorem dX3_apart_13 : decode cX3_apart 13 = .ok (.aload_n 0, 1) := by decide +kernel
theorem dX3_apart_14 : decode cX3_apart 14 = .ok (.getfield 19, 3) := by decide +kernel
theorem dX3_apart_17 : decode cX3_apart 17 = .ok (.iload_n 1, 1) := by decide +kernel
theorem dX3_apart_18 : decode cX3_apart 18 = .ok (.putfield 85, 3) := by decide +kernel
theorem dX3_apart_21 : decode cX3_apart 21 = .ok (.iconst 1, 1) := by decide +kernel
theorem dX3_apart_22 : decode cX3_apart 22 = .ok (.ireturn, 1) := by decide +kernel
theorem dX3_allow_0 : decode cX3_allow 0 = .ok (.aload_n 0, 1) := by decide +kernel
theorem dX3_allow_1 : decode cX3_allow 1 = .ok (.getfield 19, 3) := by decide +kernel
theorem dX3_allow_4 : decode cX3_allow 4 = .ok (.iload_n 1, 1) := by decide +kernel
theorem dX3_allow_5 : decode cX3_allow 5 = .ok (.iload_n 2, 1) := by decide +kernel
theorem dX3_allow_6 : decode cX3_allow 6 = .ok (.invokevirtual 88, 3) := by decide +kernel
theorem dX3_allow_9 : decode cX3_allow 9 = .ok (.ireturn, 1) := by decide +kernel
theorem dX3_look_0 : decode cX3_look 0 = .ok (.iload_n 1, 1) := by decide +kernel
theorem dX3_look_1 : decode cX3_look 1 = .ok (.iconst 1, 1) := by decide +kernel
theorem dX3_look_2 : decode cX3_look 2 = .ok (.iconst 2, 1) := by decide +kernel
theorem dX3_look_3 : decode cX3_look 3 = .ok (.invokestatic 54, 3) := by decide +kernel
theorem dX3_look_6 : decode cX3_look 6 = .ok (.ifCond .ne 6, 3) := by decide +kernel
theorem dX3_look_9 : decode cX3_look 9 = .ok (.bipush (-2), 2) := by decide +kernel
theorem dX3_look_11 : decode cX3_look 11 = .ok (.ireturn, 1) := by decide +kernel
theorem dX3_look_12 : decode cX3_look 12 = .ok (.aload_n 0, 1) := by decide +kernel
theorem dX3_look_13 : decode cX3_look 13 = .ok (.iload_n 1, 1) := by decide +kernel
theorem dX3_look_14 : decode cX3_look 14 = .ok (.putfield 41, 3) := by decide +kernel
theorem dX3_look_17 : decode cX3_look 17 = .ok (.iconst 1, 1) := by decide +kernel
theorem dX3_look_18 : decode cX3_look 18 = .ok (.ireturn, 1) := by decide +kernel
theorem dX3_run_0 : decode cX3_run 0 = .ok (.aload_n 0, 1) := by decide +kernel
theorem dX3_run_1 : decode cX3_run 1 = .ok (.dup, 1) := by decide +kernel
theorem dX3_run_2 : decode cX3_run 2 = .ok (.getfield 45, 3) := by decide +kernel
theorem dX3_run_5 : decode cX3_run 5 = .ok (.iconst 1, 1) := by decide +kernel
theorem dX3_run_6 : decode cX3_run 6 = .ok (.iadd, 1) := by decide +kernel
theorem dX3_run_7 : decode cX3_run 7 = .ok (.putfield 45, 3) := by decide +kernel
theorem dX3_run_10 : decode cX3_run 10 = .ok (.aload_n 0, 1) := by decide +kernel
theorem dX3_run_11 : decode cX3_run 11 = .ok (.invokevirtual 92, 3) := by decide +kernel
theorem dX3_run_14 : decode cX3_run 14 = .ok (.iconst 1, 1) := by decide +kernel
theorem dX3_run_15 : decode cX3_run 15 = .ok (.istore_n 1, 1) := by decide +kernel
theorem dX3_run_16 : decode cX3_run 16 = .ok (.aload_n 0, 1) := by decide +kernel
theorem dX3_run_17 : decode cX3_run 17 = .ok (.getfield 37, 3) := by decide +kernel
theorem dX3_run_20 : decode cX3_run 20 = .ok (.getfield 95, 3) := by decide +kernel
theorem dX3_run_23 : decode cX3_run 23 = .ok (.istore_n 2, 1) := by decide +kernel
theorem dX3_run_24 : decode cX3_run 24 = .ok (.iload_n 1, 1) := by decide +kernel
theorem dX3_run_25 : decode cX3_run 25 = .ok (.ifCond .eq 26, 3) := by decide +kernel
theorem dX3_run_28 : decode cX3_run 28 = .ok (.iload_n 2, 1) := by decide +kernel
theorem dX3_run_29 : decode cX3_run 29 = .ok (.aload_n 0, 1) := by decide +kernel
theorem dX3_run_30 : decode cX3_run 30 = .ok (.getfield 37, 3) := by decide +kernel
theorem dX3_run_33 : decode cX3_run 33 = .ok (.getfield 98, 3) := by decide +kernel
theorem dX3_run_36 : decode cX3_run 36 = .ok (.if_icmp .ge 15, 3) := by decide +kernel
theorem dX3_run_39 : decode cX3_run 39 = .ok (.aload_n 0, 1) := by decide +kernel
theorem dX3_run_40 : decode cX3_run 40 = .ok (.iload_n 2, 1) := by decide +kernel
theorem dX3_run_41 : decode cX3_run 41 = .ok (.invokevirtual 101, 3) := by decide +kernel
theorem dX3_run_44 : decode cX3_run 44 = .ok (.istore_n 1, 1) := by decide +kernel
theorem dX3_run_45 : decode cX3_run 45 = .ok (.iinc 2 1, 3) := by decide +kernel
theorem dX3_run_48 : decode cX3_run 48 = .ok (.goto (-24), 3) := by decide +kernel
theorem dX3_run_51 : decode cX3_run 51 = .ok (.aload_n 0, 1) := by decide +kernel
theorem dX3_run_52 : decode cX3_run 52 = .ok (.getfield 37, 3) := by decide +kernel
theorem dX3_run_55 : decode cX3_run 55 = .ok (.getfield 104, 3) := by decide +kernel
theorem dX3_run_58 : decode cX3_run 58 = .ok (.ireturn, 1) := by decide +kernel
theorem dX3_build_0 : decode cX3_build 0 = .ok (.iload_n 1, 1) := by decide +kernel
theorem dX3_build_1 : decode cX3_build 1 = .ok (.iconst 1, 1) := by decide +kernel
theorem dX3_build_2 : decode cX3_build 2 = .ok (.if_icmp .ge 6, 3) := by decide +kernel
theorem dX3_build_5 : decode cX3_build 5 = .ok (.bipush (-2), 2) := by decide +kernel
theorem dX3_build_7 : decode cX3_build 7 = .ok (.ireturn, 1) := by decide +kernel
theorem dX3_build_8 : decode cX3_build 8 = .ok (.iload_n 1, 1) := by decide +kernel
theorem dX3_build_9 : decode cX3_build 9 = .ok (.aload_n 0, 1) := by decide +kernel
theorem dX3_build_10 : decode cX3_build 10 = .ok (.getfield 37, 3) := by decide +kernel
theorem dX3_build_13 : decode cX3_build 13 = .ok (.getfield 104, 3) := by decide +kernel
theorem dX3_build_16 : decode cX3_build 16 = .ok (.if_icmp .le 6, 3) := by decide +kernel
theorem dX3_build_19 : decode cX3_build 19 = .ok (.bipush (-3), 2) := by decide +kernel
theorem dX3_build_21 : decode cX3_build 21 = .ok (.ireturn, 1) := by decide +kernel
theorem dX3_build_22 : decode cX3_build 22 = .ok (.aload_n 0, 1) := by decide +kernel
theorem dX3_build_23 : decode cX3_build 23 = .ok (.getfield 37, 3) := by decide +kernel
theorem dX3_build_26 : decode cX3_build 26 = .ok (.dup, 1) := by decide +kernel
theorem dX3_build_27 : decode cX3_build 27 = .ok (.getfield 104, 3) := by decide +kernel
theorem dX3_build_30 : decode cX3_build 30 = .ok (.iload_n 1, 1) := by decide +kernel
theorem dX3_build_31 : decode cX3_build 31 = .ok (.isub, 1) := by decide +kernel
theorem dX3_build_32 : decode cX3_build 32 = .ok (.putfield 104, 3) := by decide +kernel
theorem dX3_build_35 : decode cX3_build 35 = .ok (.aload_n 0, 1) := by decide +kernel
theorem dX3_build_36 : decode cX3_build 36 = .ok (.getfield 37, 3) := by decide +kernel
theorem dX3_build_39 : decode cX3_build 39 = .ok (.dup, 1) := by decide +kernel
theorem dX3_build_40 : decode cX3_build 40 = .ok (.getfield 95, 3) := by decide +kernel
theorem dX3_build_43 : decode cX3_build 43 = .ok (.iload_n 1, 1) := by decide +kernel
theorem dX3_build_44 : decode cX3_build 44 = .ok (.iadd, 1) := by decide +kernel
theorem dX3_build_45 : decode cX3_build 45 = .ok (.putfield 95, 3) := by decide +kernel
theorem dX3_build_48 : decode cX3_build 48 = .ok (.aload_n 0, 1) := by decide +kernel
theorem dX3_build_49 : decode cX3_build 49 = .ok (.getfield 37, 3) := by decide +kernel
theorem dX3_build_52 : decode cX3_build 52 = .ok (.getfield 95, 3) := by decide +kernel
theorem dX3_build_55 : decode cX3_build 55 = .ok (.ireturn, 1) := by decide +kernel
theorem dX3_survey_0 : decode cX3_survey 0 = .ok (.aload_n 0, 1) := by decide +kernel
theorem dX3_survey_1 : decode cX3_survey 1 = .ok (.iload_n 1, 1) := by decide +kernel
theorem dX3_survey_2 : decode cX3_survey 2 = .ok (.invokevirtual 72, 3) := by decide +kernel
theorem dX3_survey_5 : decode cX3_survey 5 = .ok (.iload_n 2, 1) := by decide +kernel
theorem dX3_survey_6 : decode cX3_survey 6 = .ok (.ldc 107, 2) := by decide +kernel
theorem dX3_survey_8 : decode cX3_survey 8 = .ok (.ldc 108, 2) := by decide +kernel
theorem dX3_survey_10 : decode cX3_survey 10 = .ok (.invokestatic 54, 3) := by decide +kernel
theorem dX3_survey_13 : decode cX3_survey 13 = .ok (.ifCond .eq 14, 3) := by decide +kernel
theorem dX3_survey_16 : decode cX3_survey 16 = .ok (.iload_n 3, 1) := by decide +kernel
theorem dX3_survey_17 : decode cX3_survey 17 = .ok (.ldc 107, 2) := by decide +kernel
theorem dX3_survey_19 : decode cX3_survey 19 = .ok (.ldc 108, 2) := by decide +kernel
theorem dX3_survey_21 : decode cX3_survey 21 = .ok (.invokestatic 54, 3) := by decide +kernel
theorem dX3_survey_24 : decode cX3_survey 24 = .ok (.ifCond .ne 6, 3) := by decide +kernel
theorem dX3_survey_27 : decode cX3_survey 27 = .ok (.bipush (-2), 2) := by decide +kernel
theorem dX3_survey_29 : decode cX3_survey 29 = .ok (.ireturn, 1) := by decide +kernel
theorem dX3_survey_30 : decode cX3_survey 30 = .ok (.aload_n 0, 1) := by decide +kernel
theorem dX3_survey_31 : decode cX3_survey 31 = .ok (.getfield 37, 3) := by decide +kernel
theorem dX3_survey_34 : decode cX3_survey 34 = .ok (.iload_n 1, 1) := by decide +kernel
theorem dX3_survey_35 : decode cX3_survey 35 = .ok (.invokevirtual 77, 3) := by decide +kernel
theorem dX3_survey_38 : decode cX3_survey 38 = .ok (.iconst 2, 1) := by decide +kernel
theorem dX3_survey_39 : decode cX3_survey 39 = .ok (.if_icmp .eq 6, 3) := by decide +kernel
theorem dX3_survey_42 : decode cX3_survey 42 = .ok (.bipush (-3), 2) := by decide +kernel
theorem dX3_survey_44 : decode cX3_survey 44 = .ok (.ireturn, 1) := by decide +kernel
theorem dX3_survey_45 : decode cX3_survey 45 = .ok (.aload_n 0, 1) := by decide +kernel
theorem dX3_survey_46 : decode cX3_survey 46 = .ok (.invokevirtual 92, 3) := by decide +kernel
theorem dX3_survey_49 : decode cX3_survey 49 = .ok (.aload_n 0, 1) := by decide +kernel
theorem dX3_survey_50 : decode cX3_survey 50 = .ok (.getfield 37, 3) := by decide +kernel
theorem dX3_survey_53 : decode cX3_survey 53 = .ok (.iload_n 1, 1) := by decide +kernel
theorem dX3_survey_54 : decode cX3_survey 54 = .ok (.iload_n 2, 1) := by decide +kernel
theorem dX3_survey_55 : decode cX3_survey 55 = .ok (.iload_n 3, 1) := by decide +kernel
theorem dX3_survey_56 : decode cX3_survey 56 = .ok (.invokevirtual 109, 3) := by decide +kernel
theorem dX3_survey_59 : decode cX3_survey 59 = .ok (.aload_n 0, 1) := by decide +kernel
theorem dX3_survey_60 : decode cX3_survey 60 = .ok (.getfield 37, 3) := by decide +kernel
theorem dX3_survey_63 : decode cX3_survey 63 = .ok (.getfield 95, 3) := by decide +kernel
theorem dX3_survey_66 : decode cX3_survey 66 = .ok (.iload_n 1, 1) := by decide +kernel
theorem dX3_survey_67 : decode cX3_survey 67 = .ok (.isub, 1) := by decide +kernel
theorem dX3_survey_68 : decode cX3_survey 68 = .ok (.ireturn, 1) := by decide +kernel
theorem dX3_replace_0 : decode cX3_replace 0 = .ok (.aload_n 0, 1) := by decide +kernel
theorem dX3_replace_1 : decode cX3_replace 1 = .ok (.iload_n 1, 1) := by decide +kernel
theorem dX3_replace_2 : decode cX3_replace 2 = .ok (.invokevirtual 72, 3) := by decide +kernel
theorem dX3_replace_5 : decode cX3_replace 5 = .ok (.aload_n 0, 1) := by decide +kernel
theorem dX3_replace_6 : decode cX3_replace 6 = .ok (.getfield 10, 3) := by decide +kernel
theorem dX3_replace_9 : decode cX3_replace 9 = .ok (.iload_n 2, 1) := by decide +kernel
theorem dX3_replace_10 : decode cX3_replace 10 = .ok (.invokevirtual 65, 3) := by decide +kernel
theorem dX3_replace_13 : decode cX3_replace 13 = .ok (.ifCond .ne 5, 3) := by decide +kernel
theorem dX3_replace_16 : decode cX3_replace 16 = .ok (.iconst (-1), 1) := by decide +kernel
theorem dX3_replace_17 : decode cX3_replace 17 = .ok (.ireturn, 1) := by decide +kernel
theorem dX3_replace_18 : decode cX3_replace 18 = .ok (.aload_n 0, 1) := by decide +kernel
theorem dX3_replace_19 : decode cX3_replace 19 = .ok (.getfield 37, 3) := by decide +kernel
theorem dX3_replace_22 : decode cX3_replace 22 = .ok (.iload_n 1, 1) := by decide +kernel
theorem dX3_replace_23 : decode cX3_replace 23 = .ok (.invokevirtual 77, 3) := by decide +kernel
theorem dX3_replace_26 : decode cX3_replace 26 = .ok (.iconst 1, 1) := by decide +kernel
theorem dX3_replace_27 : decode cX3_replace 27 = .ok (.if_icmp .ne 28, 3) := by decide +kernel
theorem dX3_replace_30 : decode cX3_replace 30 = .ok (.aload_n 0, 1) := by decide +kernel
theorem dX3_replace_31 : decode cX3_replace 31 = .ok (.getfield 37, 3) := by decide +kernel
theorem dX3_replace_34 : decode cX3_replace 34 = .ok (.getfield 112, 3) := by decide +kernel
theorem dX3_replace_37 : decode cX3_replace 37 = .ok (.iload_n 1, 1) := by decide +kernel
theorem dX3_replace_38 : decode cX3_replace 38 = .ok (.iaload, 1) := by decide +kernel
theorem dX3_replace_39 : decode cX3_replace 39 = .ok (.iload_n 2, 1) := by decide +kernel
theorem dX3_replace_40 : decode cX3_replace 40 = .ok (.if_icmp .eq 15, 3) := by decide +kernel
theorem dX3_replace_43 : decode cX3_replace 43 = .ok (.aload_n 0, 1) := by decide +kernel
theorem dX3_replace_44 : decode cX3_replace 44 = .ok (.getfield 10, 3) := by decide +kernel
theorem dX3_replace_47 : decode cX3_replace 47 = .ok (.iload_n 2, 1) := by decide +kernel
theorem dX3_replace_48 : decode cX3_replace 48 = .ok (.invokevirtual 116, 3) := by decide +kernel
theorem dX3_replace_51 : decode cX3_replace 51 = .ok (.iconst 1, 1) := by decide +kernel
theorem dX3_replace_52 : decode cX3_replace 52 = .ok (.if_icmp .ge 6, 3) := by decide +kernel
theorem dX3_replace_55 : decode cX3_replace 55 = .ok (.bipush (-3), 2) := by decide +kernel
theorem dX3_replace_57 : decode cX3_replace 57 = .ok (.ireturn, 1) := by decide +kernel
theorem dX3_replace_58 : decode cX3_replace 58 = .ok (.aload_n 0, 1) := by decide +kernel
theorem dX3_replace_59 : decode cX3_replace 59 = .ok (.getfield 10, 3) := by decide +kernel
theorem dX3_replace_62 : decode cX3_replace 62 = .ok (.aload_n 0, 1) := by decide +kernel
theorem dX3_replace_63 : decode cX3_replace 63 = .ok (.getfield 37, 3) := by decide +kernel
theorem dX3_replace_66 : decode cX3_replace 66 = .ok (.getfield 112, 3) := by decide +kernel
theorem dX3_replace_69 : decode cX3_replace 69 = .ok (.iload_n 1, 1) := by decide +kernel
theorem dX3_replace_70 : decode cX3_replace 70 = .ok (.iaload, 1) := by decide +kernel
theorem dX3_replace_71 : decode cX3_replace 71 = .ok (.invokevirtual 119, 3) := by decide +kernel
theorem dX3_replace_74 : decode cX3_replace 74 = .ok (.aload_n 0, 1) := by decide +kernel
theorem dX3_replace_75 : decode cX3_replace 75 = .ok (.getfield 10, 3) := by decide +kernel
theorem dX3_replace_78 : decode cX3_replace 78 = .ok (.iload_n 2, 1) := by decide +kernel
theorem dX3_replace_79 : decode cX3_replace 79 = .ok (.invokevirtual 122, 3) := by decide +kernel
theorem dX3_replace_82 : decode cX3_replace 82 = .ok (.aload_n 0, 1) := by decide +kernel
theorem dX3_replace_83 : decode cX3_replace 83 = .ok (.getfield 37, 3) := by decide +kernel
theorem dX3_replace_86 : decode cX3_replace 86 = .ok (.getfield 112, 3) := by decide +kernel
theorem dX3_replace_89 : decode cX3_replace 89 = .ok (.iload_n 1, 1) := by decide +kernel
theorem dX3_replace_90 : decode cX3_replace 90 = .ok (.iload_n 2, 1) := by decide +kernel
theorem dX3_replace_91 : decode cX3_replace 91 = .ok (.iastore, 1) := by decide +kernel
theorem dX3_replace_92 : decode cX3_replace 92 = .ok (.aload_n 0, 1) := by decide +kernel
theorem dX3_replace_93 : decode cX3_replace 93 = .ok (.iload_n 1, 1) := by decide +kernel
theorem dX3_replace_94 : decode cX3_replace 94 = .ok (.invokevirtual 125, 3) := by decide +kernel
theorem dX3_replace_97 : decode cX3_replace 97 = .ok (.iconst 1, 1) := by decide +kernel
theorem dX3_replace_98 : decode cX3_replace 98 = .ok (.ireturn, 1) := by decide +kernel
theorem dX3_kindOf_0 : decode cX3_kindOf 0 = .ok (.aload_n 0, 1) := by decide +kernel
theorem dX3_kindOf_1 : decode cX3_kindOf 1 = .ok (.getfield 37, 3) := by decide +kernel
theorem dX3_kindOf_4 : decode cX3_kindOf 4 = .ok (.iload_n 1, 1) := by decide +kernel
theorem dX3_kindOf_5 : decode cX3_kindOf 5 = .ok (.invokevirtual 128, 3) := by decide +kernel
theorem dX3_kindOf_8 : decode cX3_kindOf 8 = .ok (.ifCond .eq 15, 3) := by decide +kernel
theorem dX3_kindOf_11 : decode cX3_kindOf 11 = .ok (.aload_n 0, 1) := by decide +kernel
theorem dX3_kindOf_12 : decode cX3_kindOf 12 = .ok (.getfield 37, 3) := by decide +kernel
theorem dX3_kindOf_15 : decode cX3_kindOf 15 = .ok (.getfield 112, 3) := by decide +kernel
theorem dX3_kindOf_18 : decode cX3_kindOf 18 = .ok (.iload_n 1, 1) := by decide +kernel
theorem dX3_kindOf_19 : decode cX3_kindOf 19 = .ok (.iaload, 1) := by decide +kernel
theorem dX3_kindOf_20 : decode cX3_kindOf 20 = .ok (.goto 4, 3) := by decide +kernel
theorem dX3_kindOf_23 : decode cX3_kindOf 23 = .ok (.iconst (-1), 1) := by decide +kernel
theorem dX3_kindOf_24 : decode cX3_kindOf 24 = .ok (.ireturn, 1) := by decide +kernel
theorem dX3_turnOf_0 : decode cX3_turnOf 0 = .ok (.aload_n 0, 1) := by decide +kernel
theorem dX3_turnOf_1 : decode cX3_turnOf 1 = .ok (.getfield 37, 3) := by decide +kernel
theorem dX3_turnOf_4 : decode cX3_turnOf 4 = .ok (.iload_n 1, 1) := by decide +kernel
theorem dX3_turnOf_5 : decode cX3_turnOf 5 = .ok (.invokevirtual 128, 3) := by decide +kernel
theorem dX3_turnOf_8 : decode cX3_turnOf 8 = .ok (.ifCond .eq 15, 3) := by decide +kernel
theorem dX3_turnOf_11 : decode cX3_turnOf 11 = .ok (.aload_n 0, 1) := by decide +kernel
theorem dX3_turnOf_12 : decode cX3_turnOf 12 = .ok (.getfield 37, 3) := by decide +kernel
theorem dX3_turnOf_15 : decode cX3_turnOf 15 = .ok (.getfield 131, 3) := by decide +kernel
theorem dX3_turnOf_18 : decode cX3_turnOf 18 = .ok (.iload_n 1, 1) := by decide +kernel
theorem dX3_turnOf_19 : decode cX3_turnOf 19 = .ok (.iaload, 1) := by decide +kernel
theorem dX3_turnOf_20 : decode cX3_turnOf 20 = .ok (.goto 4, 3) := by decide +kernel
theorem dX3_turnOf_23 : decode cX3_turnOf 23 = .ok (.iconst (-1), 1) := by decide +kernel
theorem dX3_turnOf_24 : decode cX3_turnOf 24 = .ok (.ireturn, 1) := by decide +kernel
theorem dX3_state_0 : decode cX3_state 0 = .ok (.aload_n 0, 1) := by decide +kernel
theorem dX3_state_1 : decode cX3_state 1 = .ok (.getfield 37, 3) := by decide +kernel
theorem dX3_state_4 : decode cX3_state 4 = .ok (.iload_n 1, 1) := by decide +kernel
theorem dX3_state_5 : decode cX3_state 5 = .ok (.invokevirtual 134, 3) := by decide +kernel
theorem dX3_state_8 : decode cX3_state 8 = .ok (.ifCond .eq 14, 3) := by decide +kernel
theorem dX3_state_11 : decode cX3_state 11 = .ok (.aload_n 0, 1) := by decide +kernel
theorem dX3_state_12 : decode cX3_state 12 = .ok (.getfield 37, 3) := by decide +kernel
theorem dX3_state_15 : decode cX3_state 15 = .ok (.iload_n 1, 1) := by decide +kernel
theorem dX3_state_16 : decode cX3_state 16 = .ok (.invokevirtual 77, 3) := by decide +kernel
theorem dX3_state_19 : decode cX3_state 19 = .ok (.goto 4, 3) := by decide +kernel
theorem dX3_state_22 : decode cX3_state 22 = .ok (.iconst (-1), 1) := by decide +kernel
theorem dX3_state_23 : decode cX3_state 23 = .ok (.ireturn, 1) := by decide +kernel
theorem dX3_place_0 : decode cX3_place 0 = .ok (.aload_n 0, 1) := by decide +kernel
theorem dX3_place_1 : decode cX3_place 1 = .ok (.iload_n 1, 1) := by decide +kernel
theorem dX3_place_2 : decode cX3_place 2 = .ok (.invokevirtual 135, 3) := by decide +kernel
theorem dX3_place_5 : decode cX3_place 5 = .ok (.iload_n 2, 1) := by decide +kernel
theorem dX3_place_6 : decode cX3_place 6 = .ok (.tableswitch 78 0 3 #[30, 42, 54, 66], 30) := by decide +kernel
theorem dX3_place_36 : decode cX3_place 36 = .ok (.aload_n 0, 1) := by decide +kernel
theorem dX3_place_37 : decode cX3_place 37 = .ok (.getfield 37, 3) := by decide +kernel
theorem dX3_place_40 : decode cX3_place 40 = .ok (.getfield 138, 3) := by decide +kernel
theorem dX3_place_43 : decode cX3_place 43 = .ok (.iload_n 1, 1) := by decide +kernel
theorem dX3_place_44 : decode cX3_place 44 = .ok (.iconst 1, 1) := by decide +kernel
theorem dX3_place_45 : decode cX3_place 45 = .ok (.iadd, 1) := by decide +kernel
theorem dX3_place_46 : decode cX3_place 46 = .ok (.laload, 1) := by decide +kernel
theorem dX3_place_47 : decode cX3_place 47 = .ok (.lreturn, 1) := by decide +kernel
theorem dX3_place_48 : decode cX3_place 48 = .ok (.aload_n 0, 1) := by decide +kernel
theorem dX3_place_49 : decode cX3_place 49 = .ok (.getfield 37, 3) := by decide +kernel
theorem dX3_place_52 : decode cX3_place 52 = .ok (.getfield 142, 3) := by decide +kernel
theorem dX3_place_55 : decode cX3_place 55 = .ok (.iload_n 1, 1) := by decide +kernel
theorem dX3_place_56 : decode cX3_place 56 = .ok (.iconst 1, 1) := by decide +kernel
theorem dX3_place_57 : decode cX3_place 57 = .ok (.iadd, 1) := by decide +kernel
theorem dX3_place_58 : decode cX3_place 58 = .ok (.laload, 1) := by decide +kernel
theorem dX3_place_59 : decode cX3_place 59 = .ok (.lreturn, 1) := by decide +kernel
theorem dX3_place_60 : decode cX3_place 60 = .ok (.aload_n 0, 1) := by decide +kernel
theorem dX3_place_61 : decode cX3_place 61 = .ok (.getfield 37, 3) := by decide +kernel
theorem dX3_place_64 : decode cX3_place 64 = .ok (.getfield 145, 3) := by decide +kernel
theorem dX3_place_67 : decode cX3_place 67 = .ok (.iload_n 1, 1) := by decide +kernel
theorem dX3_place_68 : decode cX3_place 68 = .ok (.iconst 1, 1) := by decide +kernel
theorem dX3_place_69 : decode cX3_place 69 = .ok (.iadd, 1) := by decide +kernel
theorem dX3_place_70 : decode cX3_place 70 = .ok (.laload, 1) := by decide +kernel
theorem dX3_place_71 : decode cX3_place 71 = .ok (.lreturn, 1) := by decide +kernel
theorem dX3_place_72 : decode cX3_place 72 = .ok (.aload_n 0, 1) := by decide +kernel
theorem dX3_place_73 : decode cX3_place 73 = .ok (.getfield 37, 3) := by decide +kernel
theorem dX3_place_76 : decode cX3_place 76 = .ok (.getfield 148, 3) := by decide +kernel
theorem dX3_place_79 : decode cX3_place 79 = .ok (.iload_n 1, 1) := by decide +kernel
theorem dX3_place_80 : decode cX3_place 80 = .ok (.iconst 1, 1) := by decide +kernel
theorem dX3_place_81 : decode cX3_place 81 = .ok (.iadd, 1) := by decide +kernel
theorem dX3_place_82 : decode cX3_place 82 = .ok (.laload, 1) := by decide +kernel
theorem dX3_place_83 : decode cX3_place 83 = .ok (.lreturn, 1) := by decide +kernel
theorem dX3_place_84 : decode cX3_place 84 = .ok (.new 151, 3) := by decide +kernel
theorem dX3_place_87 : decode cX3_place 87 = .ok (.dup, 1) := by decide +kernel
theorem dX3_place_88 : decode cX3_place 88 = .ok (.ldc 153, 2) := by decide +kernel
theorem dX3_place_90 : decode cX3_place 90 = .ok (.invokespecial 155, 3) := by decide +kernel
theorem dX3_place_93 : decode cX3_place 93 = .ok (.athrow, 1) := by decide +kernel
theorem dX3_off_0 : decode cX3_off 0 = .ok (.aload_n 0, 1) := by decide +kernel
theorem dX3_off_1 : decode cX3_off 1 = .ok (.iload_n 1, 1) := by decide +kernel
theorem dX3_off_2 : decode cX3_off 2 = .ok (.invokevirtual 135, 3) := by decide +kernel
theorem dX3_off_5 : decode cX3_off 5 = .ok (.aload_n 0, 1) := by decide +kernel
theorem dX3_off_6 : decode cX3_off 6 = .ok (.getfield 37, 3) := by decide +kernel
theorem dX3_off_9 : decode cX3_off 9 = .ok (.iload_n 1, 1) := by decide +kernel
theorem dX3_off_10 : decode cX3_off 10 = .ok (.invokevirtual 158, 3) := by decide +kernel
theorem dX3_off_13 : decode cX3_off 13 = .ok (.lreturn, 1) := by decide +kernel
theorem dX3_sum_0 : decode cX3_sum 0 = .ok (.lconst 0, 1) := by decide +kernel
theorem dX3_sum_1 : decode cX3_sum 1 = .ok (.lstore_n 1, 1) := by decide +kernel
theorem dX3_sum_2 : decode cX3_sum 2 = .ok (.iconst 0, 1) := by decide +kernel
theorem dX3_sum_3 : decode cX3_sum 3 = .ok (.istore_n 3, 1) := by decide +kernel
theorem dX3_sum_4 : decode cX3_sum 4 = .ok (.iload_n 3, 1) := by decide +kernel
theorem dX3_sum_5 : decode cX3_sum 5 = .ok (.aload_n 0, 1) := by decide +kernel
theorem dX3_sum_6 : decode cX3_sum 6 = .ok (.getfield 37, 3) := by decide +kernel
theorem dX3_sum_9 : decode cX3_sum 9 = .ok (.invokevirtual 162, 3) := by decide +kernel
theorem dX3_sum_12 : decode cX3_sum 12 = .ok (.if_icmp .ge 20, 3) := by decide +kernel
theorem dX3_sum_15 : decode cX3_sum 15 = .ok (.lload_n 1, 1) := by decide +kernel
theorem dX3_sum_16 : decode cX3_sum 16 = .ok (.aload_n 0, 1) := by decide +kernel
theorem dX3_sum_17 : decode cX3_sum 17 = .ok (.getfield 37, 3) := by decide +kernel
theorem dX3_sum_20 : decode cX3_sum 20 = .ok (.iload_n 3, 1) := by decide +kernel
theorem dX3_sum_21 : decode cX3_sum 21 = .ok (.invokevirtual 158, 3) := by decide +kernel
theorem dX3_sum_24 : decode cX3_sum 24 = .ok (.ladd, 1) := by decide +kernel
theorem dX3_sum_25 : decode cX3_sum 25 = .ok (.lstore_n 1, 1) := by decide +kernel
theorem dX3_sum_26 : decode cX3_sum 26 = .ok (.iinc 3 1, 3) := by decide +kernel
theorem dX3_sum_29 : decode cX3_sum 29 = .ok (.goto (-25), 3) := by decide +kernel
theorem dX3_sum_32 : decode cX3_sum 32 = .ok (.lload_n 1, 1) := by decide +kernel
theorem dX3_sum_33 : decode cX3_sum 33 = .ok (.lreturn, 1) := by decide +kernel
theorem dX3_stroke_0 : decode cX3_stroke 0 = .ok (.aload_n 0, 1) := by decide +kernel
theorem dX3_stroke_1 : decode cX3_stroke 1 = .ok (.getfield 37, 3) := by decide +kernel
theorem dX3_stroke_4 : decode cX3_stroke 4 = .ok (.iload_n 1, 1) := by decide +kernel
theorem dX3_stroke_5 : decode cX3_stroke 5 = .ok (.invokevirtual 128, 3) := by decide +kernel
theorem dX3_stroke_8 : decode cX3_stroke 8 = .ok (.ifCond .eq 10, 3) := by decide +kernel
theorem dX3_stroke_11 : decode cX3_stroke 11 = .ok (.iload_n 2, 1) := by decide +kernel
theorem dX3_stroke_12 : decode cX3_stroke 12 = .ok (.invokestatic 166, 3) := by decide +kernel
theorem dX3_stroke_15 : decode cX3_stroke 15 = .ok (.ifCond .ne 5, 3) := by decide +kernel
theorem dX3_stroke_18 : decode cX3_stroke 18 = .ok (.iconst 0, 1) := by decide +kernel
theorem dX3_stroke_19 : decode cX3_stroke 19 = .ok (.ireturn, 1) := by decide +kernel
theorem dX3_stroke_20 : decode cX3_stroke 20 = .ok (.aload_n 0, 1) := by decide +kernel
theorem dX3_stroke_21 : decode cX3_stroke 21 = .ok (.getfield 10, 3) := by decide +kernel
theorem dX3_stroke_24 : decode cX3_stroke 24 = .ok (.getfield 169, 3) := by decide +kernel
theorem dX3_stroke_27 : decode cX3_stroke 27 = .ok (.aload_n 0, 1) := by decide +kernel
theorem dX3_stroke_28 : decode cX3_stroke 28 = .ok (.getfield 37, 3) := by decide +kernel
theorem dX3_stroke_31 : decode cX3_stroke 31 = .ok (.getfield 112, 3) := by decide +kernel
theorem dX3_stroke_34 : decode cX3_stroke 34 = .ok (.iload_n 1, 1) := by decide +kernel
theorem dX3_stroke_35 : decode cX3_stroke 35 = .ok (.iaload, 1) := by decide +kernel
theorem dX3_stroke_36 : decode cX3_stroke 36 = .ok (.iaload, 1) := by decide +kernel
theorem dX3_stroke_37 : decode cX3_stroke 37 = .ok (.istore_n 3, 1) := by decide +kernel
theorem dX3_stroke_38 : decode cX3_stroke 38 = .ok (.iload_n 3, 1) := by decide +kernel
theorem dX3_stroke_39 : decode cX3_stroke 39 = .ok (.iload_n 2, 1) := by decide +kernel
theorem dX3_stroke_40 : decode cX3_stroke 40 = .ok (.aload_n 0, 1) := by decide +kernel
theorem dX3_stroke_41 : decode cX3_stroke 41 = .ok (.getfield 37, 3) := by decide +kernel
theorem dX3_stroke_44 : decode cX3_stroke 44 = .ok (.getfield 131, 3) := by decide +kernel
theorem dX3_stroke_47 : decode cX3_stroke 47 = .ok (.iload_n 1, 1) := by decide +kernel
theorem dX3_stroke_48 : decode cX3_stroke 48 = .ok (.iaload, 1) := by decide +kernel
theorem dX3_stroke_49 : decode cX3_stroke 49 = .ok (.isub, 1) := by decide +kernel
theorem dX3_stroke_50 : decode cX3_stroke 50 = .ok (.invokestatic 172, 3) := by decide +kernel
theorem dX3_stroke_53 : decode cX3_stroke 53 = .ok (.imul, 1) := by decide +kernel
theorem dX3_stroke_54 : decode cX3_stroke 54 = .ok (.bipush 64, 2) := by decide +kernel
theorem dX3_stroke_56 : decode cX3_stroke 56 = .ok (.invokestatic 175, 3) := by decide +kernel
theorem dX3_stroke_59 : decode cX3_stroke 59 = .ok (.ireturn, 1) := by decide +kernel
theorem dX3_left_0 : decode cX3_left 0 = .ok (.aload_n 0, 1) := by decide +kernel
theorem dX3_left_1 : decode cX3_left 1 = .ok (.getfield 10, 3) := by decide +kernel
theorem dX3_left_4 : decode cX3_left 4 = .ok (.iload_n 1, 1) := by decide +kernel
theorem dX3_left_5 : decode cX3_left 5 = .ok (.invokevirtual 65, 3) := by decide +kernel
theorem dX3_left_8 : decode cX3_left 8 = .ok (.ifCond .eq 14, 3) := by decide +kernel
theorem dX3_left_11 : decode cX3_left 11 = .ok (.aload_n 0, 1) := by decide +kernel
theorem dX3_left_12 : decode cX3_left 12 = .ok (.getfield 10, 3) := by decide +kernel
theorem dX3_left_15 : decode cX3_left 15 = .ok (.iload_n 1, 1) := by decide +kernel
theorem dX3_left_16 : decode cX3_left 16 = .ok (.invokevirtual 116, 3) := by decide +kernel
theorem dX3_left_19 : decode cX3_left 19 = .ok (.goto 4, 3) := by decide +kernel
theorem dX3_left_22 : decode cX3_left 22 = .ok (.iconst (-1), 1) := by decide +kernel
theorem dX3_left_23 : decode cX3_left 23 = .ok (.ireturn, 1) := by decide +kernel
theorem dX3_list_0 : decode cX3_list 0 = .ok (.iconst 0, 1) := by decide +kernel
theorem dX3_list_1 : decode cX3_list 1 = .ok (.istore_n 3, 1) := by decide +kernel
theorem dX3_list_2 : decode cX3_list 2 = .ok (.iconst 0, 1) := by decide +kernel
theorem dX3_list_3 : decode cX3_list 3 = .ok (.istore 4, 2) := by decide +kernel
theorem dX3_list_5 : decode cX3_list 5 = .ok (.iload 4, 2) := by decide +kernel
theorem dX3_list_7 : decode cX3_list 7 = .ok (.aload_n 0, 1) := by decide +kernel
theorem dX3_list_8 : decode cX3_list 8 = .ok (.getfield 37, 3) := by decide +kernel
theorem dX3_list_11 : decode cX3_list 11 = .ok (.invokevirtual 162, 3) := by decide +kernel
theorem dX3_list_14 : decode cX3_list 14 = .ok (.if_icmp .ge 34, 3) := by decide +kernel
theorem dX3_list_17 : decode cX3_list 17 = .ok (.aload_n 0, 1) := by decide +kernel
theorem dX3_list_18 : decode cX3_list 18 = .ok (.getfield 37, 3) := by decide +kernel
theorem dX3_list_21 : decode cX3_list 21 = .ok (.getfield 112, 3) := by decide +kernel
theorem dX3_list_24 : decode cX3_list 24 = .ok (.iload 4, 2) := by decide +kernel
theorem dX3_list_26 : decode cX3_list 26 = .ok (.iaload, 1) := by decide +kernel
theorem dX3_list_27 : decode cX3_list 27 = .ok (.iload_n 1, 1) := by decide +kernel
theorem dX3_list_28 : decode cX3_list 28 = .ok (.if_icmp .ne 14, 3) := by decide +kernel
theorem dX3_list_31 : decode cX3_list 31 = .ok (.iload_n 3, 1) := by decide +kernel
theorem dX3_list_32 : decode cX3_list 32 = .ok (.iload_n 2, 1) := by decide +kernel
theorem dX3_list_33 : decode cX3_list 33 = .ok (.if_icmp .ne 6, 3) := by decide +kernel
theorem dX3_list_36 : decode cX3_list 36 = .ok (.iload 4, 2) := by decide +kernel
theorem dX3_list_38 : decode cX3_list 38 = .ok (.ireturn, 1) := by decide +kernel
theorem dX3_list_39 : decode cX3_list 39 = .ok (.iinc 3 1, 3) := by decide +kernel
theorem dX3_list_42 : decode cX3_list 42 = .ok (.iinc 4 1, 3) := by decide +kernel
theorem dX3_list_45 : decode cX3_list 45 = .ok (.goto (-40), 3) := by decide +kernel
theorem dX3_list_48 : decode cX3_list 48 = .ok (.iconst (-1), 1) := by decide +kernel
theorem dX3_list_49 : decode cX3_list 49 = .ok (.ireturn, 1) := by decide +kernel
theorem dX3_count_0 : decode cX3_count 0 = .ok (.iload_n 1, 1) := by decide +kernel
theorem dX3_count_1 : decode cX3_count 1 = .ok (.tableswitch 105 0 7 #[47, 55, 63, 71, 79, 87, 92, 100], 47) := by decide +kernel
theorem dX3_count_48 : decode cX3_count 48 = .ok (.aload_n 0, 1) := by decide +kernel
theorem dX3_count_49 : decode cX3_count 49 = .ok (.getfield 37, 3) := by decide +kernel
theorem dX3_count_52 : decode cX3_count 52 = .ok (.getfield 98, 3) := by decide +kernel
theorem dX3_count_55 : decode cX3_count 55 = .ok (.ireturn, 1) := by decide +kernel
theorem dX3_count_56 : decode cX3_count 56 = .ok (.aload_n 0, 1) := by decide +kernel
theorem dX3_count_57 : decode cX3_count 57 = .ok (.getfield 37, 3) := by decide +kernel
theorem dX3_count_60 : decode cX3_count 60 = .ok (.getfield 95, 3) := by decide +kernel
theorem dX3_count_63 : decode cX3_count 63 = .ok (.ireturn, 1) := by decide +kernel
theorem dX3_count_64 : decode cX3_count 64 = .ok (.aload_n 0, 1) := by decide +kernel
theorem dX3_count_65 : decode cX3_count 65 = .ok (.getfield 37, 3) := by decide +kernel
theorem dX3_count_68 : decode cX3_count 68 = .ok (.getfield 104, 3) := by decide +kernel
theorem dX3_count_71 : decode cX3_count 71 = .ok (.ireturn, 1) := by decide +kernel
theorem dX3_count_72 : decode cX3_count 72 = .ok (.aload_n 0, 1) := by decide +kernel
theorem dX3_count_73 : decode cX3_count 73 = .ok (.getfield 10, 3) := by decide +kernel
theorem dX3_count_76 : decode cX3_count 76 = .ok (.getfield 178, 3) := by decide +kernel
theorem dX3_count_79 : decode cX3_count 79 = .ok (.ireturn, 1) := by decide +kernel
theorem dX3_count_80 : decode cX3_count 80 = .ok (.aload_n 0, 1) := by decide +kernel
theorem dX3_count_81 : decode cX3_count 81 = .ok (.getfield 19, 3) := by decide +kernel
theorem dX3_count_84 : decode cX3_count 84 = .ok (.getfield 85, 3) := by decide +kernel
theorem dX3_count_87 : decode cX3_count 87 = .ok (.ireturn, 1) := by decide +kernel
theorem dX3_count_88 : decode cX3_count 88 = .ok (.aload_n 0, 1) := by decide +kernel
theorem dX3_count_89 : decode cX3_count 89 = .ok (.getfield 41, 3) := by decide +kernel
theorem dX3_count_92 : decode cX3_count 92 = .ok (.ireturn, 1) := by decide +kernel
theorem dX3_count_93 : decode cX3_count 93 = .ok (.aload_n 0, 1) := by decide +kernel
theorem dX3_count_94 : decode cX3_count 94 = .ok (.getfield 19, 3) := by decide +kernel
theorem dX3_count_97 : decode cX3_count 97 = .ok (.getfield 181, 3) := by decide +kernel
theorem dX3_count_100 : decode cX3_count 100 = .ok (.ireturn, 1) := by decide +kernel
theorem dX3_count_101 : decode cX3_count 101 = .ok (.aload_n 0, 1) := by decide +kernel
theorem dX3_count_102 : decode cX3_count 102 = .ok (.getfield 45, 3) := by decide +kernel
theorem dX3_count_105 : decode cX3_count 105 = .ok (.ireturn, 1) := by decide +kernel
theorem dX3_count_106 : decode cX3_count 106 = .ok (.new 151, 3) := by decide +kernel
theorem dX3_count_109 : decode cX3_count 109 = .ok (.dup, 1) := by decide +kernel
theorem dX3_count_110 : decode cX3_count 110 = .ok (.ldc 184, 2) := by decide +kernel
theorem dX3_count_112 : decode cX3_count 112 = .ok (.invokespecial 155, 3) := by decide +kernel
theorem dX3_count_115 : decode cX3_count 115 = .ok (.athrow, 1) := by decide +kernel
theorem dX3_isWithin_0 : decode cX3_isWithin 0 = .ok (.iload_n 0, 1) := by decide +kernel
theorem dX3_isWithin_1 : decode cX3_isWithin 1 = .ok (.iload_n 1, 1) := by decide +kernel
theorem dX3_isWithin_2 : decode cX3_isWithin 2 = .ok (.if_icmp .lt 12, 3) := by decide +kernel
theorem dX3_isWithin_5 : decode cX3_isWithin 5 = .ok (.iload_n 0, 1) := by decide +kernel
theorem dX3_isWithin_6 : decode cX3_isWithin 6 = .ok (.iload_n 2, 1) := by decide +kernel
theorem dX3_isWithin_7 : decode cX3_isWithin 7 = .ok (.if_icmp .gt 7, 3) := by decide +kernel
theorem dX3_isWithin_10 : decode cX3_isWithin 10 = .ok (.iconst 1, 1) := by decide +kernel
theorem dX3_isWithin_11 : decode cX3_isWithin 11 = .ok (.goto 4, 3) := by decide +kernel
theorem dX3_isWithin_14 : decode cX3_isWithin 14 = .ok (.iconst 0, 1) := by decide +kernel
theorem dX3_isWithin_15 : decode cX3_isWithin 15 = .ok (.ireturn, 1) := by decide +kernel
theorem dX3_needRing_0 : decode cX3_needRing 0 = .ok (.aload_n 0, 1) := by decide +kernel
theorem dX3_needRing_1 : decode cX3_needRing 1 = .ok (.getfield 37, 3) := by decide +kernel
theorem dX3_needRing_4 : decode cX3_needRing 4 = .ok (.iload_n 1, 1) := by decide +kernel
theorem dX3_needRing_5 : decode cX3_needRing 5 = .ok (.invokevirtual 134, 3) := by decide +kernel
theorem dX3_needRing_8 : decode cX3_needRing 8 = .ok (.ifCond .ne 13, 3) := by decide +kernel
theorem dX3_needRing_11 : decode cX3_needRing 11 = .ok (.new 151, 3) := by decide +kernel
theorem dX3_needRing_14 : decode cX3_needRing 14 = .ok (.dup, 1) := by decide +kernel
theorem dX3_needRing_15 : decode cX3_needRing 15 = .ok (.ldc 186, 2) := by decide +kernel
theorem dX3_needRing_17 : decode cX3_needRing 17 = .ok (.invokespecial 155, 3) := by decide +kernel
theorem dX3_needRing_20 : decode cX3_needRing 20 = .ok (.athrow, 1) := by decide +kernel
theorem dX3_needRing_21 : decode cX3_needRing 21 = .ok (.return_, 1) := by decide +kernel
theorem dX3_needStanding_0 : decode cX3_needStanding 0 = .ok (.aload_n 0, 1) := by decide +kernel
theorem dX3_needStanding_1 : decode cX3_needStanding 1 = .ok (.getfield 37, 3) := by decide +kernel
theorem dX3_needStanding_4 : decode cX3_needStanding 4 = .ok (.iload_n 1, 1) := by decide +kernel
theorem dX3_needStanding_5 : decode cX3_needStanding 5 = .ok (.invokevirtual 128, 3) := by decide +kernel
theorem dX3_needStanding_8 : decode cX3_needStanding 8 = .ok (.ifCond .ne 13, 3) := by decide +kernel
theorem dX3_needStanding_11 : decode cX3_needStanding 11 = .ok (.new 151, 3) := by decide +kernel
theorem dX3_needStanding_14 : decode cX3_needStanding 14 = .ok (.dup, 1) := by decide +kernel
theorem dX3_needStanding_15 : decode cX3_needStanding 15 = .ok (.ldc 188, 2) := by decide +kernel
theorem dX3_needStanding_17 : decode cX3_needStanding 17 = .ok (.invokespecial 155, 3) := by decide +kernel
theorem dX3_needStanding_20 : decode cX3_needStanding 20 = .ok (.athrow, 1) := by decide +kernel
theorem dX3_needStanding_21 : decode cX3_needStanding 21 = .ok (.return_, 1) := by decide +kernel
theorem dX3_openPlanned_0 : decode cX3_openPlanned 0 = .ok (.aload_n 0, 1) := by decide +kernel
theorem dX3_openPlanned_1 : decode cX3_openPlanned 1 = .ok (.getfield 37, 3) := by decide +kernel
theorem dX3_openPlanned_4 : decode cX3_openPlanned 4 = .ok (.getfield 95, 3) := by decide +kernel
theorem dX3_openPlanned_7 : decode cX3_openPlanned 7 = .ok (.istore_n 1, 1) := by decide +kernel
theorem dX3_openPlanned_8 : decode cX3_openPlanned 8 = .ok (.iload_n 1, 1) := by decide +kernel
theorem dX3_openPlanned_9 : decode cX3_openPlanned 9 = .ok (.aload_n 0, 1) := by decide +kernel
theorem dX3_openPlanned_10 : decode cX3_openPlanned 10 = .ok (.getfield 37, 3) := by decide +kernel
theorem dX3_openPlanned_13 : decode cX3_openPlanned 13 = .ok (.invokevirtual 162, 3) := by decide +kernel
theorem dX3_openPlanned_16 : decode cX3_openPlanned 16 = .ok (.if_icmp .ge 25, 3) := by decide +kernel
theorem dX3_openPlanned_19 : decode cX3_openPlanned 19 = .ok (.aload_n 0, 1) := by decide +kernel
theorem dX3_openPlanned_20 : decode cX3_openPlanned 20 = .ok (.getfield 10, 3) := by decide +kernel
theorem dX3_openPlanned_23 : decode cX3_openPlanned 23 = .ok (.aload_n 0, 1) := by decide +kernel
theorem dX3_openPlanned_24 : decode cX3_openPlanned 24 = .ok (.getfield 37, 3) := by decide +kernel
theorem dX3_openPlanned_27 : decode cX3_openPlanned 27 = .ok (.getfield 112, 3) := by decide +kernel
theorem dX3_openPlanned_30 : decode cX3_openPlanned 30 = .ok (.iload_n 1, 1) := by decide +kernel
theorem dX3_openPlanned_31 : decode cX3_openPlanned 31 = .ok (.iaload, 1) := by decide +kernel
theorem dX3_openPlanned_32 : decode cX3_openPlanned 32 = .ok (.invokevirtual 119, 3) := by decide +kernel
theorem dX3_openPlanned_35 : decode cX3_openPlanned 35 = .ok (.iinc 1 1, 3) := by decide +kernel
theorem dX3_openPlanned_38 : decode cX3_openPlanned 38 = .ok (.goto (-30), 3) := by decide +kernel
theorem dX3_openPlanned_41 : decode cX3_openPlanned 41 = .ok (.aload_n 0, 1) := by decide +kernel
theorem dX3_openPlanned_42 : decode cX3_openPlanned 42 = .ok (.getfield 37, 3) := by decide +kernel
theorem dX3_openPlanned_45 : decode cX3_openPlanned 45 = .ok (.iconst 0, 1) := by decide +kernel
theorem dX3_openPlanned_46 : decode cX3_openPlanned 46 = .ok (.putfield 104, 3) := by decide +kernel
theorem dX3_openPlanned_49 : decode cX3_openPlanned 49 = .ok (.return_, 1) := by decide +kernel
theorem dX3_layAgainFrom_0 : decode cX3_layAgainFrom 0 = .ok (.iload_n 1, 1) := by decide +kernel
theorem dX3_layAgainFrom_1 : decode cX3_layAgainFrom 1 = .ok (.istore_n 2, 1) := by decide +kernel
theorem dX3_layAgainFrom_2 : decode cX3_layAgainFrom 2 = .ok (.iload_n 2, 1) := by decide +kernel
theorem dX3_layAgainFrom_3 : decode cX3_layAgainFrom 3 = .ok (.aload_n 0, 1) := by decide +kernel
theorem dX3_layAgainFrom_4 : decode cX3_layAgainFrom 4 = .ok (.getfield 37, 3) := by decide +kernel
theorem dX3_layAgainFrom_7 : decode cX3_layAgainFrom 7 = .ok (.invokevirtual 162, 3) := by decide +kernel
theorem dX3_layAgainFrom_10 : decode cX3_layAgainFrom 10 = .ok (.if_icmp .ge 46, 3) := by decide +kernel
theorem dX3_layAgainFrom_13 : decode cX3_layAgainFrom 13 = .ok (.aload_n 0, 1) := by decide +kernel
theorem dX3_layAgainFrom_14 : decode cX3_layAgainFrom 14 = .ok (.getfield 37, 3) := by decide +kernel
theorem dX3_layAgainFrom_17 : decode cX3_layAgainFrom 17 = .ok (.getfield 112, 3) := by decide +kernel
theorem dX3_layAgainFrom_20 : decode cX3_layAgainFrom 20 = .ok (.iload_n 2, 1) := by decide +kernel
theorem dX3_layAgainFrom_21 : decode cX3_layAgainFrom 21 = .ok (.iaload, 1) := by decide +kernel
theorem dX3_layAgainFrom_22 : decode cX3_layAgainFrom 22 = .ok (.istore_n 3, 1) := by decide +kernel
theorem dX3_layAgainFrom_23 : decode cX3_layAgainFrom 23 = .ok (.aload_n 0, 1) := by decide +kernel
theorem dX3_layAgainFrom_24 : decode cX3_layAgainFrom 24 = .ok (.getfield 37, 3) := by decide +kernel
theorem dX3_layAgainFrom_27 : decode cX3_layAgainFrom 27 = .ok (.iload_n 2, 1) := by decide +kernel
theorem dX3_layAgainFrom_28 : decode cX3_layAgainFrom 28 = .ok (.iload_n 3, 1) := by decide +kernel
theorem dX3_layAgainFrom_29 : decode cX3_layAgainFrom 29 = .ok (.aload_n 0, 1) := by decide +kernel
theorem dX3_layAgainFrom_30 : decode cX3_layAgainFrom 30 = .ok (.getfield 10, 3) := by decide +kernel
theorem dX3_layAgainFrom_33 : decode cX3_layAgainFrom 33 = .ok (.getfield 169, 3) := by decide +kernel
theorem dX3_layAgainFrom_36 : decode cX3_layAgainFrom 36 = .ok (.iload_n 3, 1) := by decide +kernel
theorem dX3_layAgainFrom_37 : decode cX3_layAgainFrom 37 = .ok (.iaload, 1) := by decide +kernel
theorem dX3_layAgainFrom_38 : decode cX3_layAgainFrom 38 = .ok (.aload_n 0, 1) := by decide +kernel
theorem dX3_layAgainFrom_39 : decode cX3_layAgainFrom 39 = .ok (.getfield 37, 3) := by decide +kernel
theorem dX3_layAgainFrom_42 : decode cX3_layAgainFrom 42 = .ok (.getfield 131, 3) := by decide +kernel
theorem dX3_layAgainFrom_45 : decode cX3_layAgainFrom 45 = .ok (.iload_n 2, 1) := by decide +kernel
theorem dX3_layAgainFrom_46 : decode cX3_layAgainFrom 46 = .ok (.iaload, 1) := by decide +kernel
theorem dX3_layAgainFrom_47 : decode cX3_layAgainFrom 47 = .ok (.invokevirtual 190, 3) := by decide +kernel
theorem dX3_layAgainFrom_50 : decode cX3_layAgainFrom 50 = .ok (.iinc 2 1, 3) := by decide +kernel
theorem dX3_layAgainFrom_53 : decode cX3_layAgainFrom 53 = .ok (.goto (-51), 3) := by decide +kernel
theorem dX3_layAgainFrom_56 : decode cX3_layAgainFrom 56 = .ok (.return_, 1) := by decide +kernel
theorem dX3_planRing_0 : decode cX3_planRing 0 = .ok (.aload_n 0, 1) := by decide +kernel
theorem dX3_planRing_1 : decode cX3_planRing 1 = .ok (.getfield 41, 3) := by decide +kernel
theorem dX3_planRing_4 : decode cX3_planRing 4 = .ok (.aload_n 0, 1) := by decide +kernel
theorem dX3_planRing_5 : decode cX3_planRing 5 = .ok (.getfield 37, 3) := by decide +kernel
theorem dX3_planRing_8 : decode cX3_planRing 8 = .ok (.getfield 98, 3) := by decide +kernel
theorem dX3_planRing_11 : decode cX3_planRing 11 = .ok (.iload_n 1, 1) := by decide +kernel
theorem dX3_planRing_12 : decode cX3_planRing 12 = .ok (.isub, 1) := by decide +kernel
theorem dX3_planRing_13 : decode cX3_planRing 13 = .ok (.invokestatic 25, 3) := by decide +kernel
theorem dX3_planRing_16 : decode cX3_planRing 16 = .ok (.istore_n 2, 1) := by decide +kernel
theorem dX3_planRing_17 : decode cX3_planRing 17 = .ok (.iload_n 2, 1) := by decide +kernel
theorem dX3_planRing_18 : decode cX3_planRing 18 = .ok (.ifCond .le 76, 3) := by decide +kernel
theorem dX3_planRing_21 : decode cX3_planRing 21 = .ok (.aload_n 0, 1) := by decide +kernel
theorem dX3_planRing_22 : decode cX3_planRing 22 = .ok (.iload_n 1, 1) := by decide +kernel
theorem dX3_planRing_23 : decode cX3_planRing 23 = .ok (.iload_n 2, 1) := by decide +kernel
theorem dX3_planRing_24 : decode cX3_planRing 24 = .ok (.invokevirtual 194, 3) := by decide +kernel
theorem dX3_planRing_27 : decode cX3_planRing 27 = .ok (.ldc2_w 198, 3) := by decide +kernel
theorem dX3_planRing_30 : decode cX3_planRing 30 = .ok (.lcmp, 1) := by decide +kernel
theorem dX3_planRing_31 : decode cX3_planRing 31 = .ok (.ifCond .eq 57, 3) := by decide +kernel
theorem dX3_planRing_34 : decode cX3_planRing 34 = .ok (.aload_n 0, 1) := by decide +kernel
theorem dX3_planRing_35 : decode cX3_planRing 35 = .ok (.getfield 37, 3) := by decide +kernel
theorem dX3_planRing_38 : decode cX3_planRing 38 = .ok (.iload_n 1, 1) := by decide +kernel
theorem dX3_planRing_39 : decode cX3_planRing 39 = .ok (.aload_n 0, 1) := by decide +kernel
theorem dX3_planRing_40 : decode cX3_planRing 40 = .ok (.getfield 48, 3) := by decide +kernel
theorem dX3_planRing_43 : decode cX3_planRing 43 = .ok (.aload_n 0, 1) := by decide +kernel
theorem dX3_planRing_44 : decode cX3_planRing 44 = .ok (.getfield 10, 3) := by decide +kernel
theorem dX3_planRing_47 : decode cX3_planRing 47 = .ok (.getfield 169, 3) := by decide +kernel
theorem dX3_planRing_50 : decode cX3_planRing 50 = .ok (.aload_n 0, 1) := by decide +kernel
theorem dX3_planRing_51 : decode cX3_planRing 51 = .ok (.getfield 48, 3) := by decide +kernel
theorem dX3_planRing_54 : decode cX3_planRing 54 = .ok (.iaload, 1) := by decide +kernel
theorem dX3_planRing_55 : decode cX3_planRing 55 = .ok (.aload_n 0, 1) := by decide +kernel
theorem dX3_planRing_56 : decode cX3_planRing 56 = .ok (.getfield 51, 3) := by decide +kernel
theorem dX3_planRing_59 : decode cX3_planRing 59 = .ok (.invokevirtual 190, 3) := by decide +kernel
theorem dX3_planRing_62 : decode cX3_planRing 62 = .ok (.aload_n 0, 1) := by decide +kernel
theorem dX3_planRing_63 : decode cX3_planRing 63 = .ok (.getfield 10, 3) := by decide +kernel
theorem dX3_planRing_66 : decode cX3_planRing 66 = .ok (.aload_n 0, 1) := by decide +kernel
theorem dX3_planRing_67 : decode cX3_planRing 67 = .ok (.getfield 48, 3) := by decide +kernel
theorem dX3_planRing_70 : decode cX3_planRing 70 = .ok (.invokevirtual 122, 3) := by decide +kernel
theorem dX3_planRing_73 : decode cX3_planRing 73 = .ok (.aload_n 0, 1) := by decide +kernel
theorem dX3_planRing_74 : decode cX3_planRing 74 = .ok (.getfield 37, 3) := by decide +kernel
theorem dX3_planRing_77 : decode cX3_planRing 77 = .ok (.dup, 1) := by decide +kernel
theorem dX3_planRing_78 : decode cX3_planRing 78 = .ok (.getfield 104, 3) := by decide +kernel
theorem dX3_planRing_81 : decode cX3_planRing 81 = .ok (.iconst 1, 1) := by decide +kernel
theorem dX3_planRing_82 : decode cX3_planRing 82 = .ok (.iadd, 1) := by decide +kernel
theorem dX3_planRing_83 : decode cX3_planRing 83 = .ok (.putfield 104, 3) := by decide +kernel
theorem dX3_planRing_86 : decode cX3_planRing 86 = .ok (.iconst 1, 1) := by decide +kernel
theorem dX3_planRing_87 : decode cX3_planRing 87 = .ok (.ireturn, 1) := by decide +kernel
theorem dX3_planRing_88 : decode cX3_planRing 88 = .ok (.iinc 2 (-1), 3) := by decide +kernel
theorem dX3_planRing_91 : decode cX3_planRing 91 = .ok (.goto (-74), 3) := by decide +kernel
theorem dX3_planRing_94 : decode cX3_planRing 94 = .ok (.iconst 0, 1) := by decide +kernel
theorem dX3_planRing_95 : decode cX3_planRing 95 = .ok (.ireturn, 1) := by decide +kernel
theorem dX3_leastSum_0 : decode cX3_leastSum 0 = .ok (.ldc2_w 198, 3) := by decide +kernel
theorem dX3_leastSum_3 : decode cX3_leastSum 3 = .ok (.lstore_n 3, 1) := by decide +kernel
theorem dX3_leastSum_4 : decode cX3_leastSum 4 = .ok (.iconst (-1), 1) := by decide +kernel
theorem dX3_leastSum_5 : decode cX3_leastSum 5 = .ok (.istore 5, 2) := by decide +kernel
theorem dX3_leastSum_7 : decode cX3_leastSum 7 = .ok (.iconst (-1), 1) := by decide +kernel
theorem dX3_leastSum_8 : decode cX3_leastSum 8 = .ok (.istore 6, 2) := by decide +kernel
theorem dX3_leastSum_10 : decode cX3_leastSum 10 = .ok (.aload_n 0, 1) := by decide +kernel
theorem dX3_leastSum_11 : decode cX3_leastSum 11 = .ok (.getfield 37, 3) := by decide +kernel
theorem dX3_leastSum_14 : decode cX3_leastSum 14 = .ok (.iload_n 1, 1) := by decide +kernel
theorem dX3_leastSum_15 : decode cX3_leastSum 15 = .ok (.invokevirtual 200, 3) := by decide +kernel
theorem dX3_leastSum_18 : decode cX3_leastSum 18 = .ok (.istore 7, 2) := by decide +kernel
theorem dX3_leastSum_20 : decode cX3_leastSum 20 = .ok (.iconst 0, 1) := by decide +kernel
theorem dX3_leastSum_21 : decode cX3_leastSum 21 = .ok (.istore 8, 2) := by decide +kernel
theorem dX3_leastSum_23 : decode cX3_leastSum 23 = .ok (.iload 8, 2) := by decide +kernel
theorem dX3_leastSum_25 : decode cX3_leastSum 25 = .ok (.aload_n 0, 1) := by decide +kernel
theorem dX3_leastSum_26 : decode cX3_leastSum 26 = .ok (.getfield 10, 3) := by decide +kernel
theorem dX3_leastSum_29 : decode cX3_leastSum 29 = .ok (.getfield 178, 3) := by decide +kernel
theorem dX3_leastSum_32 : decode cX3_leastSum 32 = .ok (.if_icmp .ge 89, 3) := by decide +kernel
theorem dX3_leastSum_35 : decode cX3_leastSum 35 = .ok (.aload_n 0, 1) := by decide +kernel
theorem dX3_leastSum_36 : decode cX3_leastSum 36 = .ok (.getfield 10, 3) := by decide +kernel
theorem dX3_leastSum_39 : decode cX3_leastSum 39 = .ok (.iload 8, 2) := by decide +kernel
theorem dX3_leastSum_41 : decode cX3_leastSum 41 = .ok (.invokevirtual 116, 3) := by decide +kernel
theorem dX3_leastSum_44 : decode cX3_leastSum 44 = .ok (.iconst 1, 1) := by decide +kernel
theorem dX3_leastSum_45 : decode cX3_leastSum 45 = .ok (.if_icmp .ge 6, 3) := by decide +kernel
theorem dX3_leastSum_48 : decode cX3_leastSum 48 = .ok (.goto 67, 3) := by decide +kernel
theorem dX3_leastSum_51 : decode cX3_leastSum 51 = .ok (.iconst 0, 1) := by decide +kernel
theorem dX3_leastSum_52 : decode cX3_leastSum 52 = .ok (.istore 9, 2) := by decide +kernel
theorem dX3_leastSum_54 : decode cX3_leastSum 54 = .ok (.iload 9, 2) := by decide +kernel
theorem dX3_leastSum_56 : decode cX3_leastSum 56 = .ok (.bipush 16, 2) := by decide +kernel
theorem dX3_leastSum_58 : decode cX3_leastSum 58 = .ok (.if_icmp .ge 57, 3) := by decide +kernel
theorem dX3_leastSum_61 : decode cX3_leastSum 61 = .ok (.aload_n 0, 1) := by decide +kernel
theorem dX3_leastSum_62 : decode cX3_leastSum 62 = .ok (.getfield 19, 3) := by decide +kernel
theorem dX3_leastSum_65 : decode cX3_leastSum 65 = .ok (.iload 9, 2) := by decide +kernel
theorem dX3_leastSum_67 : decode cX3_leastSum 67 = .ok (.iload 7, 2) := by decide +kernel
theorem dX3_leastSum_69 : decode cX3_leastSum 69 = .ok (.invokevirtual 203, 3) := by decide +kernel
theorem dX3_leastSum_72 : decode cX3_leastSum 72 = .ok (.ifCond .ne 6, 3) := by decide +kernel
theorem dX3_leastSum_75 : decode cX3_leastSum 75 = .ok (.goto 34, 3) := by decide +kernel
theorem dX3_leastSum_78 : decode cX3_leastSum 78 = .ok (.aload_n 0, 1) := by decide +kernel
theorem dX3_leastSum_79 : decode cX3_leastSum 79 = .ok (.iload_n 1, 1) := by decide +kernel
theorem dX3_leastSum_80 : decode cX3_leastSum 80 = .ok (.iload_n 2, 1) := by decide +kernel
theorem dX3_leastSum_81 : decode cX3_leastSum 81 = .ok (.iload 8, 2) := by decide +kernel
theorem dX3_leastSum_83 : decode cX3_leastSum 83 = .ok (.iload 9, 2) := by decide +kernel
theorem dX3_leastSum_85 : decode cX3_leastSum 85 = .ok (.lload_n 3, 1) := by decide +kernel
theorem dX3_leastSum_86 : decode cX3_leastSum 86 = .ok (.invokevirtual 207, 3) := by decide +kernel
theorem dX3_leastSum_89 : decode cX3_leastSum 89 = .ok (.lstore 10, 2) := by decide +kernel
theorem dX3_leastSum_91 : decode cX3_leastSum 91 = .ok (.lload 10, 2) := by decide +kernel
theorem dX3_leastSum_93 : decode cX3_leastSum 93 = .ok (.lload_n 3, 1) := by decide +kernel
theorem dX3_leastSum_94 : decode cX3_leastSum 94 = .ok (.lcmp, 1) := by decide +kernel
theorem dX3_leastSum_95 : decode cX3_leastSum 95 = .ok (.ifCond .ge 14, 3) := by decide +kernel
theorem dX3_leastSum_98 : decode cX3_leastSum 98 = .ok (.lload 10, 2) := by decide +kernel
theorem dX3_leastSum_100 : decode cX3_leastSum 100 = .ok (.lstore_n 3, 1) := by decide +kernel
theorem dX3_leastSum_101 : decode cX3_leastSum 101 = .ok (.iload 8, 2) := by decide +kernel
theorem dX3_leastSum_103 : decode cX3_leastSum 103 = .ok (.istore 5, 2) := by decide +kernel
theorem dX3_leastSum_105 : decode cX3_leastSum 105 = .ok (.iload 9, 2) := by decide +kernel
theorem dX3_leastSum_107 : decode cX3_leastSum 107 = .ok (.istore 6, 2) := by decide +kernel
theorem dX3_leastSum_109 : decode cX3_leastSum 109 = .ok (.iinc 9 1, 3) := by decide +kernel
theorem dX3_leastSum_112 : decode cX3_leastSum 112 = .ok (.goto (-58), 3) := by decide +kernel
theorem dX3_leastSum_115 : decode cX3_leastSum 115 = .ok (.iinc 8 1, 3) := by decide +kernel
theorem dX3_leastSum_118 : decode cX3_leastSum 118 = .ok (.goto (-95), 3) := by decide +kernel
theorem dX3_leastSum_121 : decode cX3_leastSum 121 = .ok (.aload_n 0, 1) := by decide +kernel
theorem dX3_leastSum_122 : decode cX3_leastSum 122 = .ok (.iload 5, 2) := by decide +kernel
theorem dX3_leastSum_124 : decode cX3_leastSum 124 = .ok (.putfield 48, 3) := by decide +kernel
theorem dX3_leastSum_127 : decode cX3_leastSum 127 = .ok (.aload_n 0, 1) := by decide +kernel
theorem dX3_leastSum_128 : decode cX3_leastSum 128 = .ok (.iload 6, 2) := by decide +kernel
theorem dX3_leastSum_130 : decode cX3_leastSum 130 = .ok (.putfield 51, 3) := by decide +kernel
theorem dX3_leastSum_133 : decode cX3_leastSum 133 = .ok (.lload_n 3, 1) := by decide +kernel
theorem dX3_leastSum_134 : decode cX3_leastSum 134 = .ok (.lreturn, 1) := by decide +kernel
theorem dX3_sumWith_0 : decode cX3_sumWith 0 = .ok (.aload_n 0, 1) := by decide +kernel
theorem dX3_sumWith_1 : decode cX3_sumWith 1 = .ok (.getfield 37, 3) := by decide +kernel
theorem dX3_sumWith_4 : decode cX3_sumWith 4 = .ok (.iload_n 1, 1) := by decide +kernel
theorem dX3_sumWith_5 : decode cX3_sumWith 5 = .ok (.iload_n 3, 1) := by decide +kernel
theorem dX3_sumWith_6 : decode cX3_sumWith 6 = .ok (.aload_n 0, 1) := by decide +kernel
theorem dX3_sumWith_7 : decode cX3_sumWith 7 = .ok (.getfield 10, 3) := by decide +kernel
theorem dX3_sumWith_10 : decode cX3_sumWith 10 = .ok (.getfield 169, 3) := by decide +kernel
theorem dX3_sumWith_13 : decode cX3_sumWith 13 = .ok (.iload_n 3, 1) := by decide +kernel
theorem dX3_sumWith_14 : decode cX3_sumWith 14 = .ok (.iaload, 1) := by decide +kernel
theorem dX3_sumWith_15 : decode cX3_sumWith 15 = .ok (.iload 4, 2) := by decide +kernel
theorem dX3_sumWith_17 : decode cX3_sumWith 17 = .ok (.invokevirtual 190, 3) := by decide +kernel
theorem dX3_sumWith_20 : decode cX3_sumWith 20 = .ok (.aload_n 0, 1) := by decide +kernel
theorem dX3_sumWith_21 : decode cX3_sumWith 21 = .ok (.getfield 37, 3) := by decide +kernel
theorem dX3_sumWith_24 : decode cX3_sumWith 24 = .ok (.iload_n 1, 1) := by decide +kernel
theorem dX3_sumWith_25 : decode cX3_sumWith 25 = .ok (.invokevirtual 158, 3) := by decide +kernel
theorem dX3_sumWith_28 : decode cX3_sumWith 28 = .ok (.lstore 7, 2) := by decide +kernel
theorem dX3_sumWith_30 : decode cX3_sumWith 30 = .ok (.lload 7, 2) := by decide +kernel
theorem dX3_sumWith_32 : decode cX3_sumWith 32 = .ok (.lload 5, 2) := by decide +kernel
theorem dX3_sumWith_34 : decode cX3_sumWith 34 = .ok (.lcmp, 1) := by decide +kernel
theorem dX3_sumWith_35 : decode cX3_sumWith 35 = .ok (.ifCond .lt 7, 3) := by decide +kernel
theorem dX3_sumWith_38 : decode cX3_sumWith 38 = .ok (.ldc2_w 198, 3) := by decide +kernel
theorem dX3_sumWith_41 : decode cX3_sumWith 41 = .ok (.lreturn, 1) := by decide +kernel
theorem dX3_sumWith_42 : decode cX3_sumWith 42 = .ok (.iload_n 2, 1) := by decide +kernel
theorem dX3_sumWith_43 : decode cX3_sumWith 43 = .ok (.iconst 2, 1) := by decide +kernel
theorem dX3_sumWith_44 : decode cX3_sumWith 44 = .ok (.if_icmp .ge 6, 3) := by decide +kernel
theorem dX3_sumWith_47 : decode cX3_sumWith 47 = .ok (.lload 7, 2) := by decide +kernel
theorem dX3_sumWith_49 : decode cX3_sumWith 49 = .ok (.lreturn, 1) := by decide +kernel
theorem dX3_sumWith_50 : decode cX3_sumWith 50 = .ok (.aload_n 0, 1) := by decide +kernel
theorem dX3_sumWith_51 : decode cX3_sumWith 51 = .ok (.getfield 10, 3) := by decide +kernel
theorem dX3_sumWith_54 : decode cX3_sumWith 54 = .ok (.iload_n 3, 1) := by decide +kernel
theorem dX3_sumWith_55 : decode cX3_sumWith 55 = .ok (.invokevirtual 122, 3) := by decide +kernel
theorem dX3_sumWith_58 : decode cX3_sumWith 58 = .ok (.aload_n 0, 1) := by decide +kernel
theorem dX3_sumWith_59 : decode cX3_sumWith 59 = .ok (.iload_n 1, 1) := by decide +kernel
theorem dX3_sumWith_60 : decode cX3_sumWith 60 = .ok (.iconst 1, 1) := by decide +kernel
theorem dX3_sumWith_61 : decode cX3_sumWith 61 = .ok (.iadd, 1) := by decide +kernel
theorem dX3_sumWith_62 : decode cX3_sumWith 62 = .ok (.iload_n 2, 1) := by decide +kernel
theorem dX3_sumWith_63 : decode cX3_sumWith 63 = .ok (.iconst 1, 1) := by decide +kernel
theorem dX3_sumWith_64 : decode cX3_sumWith 64 = .ok (.isub, 1) := by decide +kernel
theorem dX3_sumWith_65 : decode cX3_sumWith 65 = .ok (.invokevirtual 194, 3) := by decide +kernel
theorem dX3_sumWith_68 : decode cX3_sumWith 68 = .ok (.lstore 9, 2) := by decide +kernel
theorem dX3_sumWith_70 : decode cX3_sumWith 70 = .ok (.aload_n 0, 1) := by decide +kernel
theorem dX3_sumWith_71 : decode cX3_sumWith 71 = .ok (.getfield 10, 3) := by decide +kernel
theorem dX3_sumWith_74 : decode cX3_sumWith 74 = .ok (.iload_n 3, 1) := by decide +kernel
theorem dX3_sumWith_75 : decode cX3_sumWith 75 = .ok (.invokevirtual 119, 3) := by decide +kernel
theorem dX3_sumWith_78 : decode cX3_sumWith 78 = .ok (.lload 9, 2) := by decide +kernel
theorem dX3_sumWith_80 : decode cX3_sumWith 80 = .ok (.ldc2_w 198, 3) := by decide +kernel
theorem dX3_sumWith_83 : decode cX3_sumWith 83 = .ok (.lcmp, 1) := by decide +kernel
theorem dX3_sumWith_84 : decode cX3_sumWith 84 = .ok (.ifCond .ne 9, 3) := by decide +kernel
theorem dX3_sumWith_87 : decode cX3_sumWith 87 = .ok (.ldc2_w 198, 3) := by decide +kernel
theorem dX3_sumWith_90 : decode cX3_sumWith 90 = .ok (.goto 8, 3) := by decide +kernel
theorem dX3_sumWith_93 : decode cX3_sumWith 93 = .ok (.lload 7, 2) := by decide +kernel
theorem dX3_sumWith_95 : decode cX3_sumWith 95 = .ok (.lload 9, 2) := by decide +kernel
theorem dX3_sumWith_97 : decode cX3_sumWith 97 = .ok (.ladd, 1) := by decide +kernel
theorem dX3_sumWith_98 : decode cX3_sumWith 98 = .ok (.lreturn, 1) := by decide +kernel
