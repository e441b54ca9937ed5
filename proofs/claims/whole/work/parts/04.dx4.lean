theorem dX4_init_0 : decode cX4_init 0 = .ok (.aload_n 0, 1) := by decide +kernel
theorem dX4_init_1 : decode cX4_init 1 = .ok (.invokespecial 1, 3) := by decide +kernel
theorem dX4_init_4 : decode cX4_init 4 = .ok (.aload_n 0, 1) := by decide +kernel
theorem dX4_init_5 : decode cX4_init 5 = .ok (.bipush 16, 2) := by decide +kernel
theorem dX4_init_7 : decode cX4_init 7 = .ok (.putfield 7, 3) := by decide +kernel
theorem dX4_init_10 : decode cX4_init 10 = .ok (.aload_n 0, 1) := by decide +kernel
theorem dX4_init_11 : decode cX4_init 11 = .ok (.iconst 1, 1) := by decide +kernel
theorem dX4_init_12 : decode cX4_init 12 = .ok (.putfield 13, 3) := by decide +kernel
theorem dX4_init_15 : decode cX4_init 15 = .ok (.aload_n 0, 1) := by decide +kernel
theorem dX4_init_16 : decode cX4_init 16 = .ok (.bipush 16, 2) := by decide +kernel
theorem dX4_init_18 : decode cX4_init 18 = .ok (.newarray .boolean, 2) := by decide +kernel
theorem dX4_init_20 : decode cX4_init 20 = .ok (.putfield 16, 3) := by decide +kernel
theorem dX4_init_23 : decode cX4_init 23 = .ok (.aload_n 0, 1) := by decide +kernel
theorem dX4_init_24 : decode cX4_init 24 = .ok (.iconst 4, 1) := by decide +kernel
theorem dX4_init_25 : decode cX4_init 25 = .ok (.newarray .int, 2) := by decide +kernel
theorem dX4_init_27 : decode cX4_init 27 = .ok (.putfield 20, 3) := by decide +kernel
theorem dX4_init_30 : decode cX4_init 30 = .ok (.aload_n 0, 1) := by decide +kernel
theorem dX4_init_31 : decode cX4_init 31 = .ok (.iconst 4, 1) := by decide +kernel
theorem dX4_init_32 : decode cX4_init 32 = .ok (.newarray .int, 2) := by decide +kernel
theorem dX4_init_34 : decode cX4_init 34 = .ok (.putfield 24, 3) := by decide +kernel
theorem dX4_init_37 : decode cX4_init 37 = .ok (.aload_n 0, 1) := by decide +kernel
theorem dX4_init_38 : decode cX4_init 38 = .ok (.bipush 24, 2) := by decide +kernel
theorem dX4_init_40 : decode cX4_init 40 = .ok (.newarray .int, 2) := by decide +kernel
theorem dX4_init_42 : decode cX4_init 42 = .ok (.putfield 27, 3) := by decide +kernel
theorem dX4_init_45 : decode cX4_init 45 = .ok (.aload_n 0, 1) := by decide +kernel
theorem dX4_init_46 : decode cX4_init 46 = .ok (.bipush 24, 2) := by decide +kernel
theorem dX4_init_48 : decode cX4_init 48 = .ok (.newarray .int, 2) := by decide +kernel
theorem dX4_init_50 : decode cX4_init 50 = .ok (.putfield 30, 3) := by decide +kernel
theorem dX4_init_53 : decode cX4_init 53 = .ok (.aload_n 0, 1) := by decide +kernel
theorem dX4_init_54 : decode cX4_init 54 = .ok (.bipush 24, 2) := by decide +kernel
theorem dX4_init_56 : decode cX4_init 56 = .ok (.newarray .int, 2) := by decide +kernel
theorem dX4_init_58 : decode cX4_init 58 = .ok (.putfield 33, 3) := by decide +kernel
theorem dX4_init_61 : decode cX4_init 61 = .ok (.aload_n 0, 1) := by decide +kernel
theorem dX4_init_62 : decode cX4_init 62 = .ok (.bipush 24, 2) := by decide +kernel
theorem dX4_init_64 : decode cX4_init 64 = .ok (.newarray .int, 2) := by decide +kernel
theorem dX4_init_66 : decode cX4_init 66 = .ok (.putfield 36, 3) := by decide +kernel
theorem dX4_init_69 : decode cX4_init 69 = .ok (.aload_n 0, 1) := by decide +kernel
theorem dX4_init_70 : decode cX4_init 70 = .ok (.bipush 24, 2) := by decide +kernel
theorem dX4_init_72 : decode cX4_init 72 = .ok (.newarray .long, 2) := by decide +kernel
theorem dX4_init_74 : decode cX4_init 74 = .ok (.putfield 39, 3) := by decide +kernel
theorem dX4_init_77 : decode cX4_init 77 = .ok (.aload_n 0, 1) := by decide +kernel
theorem dX4_init_78 : decode cX4_init 78 = .ok (.bipush 24, 2) := by decide +kernel
theorem dX4_init_80 : decode cX4_init 80 = .ok (.newarray .long, 2) := by decide +kernel
theorem dX4_init_82 : decode cX4_init 82 = .ok (.putfield 43, 3) := by decide +kernel
theorem dX4_init_85 : decode cX4_init 85 = .ok (.aload_n 0, 1) := by decide +kernel
theorem dX4_init_86 : decode cX4_init 86 = .ok (.bipush 24, 2) := by decide +kernel
theorem dX4_init_88 : decode cX4_init 88 = .ok (.newarray .long, 2) := by decide +kernel
theorem dX4_init_90 : decode cX4_init 90 = .ok (.putfield 46, 3) := by decide +kernel
theorem dX4_init_93 : decode cX4_init 93 = .ok (.aload_n 0, 1) := by decide +kernel
theorem dX4_init_94 : decode cX4_init 94 = .ok (.bipush 24, 2) := by decide +kernel
theorem dX4_init_96 : decode cX4_init 96 = .ok (.newarray .long, 2) := by decide +kernel
theorem dX4_init_98 : decode cX4_init 98 = .ok (.putfield 49, 3) := by decide +kernel
theorem dX4_init_101 : decode cX4_init 101 = .ok (.aload_n 0, 1) := by decide +kernel
theorem dX4_init_102 : decode cX4_init 102 = .ok (.iload_n 1, 1) := by decide +kernel
theorem dX4_init_103 : decode cX4_init 103 = .ok (.iconst 1, 1) := by decide +kernel
theorem dX4_init_104 : decode cX4_init 104 = .ok (.if_icmp .ge 7, 3) := by decide +kernel
theorem dX4_init_107 : decode cX4_init 107 = .ok (.iconst 1, 1) := by decide +kernel
theorem dX4_init_108 : decode cX4_init 108 = .ok (.goto 15, 3) := by decide +kernel
theorem dX4_init_111 : decode cX4_init 111 = .ok (.iload_n 1, 1) := by decide +kernel
theorem dX4_init_112 : decode cX4_init 112 = .ok (.bipush 24, 2) := by decide +kernel
theorem dX4_init_114 : decode cX4_init 114 = .ok (.if_icmp .le 8, 3) := by decide +kernel
theorem dX4_init_117 : decode cX4_init 117 = .ok (.bipush 24, 2) := by decide +kernel
theorem dX4_init_119 : decode cX4_init 119 = .ok (.goto 4, 3) := by decide +kernel
theorem dX4_init_122 : decode cX4_init 122 = .ok (.iload_n 1, 1) := by decide +kernel
theorem dX4_init_123 : decode cX4_init 123 = .ok (.putfield 52, 3) := by decide +kernel
theorem dX4_init_126 : decode cX4_init 126 = .ok (.iconst 0, 1) := by decide +kernel
theorem dX4_init_127 : decode cX4_init 127 = .ok (.istore_n 2, 1) := by decide +kernel
theorem dX4_init_128 : decode cX4_init 128 = .ok (.iload_n 2, 1) := by decide +kernel
theorem dX4_init_129 : decode cX4_init 129 = .ok (.bipush 16, 2) := by decide +kernel
theorem dX4_init_131 : decode cX4_init 131 = .ok (.if_icmp .ge 16, 3) := by decide +kernel
theorem dX4_init_134 : decode cX4_init 134 = .ok (.aload_n 0, 1) := by decide +kernel
theorem dX4_init_135 : decode cX4_init 135 = .ok (.getfield 16, 3) := by decide +kernel
theorem dX4_init_138 : decode cX4_init 138 = .ok (.iload_n 2, 1) := by decide +kernel
theorem dX4_init_139 : decode cX4_init 139 = .ok (.iconst 1, 1) := by decide +kernel
theorem dX4_init_140 : decode cX4_init 140 = .ok (.bastore, 1) := by decide +kernel
theorem dX4_init_141 : decode cX4_init 141 = .ok (.iinc 2 1, 3) := by decide +kernel
theorem dX4_init_144 : decode cX4_init 144 = .ok (.goto (-16), 3) := by decide +kernel
theorem dX4_init_147 : decode cX4_init 147 = .ok (.return_, 1) := by decide +kernel
theorem dX4_thrown_0 : decode cX4_thrown 0 = .ok (.aload_n 0, 1) := by decide +kernel
theorem dX4_thrown_1 : decode cX4_thrown 1 = .ok (.getfield 55, 3) := by decide +kernel
theorem dX4_thrown_4 : decode cX4_thrown 4 = .ok (.ireturn, 1) := by decide +kernel
theorem dX4_in_0 : decode cX4_in 0 = .ok (.lload_n 0, 1) := by decide +kernel
theorem dX4_in_1 : decode cX4_in 1 = .ok (.lload_n 2, 1) := by decide +kernel
theorem dX4_in_2 : decode cX4_in 2 = .ok (.lcmp, 1) := by decide +kernel
theorem dX4_in_3 : decode cX4_in 3 = .ok (.ifCond .lt 14, 3) := by decide +kernel
theorem dX4_in_6 : decode cX4_in 6 = .ok (.lload_n 0, 1) := by decide +kernel
theorem dX4_in_7 : decode cX4_in 7 = .ok (.lload 4, 2) := by decide +kernel
theorem dX4_in_9 : decode cX4_in 9 = .ok (.lcmp, 1) := by decide +kernel
theorem dX4_in_10 : decode cX4_in 10 = .ok (.ifCond .gt 7, 3) := by decide +kernel
theorem dX4_in_13 : decode cX4_in 13 = .ok (.iconst 1, 1) := by decide +kernel
theorem dX4_in_14 : decode cX4_in 14 = .ok (.goto 4, 3) := by decide +kernel
theorem dX4_in_17 : decode cX4_in 17 = .ok (.iconst 0, 1) := by decide +kernel
theorem dX4_in_18 : decode cX4_in 18 = .ok (.ireturn, 1) := by decide +kernel
theorem dX4_c_0 : decode cX4_c 0 = .ok (.iload_n 0, 1) := by decide +kernel
theorem dX4_c_1 : decode cX4_c 1 = .ok (.bipush 15, 2) := by decide +kernel
theorem dX4_c_3 : decode cX4_c 3 = .ok (.iand, 1) := by decide +kernel
theorem dX4_c_4 : decode cX4_c 4 = .ok (.istore_n 1, 1) := by decide +kernel
theorem dX4_c_5 : decode cX4_c 5 = .ok (.iload_n 1, 1) := by decide +kernel
theorem dX4_c_6 : decode cX4_c 6 = .ok (.bipush 8, 2) := by decide +kernel
theorem dX4_c_8 : decode cX4_c 8 = .ok (.if_icmp .le 10, 3) := by decide +kernel
theorem dX4_c_11 : decode cX4_c 11 = .ok (.bipush 16, 2) := by decide +kernel
theorem dX4_c_13 : decode cX4_c 13 = .ok (.iload_n 1, 1) := by decide +kernel
theorem dX4_c_14 : decode cX4_c 14 = .ok (.isub, 1) := by decide +kernel
theorem dX4_c_15 : decode cX4_c 15 = .ok (.goto 4, 3) := by decide +kernel
theorem dX4_c_18 : decode cX4_c 18 = .ok (.iload_n 1, 1) := by decide +kernel
theorem dX4_c_19 : decode cX4_c 19 = .ok (.istore_n 2, 1) := by decide +kernel
theorem dX4_c_20 : decode cX4_c 20 = .ok (.iload_n 2, 1) := by decide +kernel
theorem dX4_c_21 : decode cX4_c 21 = .ok (.tableswitch 70 0 7 #[47, 50, 53, 56, 59, 61, 64, 67], 47) := by decide +kernel
theorem dX4_c_68 : decode cX4_c 68 = .ok (.bipush 64, 2) := by decide +kernel
theorem dX4_c_70 : decode cX4_c 70 = .ok (.ireturn, 1) := by decide +kernel
theorem dX4_c_71 : decode cX4_c 71 = .ok (.bipush 59, 2) := by decide +kernel
theorem dX4_c_73 : decode cX4_c 73 = .ok (.ireturn, 1) := by decide +kernel
theorem dX4_c_74 : decode cX4_c 74 = .ok (.bipush 45, 2) := by decide +kernel
theorem dX4_c_76 : decode cX4_c 76 = .ok (.ireturn, 1) := by decide +kernel
theorem dX4_c_77 : decode cX4_c 77 = .ok (.bipush 24, 2) := by decide +kernel
theorem dX4_c_79 : decode cX4_c 79 = .ok (.ireturn, 1) := by decide +kernel
theorem dX4_c_80 : decode cX4_c 80 = .ok (.iconst 0, 1) := by decide +kernel
theorem dX4_c_81 : decode cX4_c 81 = .ok (.ireturn, 1) := by decide +kernel
theorem dX4_c_82 : decode cX4_c 82 = .ok (.bipush (-24), 2) := by decide +kernel
theorem dX4_c_84 : decode cX4_c 84 = .ok (.ireturn, 1) := by decide +kernel
theorem dX4_c_85 : decode cX4_c 85 = .ok (.bipush (-45), 2) := by decide +kernel
theorem dX4_c_87 : decode cX4_c 87 = .ok (.ireturn, 1) := by decide +kernel
theorem dX4_c_88 : decode cX4_c 88 = .ok (.bipush (-59), 2) := by decide +kernel
theorem dX4_c_90 : decode cX4_c 90 = .ok (.ireturn, 1) := by decide +kernel
theorem dX4_c_91 : decode cX4_c 91 = .ok (.bipush (-64), 2) := by decide +kernel
theorem dX4_c_93 : decode cX4_c 93 = .ok (.ireturn, 1) := by decide +kernel
theorem dX4_isRing_0 : decode cX4_isRing 0 = .ok (.iload_n 1, 1) := by decide +kernel
theorem dX4_isRing_1 : decode cX4_isRing 1 = .ok (.ifCond .lt 15, 3) := by decide +kernel
theorem dX4_isRing_4 : decode cX4_isRing 4 = .ok (.iload_n 1, 1) := by decide +kernel
theorem dX4_isRing_5 : decode cX4_isRing 5 = .ok (.aload_n 0, 1) := by decide +kernel
theorem dX4_isRing_6 : decode cX4_isRing 6 = .ok (.getfield 52, 3) := by decide +kernel
theorem dX4_isRing_9 : decode cX4_isRing 9 = .ok (.if_icmp .ge 7, 3) := by decide +kernel
theorem dX4_isRing_12 : decode cX4_isRing 12 = .ok (.iconst 1, 1) := by decide +kernel
theorem dX4_isRing_13 : decode cX4_isRing 13 = .ok (.goto 4, 3) := by decide +kernel
theorem dX4_isRing_16 : decode cX4_isRing 16 = .ok (.iconst 0, 1) := by decide +kernel
theorem dX4_isRing_17 : decode cX4_isRing 17 = .ok (.ireturn, 1) := by decide +kernel
theorem dX4_isKind_0 : decode cX4_isKind 0 = .ok (.iload_n 1, 1) := by decide +kernel
theorem dX4_isKind_1 : decode cX4_isKind 1 = .ok (.ifCond .lt 15, 3) := by decide +kernel
theorem dX4_isKind_4 : decode cX4_isKind 4 = .ok (.iload_n 1, 1) := by decide +kernel
theorem dX4_isKind_5 : decode cX4_isKind 5 = .ok (.aload_n 0, 1) := by decide +kernel
theorem dX4_isKind_6 : decode cX4_isKind 6 = .ok (.getfield 58, 3) := by decide +kernel
theorem dX4_isKind_9 : decode cX4_isKind 9 = .ok (.if_icmp .ge 7, 3) := by decide +kernel
theorem dX4_isKind_12 : decode cX4_isKind 12 = .ok (.iconst 1, 1) := by decide +kernel
theorem dX4_isKind_13 : decode cX4_isKind 13 = .ok (.goto 4, 3) := by decide +kernel
theorem dX4_isKind_16 : decode cX4_isKind 16 = .ok (.iconst 0, 1) := by decide +kernel
theorem dX4_isKind_17 : decode cX4_isKind 17 = .ok (.ireturn, 1) := by decide +kernel
theorem dX4_isThere_0 : decode cX4_isThere 0 = .ok (.iload_n 1, 1) := by decide +kernel
theorem dX4_isThere_1 : decode cX4_isThere 1 = .ok (.ifCond .lt 20, 3) := by decide +kernel
theorem dX4_isThere_4 : decode cX4_isThere 4 = .ok (.iload_n 1, 1) := by decide +kernel
theorem dX4_isThere_5 : decode cX4_isThere 5 = .ok (.aload_n 0, 1) := by decide +kernel
theorem dX4_isThere_6 : decode cX4_isThere 6 = .ok (.getfield 61, 3) := by decide +kernel
theorem dX4_isThere_9 : decode cX4_isThere 9 = .ok (.aload_n 0, 1) := by decide +kernel
theorem dX4_isThere_10 : decode cX4_isThere 10 = .ok (.getfield 64, 3) := by decide +kernel
theorem dX4_isThere_13 : decode cX4_isThere 13 = .ok (.iadd, 1) := by decide +kernel
theorem dX4_isThere_14 : decode cX4_isThere 14 = .ok (.if_icmp .ge 7, 3) := by decide +kernel
theorem dX4_isThere_17 : decode cX4_isThere 17 = .ok (.iconst 1, 1) := by decide +kernel
theorem dX4_isThere_18 : decode cX4_isThere 18 = .ok (.goto 4, 3) := by decide +kernel
theorem dX4_isThere_21 : decode cX4_isThere 21 = .ok (.iconst 0, 1) := by decide +kernel
theorem dX4_isThere_22 : decode cX4_isThere 22 = .ok (.ireturn, 1) := by decide +kernel
theorem dX4_kind_0 : decode cX4_kind 0 = .ok (.aload_n 0, 1) := by decide +kernel
theorem dX4_kind_1 : decode cX4_kind 1 = .ok (.iconst 0, 1) := by decide +kernel
theorem dX4_kind_2 : decode cX4_kind 2 = .ok (.putfield 55, 3) := by decide +kernel
theorem dX4_kind_5 : decode cX4_kind 5 = .ok (.iload_n 1, 1) := by decide +kernel
theorem dX4_kind_6 : decode cX4_kind 6 = .ok (.i2l, 1) := by decide +kernel
theorem dX4_kind_7 : decode cX4_kind 7 = .ok (.lconst 0, 1) := by decide +kernel
theorem dX4_kind_8 : decode cX4_kind 8 = .ok (.ldc2_w 67, 3) := by decide +kernel
theorem dX4_kind_11 : decode cX4_kind 11 = .ok (.invokestatic 69, 3) := by decide +kernel
theorem dX4_kind_14 : decode cX4_kind 14 = .ok (.ifCond .eq 15, 3) := by decide +kernel
theorem dX4_kind_17 : decode cX4_kind 17 = .ok (.iload_n 2, 1) := by decide +kernel
theorem dX4_kind_18 : decode cX4_kind 18 = .ok (.i2l, 1) := by decide +kernel
theorem dX4_kind_19 : decode cX4_kind 19 = .ok (.lconst 0, 1) := by decide +kernel
theorem dX4_kind_20 : decode cX4_kind 20 = .ok (.ldc2_w 73, 3) := by decide +kernel
theorem dX4_kind_23 : decode cX4_kind 23 = .ok (.invokestatic 69, 3) := by decide +kernel
theorem dX4_kind_26 : decode cX4_kind 26 = .ok (.ifCond .ne 6, 3) := by decide +kernel
theorem dX4_kind_29 : decode cX4_kind 29 = .ok (.bipush (-2), 2) := by decide +kernel
theorem dX4_kind_31 : decode cX4_kind 31 = .ok (.ireturn, 1) := by decide +kernel
theorem dX4_kind_32 : decode cX4_kind 32 = .ok (.aload_n 0, 1) := by decide +kernel
theorem dX4_kind_33 : decode cX4_kind 33 = .ok (.getfield 58, 3) := by decide +kernel
theorem dX4_kind_36 : decode cX4_kind 36 = .ok (.iconst 4, 1) := by decide +kernel
theorem dX4_kind_37 : decode cX4_kind 37 = .ok (.if_icmp .ne 6, 3) := by decide +kernel
theorem dX4_kind_40 : decode cX4_kind 40 = .ok (.bipush (-4), 2) := by decide +kernel
theorem dX4_kind_42 : decode cX4_kind 42 = .ok (.ireturn, 1) := by decide +kernel
theorem dX4_kind_43 : decode cX4_kind 43 = .ok (.aload_n 0, 1) := by decide +kernel
theorem dX4_kind_44 : decode cX4_kind 44 = .ok (.getfield 20, 3) := by decide +kernel
theorem dX4_kind_47 : decode cX4_kind 47 = .ok (.aload_n 0, 1) := by decide +kernel
theorem dX4_kind_48 : decode cX4_kind 48 = .ok (.getfield 58, 3) := by decide +kernel
theorem dX4_kind_51 : decode cX4_kind 51 = .ok (.iload_n 1, 1) := by decide +kernel
theorem dX4_kind_52 : decode cX4_kind 52 = .ok (.iastore, 1) := by decide +kernel
theorem dX4_kind_53 : decode cX4_kind 53 = .ok (.aload_n 0, 1) := by decide +kernel
theorem dX4_kind_54 : decode cX4_kind 54 = .ok (.getfield 24, 3) := by decide +kernel
theorem dX4_kind_57 : decode cX4_kind 57 = .ok (.aload_n 0, 1) := by decide +kernel
theorem dX4_kind_58 : decode cX4_kind 58 = .ok (.getfield 58, 3) := by decide +kernel
theorem dX4_kind_61 : decode cX4_kind 61 = .ok (.iload_n 2, 1) := by decide +kernel
theorem dX4_kind_62 : decode cX4_kind 62 = .ok (.iastore, 1) := by decide +kernel
theorem dX4_kind_63 : decode cX4_kind 63 = .ok (.aload_n 0, 1) := by decide +kernel
theorem dX4_kind_64 : decode cX4_kind 64 = .ok (.dup, 1) := by decide +kernel
theorem dX4_kind_65 : decode cX4_kind 65 = .ok (.getfield 58, 3) := by decide +kernel
theorem dX4_kind_68 : decode cX4_kind 68 = .ok (.iconst 1, 1) := by decide +kernel
theorem dX4_kind_69 : decode cX4_kind 69 = .ok (.iadd, 1) := by decide +kernel
theorem dX4_kind_70 : decode cX4_kind 70 = .ok (.putfield 58, 3) := by decide +kernel
theorem dX4_kind_73 : decode cX4_kind 73 = .ok (.aload_n 0, 1) := by decide +kernel
theorem dX4_kind_74 : decode cX4_kind 74 = .ok (.getfield 58, 3) := by decide +kernel
theorem dX4_kind_77 : decode cX4_kind 77 = .ok (.iconst 1, 1) := by decide +kernel
theorem dX4_kind_78 : decode cX4_kind 78 = .ok (.isub, 1) := by decide +kernel
theorem dX4_kind_79 : decode cX4_kind 79 = .ok (.ireturn, 1) := by decide +kernel
theorem dX4_more_0 : decode cX4_more 0 = .ok (.aload_n 0, 1) := by decide +kernel
theorem dX4_more_1 : decode cX4_more 1 = .ok (.iconst 0, 1) := by decide +kernel
theorem dX4_more_2 : decode cX4_more 2 = .ok (.putfield 55, 3) := by decide +kernel
theorem dX4_more_5 : decode cX4_more 5 = .ok (.aload_n 0, 1) := by decide +kernel
theorem dX4_more_6 : decode cX4_more 6 = .ok (.iload_n 1, 1) := by decide +kernel
theorem dX4_more_7 : decode cX4_more 7 = .ok (.invokevirtual 75, 3) := by decide +kernel
theorem dX4_more_10 : decode cX4_more 10 = .ok (.ifCond .ne 5, 3) := by decide +kernel
theorem dX4_more_13 : decode cX4_more 13 = .ok (.iconst (-1), 1) := by decide +kernel
theorem dX4_more_14 : decode cX4_more 14 = .ok (.ireturn, 1) := by decide +kernel
theorem dX4_more_15 : decode cX4_more 15 = .ok (.iload_n 2, 1) := by decide +kernel
theorem dX4_more_16 : decode cX4_more 16 = .ok (.i2l, 1) := by decide +kernel
theorem dX4_more_17 : decode cX4_more 17 = .ok (.lconst 1, 1) := by decide +kernel
theorem dX4_more_18 : decode cX4_more 18 = .ok (.ldc2_w 73, 3) := by decide +kernel
theorem dX4_more_21 : decode cX4_more 21 = .ok (.invokestatic 69, 3) := by decide +kernel
theorem dX4_more_24 : decode cX4_more 24 = .ok (.ifCond .ne 6, 3) := by decide +kernel
theorem dX4_more_27 : decode cX4_more 27 = .ok (.bipush (-2), 2) := by decide +kernel
theorem dX4_more_29 : decode cX4_more 29 = .ok (.ireturn, 1) := by decide +kernel
theorem dX4_more_30 : decode cX4_more 30 = .ok (.aload_n 0, 1) := by decide +kernel
theorem dX4_more_31 : decode cX4_more 31 = .ok (.getfield 24, 3) := by decide +kernel
theorem dX4_more_34 : decode cX4_more 34 = .ok (.iload_n 1, 1) := by decide +kernel
theorem dX4_more_35 : decode cX4_more 35 = .ok (.dup2, 1) := by decide +kernel
theorem dX4_more_36 : decode cX4_more 36 = .ok (.iaload, 1) := by decide +kernel
theorem dX4_more_37 : decode cX4_more 37 = .ok (.iload_n 2, 1) := by decide +kernel
theorem dX4_more_38 : decode cX4_more 38 = .ok (.iadd, 1) := by decide +kernel
theorem dX4_more_39 : decode cX4_more 39 = .ok (.iastore, 1) := by decide +kernel
theorem dX4_more_40 : decode cX4_more 40 = .ok (.aload_n 0, 1) := by decide +kernel
theorem dX4_more_41 : decode cX4_more 41 = .ok (.getfield 24, 3) := by decide +kernel
theorem dX4_more_44 : decode cX4_more 44 = .ok (.iload_n 1, 1) := by decide +kernel
theorem dX4_more_45 : decode cX4_more 45 = .ok (.iaload, 1) := by decide +kernel
theorem dX4_more_46 : decode cX4_more 46 = .ok (.ireturn, 1) := by decide +kernel
theorem dX4_line_0 : decode cX4_line 0 = .ok (.aload_n 0, 1) := by decide +kernel
theorem dX4_line_1 : decode cX4_line 1 = .ok (.aload_n 0, 1) := by decide +kernel
theorem dX4_line_2 : decode cX4_line 2 = .ok (.iload_n 1, 1) := by decide +kernel
theorem dX4_line_3 : decode cX4_line 3 = .ok (.invokevirtual 79, 3) := by decide +kernel
theorem dX4_line_6 : decode cX4_line 6 = .ok (.ifCond .eq 7, 3) := by decide +kernel
theorem dX4_line_9 : decode cX4_line 9 = .ok (.iconst 0, 1) := by decide +kernel
theorem dX4_line_10 : decode cX4_line 10 = .ok (.goto 4, 3) := by decide +kernel
theorem dX4_line_13 : decode cX4_line 13 = .ok (.iconst 1, 1) := by decide +kernel
theorem dX4_line_14 : decode cX4_line 14 = .ok (.putfield 55, 3) := by decide +kernel
theorem dX4_line_17 : decode cX4_line 17 = .ok (.aload_n 0, 1) := by decide +kernel
theorem dX4_line_18 : decode cX4_line 18 = .ok (.getfield 55, 3) := by decide +kernel
theorem dX4_line_21 : decode cX4_line 21 = .ok (.ifCond .le 5, 3) := by decide +kernel
theorem dX4_line_24 : decode cX4_line 24 = .ok (.iconst 0, 1) := by decide +kernel
theorem dX4_line_25 : decode cX4_line 25 = .ok (.ireturn, 1) := by decide +kernel
theorem dX4_line_26 : decode cX4_line 26 = .ok (.iload_n 2, 1) := by decide +kernel
theorem dX4_line_27 : decode cX4_line 27 = .ok (.i2l, 1) := by decide +kernel
theorem dX4_line_28 : decode cX4_line 28 = .ok (.ldc2_w 82, 3) := by decide +kernel
theorem dX4_line_31 : decode cX4_line 31 = .ok (.ldc2_w 84, 3) := by decide +kernel
theorem dX4_line_34 : decode cX4_line 34 = .ok (.invokestatic 69, 3) := by decide +kernel
theorem dX4_line_37 : decode cX4_line 37 = .ok (.ifCond .eq 17, 3) := by decide +kernel
theorem dX4_line_40 : decode cX4_line 40 = .ok (.iload_n 3, 1) := by decide +kernel
theorem dX4_line_41 : decode cX4_line 41 = .ok (.i2l, 1) := by decide +kernel
theorem dX4_line_42 : decode cX4_line 42 = .ok (.ldc2_w 82, 3) := by decide +kernel
theorem dX4_line_45 : decode cX4_line 45 = .ok (.ldc2_w 84, 3) := by decide +kernel
theorem dX4_line_48 : decode cX4_line 48 = .ok (.invokestatic 69, 3) := by decide +kernel
theorem dX4_line_51 : decode cX4_line 51 = .ok (.ifCond .ne 6, 3) := by decide +kernel
theorem dX4_line_54 : decode cX4_line 54 = .ok (.bipush (-2), 2) := by decide +kernel
theorem dX4_line_56 : decode cX4_line 56 = .ok (.ireturn, 1) := by decide +kernel
theorem dX4_line_57 : decode cX4_line 57 = .ok (.iload_n 1, 1) := by decide +kernel
theorem dX4_line_58 : decode cX4_line 58 = .ok (.aload_n 0, 1) := by decide +kernel
theorem dX4_line_59 : decode cX4_line 59 = .ok (.getfield 61, 3) := by decide +kernel
theorem dX4_line_62 : decode cX4_line 62 = .ok (.if_icmp .ge 6, 3) := by decide +kernel
theorem dX4_line_65 : decode cX4_line 65 = .ok (.bipush (-3), 2) := by decide +kernel
theorem dX4_line_67 : decode cX4_line 67 = .ok (.ireturn, 1) := by decide +kernel
theorem dX4_line_68 : decode cX4_line 68 = .ok (.aload_n 0, 1) := by decide +kernel
theorem dX4_line_69 : decode cX4_line 69 = .ok (.getfield 27, 3) := by decide +kernel
theorem dX4_line_72 : decode cX4_line 72 = .ok (.iload_n 1, 1) := by decide +kernel
theorem dX4_line_73 : decode cX4_line 73 = .ok (.iload_n 2, 1) := by decide +kernel
theorem dX4_line_74 : decode cX4_line 74 = .ok (.iastore, 1) := by decide +kernel
theorem dX4_line_75 : decode cX4_line 75 = .ok (.aload_n 0, 1) := by decide +kernel
theorem dX4_line_76 : decode cX4_line 76 = .ok (.getfield 30, 3) := by decide +kernel
theorem dX4_line_79 : decode cX4_line 79 = .ok (.iload_n 1, 1) := by decide +kernel
theorem dX4_line_80 : decode cX4_line 80 = .ok (.iload_n 3, 1) := by decide +kernel
theorem dX4_line_81 : decode cX4_line 81 = .ok (.iastore, 1) := by decide +kernel
theorem dX4_line_82 : decode cX4_line 82 = .ok (.iconst 1, 1) := by decide +kernel
theorem dX4_line_83 : decode cX4_line 83 = .ok (.ireturn, 1) := by decide +kernel
theorem dX4_apart_0 : decode cX4_apart 0 = .ok (.aload_n 0, 1) := by decide +kernel
theorem dX4_apart_1 : decode cX4_apart 1 = .ok (.iconst 0, 1) := by decide +kernel
theorem dX4_apart_2 : decode cX4_apart 2 = .ok (.putfield 55, 3) := by decide +kernel
theorem dX4_apart_5 : decode cX4_apart 5 = .ok (.iload_n 1, 1) := by decide +kernel
theorem dX4_apart_6 : decode cX4_apart 6 = .ok (.i2l, 1) := by decide +kernel
theorem dX4_apart_7 : decode cX4_apart 7 = .ok (.lconst 1, 1) := by decide +kernel
theorem dX4_apart_8 : decode cX4_apart 8 = .ok (.ldc2_w 86, 3) := by decide +kernel
theorem dX4_apart_11 : decode cX4_apart 11 = .ok (.invokestatic 69, 3) := by decide +kernel
theorem dX4_apart_14 : decode cX4_apart 14 = .ok (.ifCond .ne 6, 3) := by decide +kernel
theorem dX4_apart_17 : decode cX4_apart 17 = .ok (.bipush (-2), 2) := by decide +kernel
theorem dX4_apart_19 : decode cX4_apart 19 = .ok (.ireturn, 1) := by decide +kernel
theorem dX4_apart_20 : decode cX4_apart 20 = .ok (.aload_n 0, 1) := by decide +kernel
theorem dX4_apart_21 : decode cX4_apart 21 = .ok (.iload_n 1, 1) := by decide +kernel
theorem dX4_apart_22 : decode cX4_apart 22 = .ok (.putfield 7, 3) := by decide +kernel
theorem dX4_apart_25 : decode cX4_apart 25 = .ok (.iconst 1, 1) := by decide +kernel
theorem dX4_apart_26 : decode cX4_apart 26 = .ok (.ireturn, 1) := by decide +kernel
theorem dX4_allow_0 : decode cX4_allow 0 = .ok (.aload_n 0, 1) := by decide +kernel
theorem dX4_allow_1 : decode cX4_allow 1 = .ok (.iconst 0, 1) := by decide +kernel
theorem dX4_allow_2 : decode cX4_allow 2 = .ok (.putfield 55, 3) := by decide +kernel
theorem dX4_allow_5 : decode cX4_allow 5 = .ok (.iload_n 1, 1) := by decide +kernel
theorem dX4_allow_6 : decode cX4_allow 6 = .ok (.i2l, 1) := by decide +kernel
theorem dX4_allow_7 : decode cX4_allow 7 = .ok (.lconst 0, 1) := by decide +kernel
theorem dX4_allow_8 : decode cX4_allow 8 = .ok (.ldc2_w 88, 3) := by decide +kernel
theorem dX4_allow_11 : decode cX4_allow 11 = .ok (.invokestatic 69, 3) := by decide +kernel
theorem dX4_allow_14 : decode cX4_allow 14 = .ok (.ifCond .eq 13, 3) := by decide +kernel
theorem dX4_allow_17 : decode cX4_allow 17 = .ok (.aload_n 0, 1) := by decide +kernel
theorem dX4_allow_18 : decode cX4_allow 18 = .ok (.getfield 16, 3) := by decide +kernel
theorem dX4_allow_21 : decode cX4_allow 21 = .ok (.iload_n 1, 1) := by decide +kernel
theorem dX4_allow_22 : decode cX4_allow 22 = .ok (.baload, 1) := by decide +kernel
theorem dX4_allow_23 : decode cX4_allow 23 = .ok (.iload_n 2, 1) := by decide +kernel
theorem dX4_allow_24 : decode cX4_allow 24 = .ok (.if_icmp .ne 5, 3) := by decide +kernel
theorem dX4_allow_27 : decode cX4_allow 27 = .ok (.iconst 0, 1) := by decide +kernel
theorem dX4_allow_28 : decode cX4_allow 28 = .ok (.ireturn, 1) := by decide +kernel
theorem dX4_allow_29 : decode cX4_allow 29 = .ok (.aload_n 0, 1) := by decide +kernel
theorem dX4_allow_30 : decode cX4_allow 30 = .ok (.getfield 16, 3) := by decide +kernel
theorem dX4_allow_33 : decode cX4_allow 33 = .ok (.iload_n 1, 1) := by decide +kernel
theorem dX4_allow_34 : decode cX4_allow 34 = .ok (.iload_n 2, 1) := by decide +kernel
theorem dX4_allow_35 : decode cX4_allow 35 = .ok (.bastore, 1) := by decide +kernel
theorem dX4_allow_36 : decode cX4_allow 36 = .ok (.iconst 1, 1) := by decide +kernel
theorem dX4_allow_37 : decode cX4_allow 37 = .ok (.ireturn, 1) := by decide +kernel
theorem dX4_look_0 : decode cX4_look 0 = .ok (.aload_n 0, 1) := by decide +kernel
theorem dX4_look_1 : decode cX4_look 1 = .ok (.iconst 0, 1) := by decide +kernel
theorem dX4_look_2 : decode cX4_look 2 = .ok (.putfield 55, 3) := by decide +kernel
theorem dX4_look_5 : decode cX4_look 5 = .ok (.iload_n 1, 1) := by decide +kernel
theorem dX4_look_6 : decode cX4_look 6 = .ok (.i2l, 1) := by decide +kernel
theorem dX4_look_7 : decode cX4_look 7 = .ok (.lconst 1, 1) := by decide +kernel
theorem dX4_look_8 : decode cX4_look 8 = .ok (.ldc2_w 90, 3) := by decide +kernel
theorem dX4_look_11 : decode cX4_look 11 = .ok (.invokestatic 69, 3) := by decide +kernel
theorem dX4_look_14 : decode cX4_look 14 = .ok (.ifCond .ne 6, 3) := by decide +kernel
theorem dX4_look_17 : decode cX4_look 17 = .ok (.bipush (-2), 2) := by decide +kernel
theorem dX4_look_19 : decode cX4_look 19 = .ok (.ireturn, 1) := by decide +kernel
theorem dX4_look_20 : decode cX4_look 20 = .ok (.aload_n 0, 1) := by decide +kernel
theorem dX4_look_21 : decode cX4_look 21 = .ok (.iload_n 1, 1) := by decide +kernel
theorem dX4_look_22 : decode cX4_look 22 = .ok (.putfield 13, 3) := by decide +kernel
theorem dX4_look_25 : decode cX4_look 25 = .ok (.iconst 1, 1) := by decide +kernel
theorem dX4_look_26 : decode cX4_look 26 = .ok (.ireturn, 1) := by decide +kernel
theorem dX4_usedOf_0 : decode cX4_usedOf 0 = .ok (.iconst 0, 1) := by decide +kernel
theorem dX4_usedOf_1 : decode cX4_usedOf 1 = .ok (.istore_n 2, 1) := by decide +kernel
theorem dX4_usedOf_2 : decode cX4_usedOf 2 = .ok (.iconst 0, 1) := by decide +kernel
theorem dX4_usedOf_3 : decode cX4_usedOf 3 = .ok (.istore_n 3, 1) := by decide +kernel
theorem dX4_usedOf_4 : decode cX4_usedOf 4 = .ok (.iload_n 3, 1) := by decide +kernel
theorem dX4_usedOf_5 : decode cX4_usedOf 5 = .ok (.aload_n 0, 1) := by decide +kernel
theorem dX4_usedOf_6 : decode cX4_usedOf 6 = .ok (.getfield 61, 3) := by decide +kernel
theorem dX4_usedOf_9 : decode cX4_usedOf 9 = .ok (.aload_n 0, 1) := by decide +kernel
theorem dX4_usedOf_10 : decode cX4_usedOf 10 = .ok (.getfield 64, 3) := by decide +kernel
theorem dX4_usedOf_13 : decode cX4_usedOf 13 = .ok (.iadd, 1) := by decide +kernel
theorem dX4_usedOf_14 : decode cX4_usedOf 14 = .ok (.if_icmp .ge 27, 3) := by decide +kernel
theorem dX4_usedOf_17 : decode cX4_usedOf 17 = .ok (.aload_n 0, 1) := by decide +kernel
theorem dX4_usedOf_18 : decode cX4_usedOf 18 = .ok (.getfield 33, 3) := by decide +kernel
theorem dX4_usedOf_21 : decode cX4_usedOf 21 = .ok (.iload_n 3, 1) := by decide +kernel
theorem dX4_usedOf_22 : decode cX4_usedOf 22 = .ok (.iaload, 1) := by decide +kernel
theorem dX4_usedOf_23 : decode cX4_usedOf 23 = .ok (.iload_n 1, 1) := by decide +kernel
theorem dX4_usedOf_24 : decode cX4_usedOf 24 = .ok (.if_icmp .ne 9, 3) := by decide +kernel
theorem dX4_usedOf_27 : decode cX4_usedOf 27 = .ok (.iload_n 2, 1) := by decide +kernel
theorem dX4_usedOf_28 : decode cX4_usedOf 28 = .ok (.iconst 1, 1) := by decide +kernel
theorem dX4_usedOf_29 : decode cX4_usedOf 29 = .ok (.iadd, 1) := by decide +kernel
theorem dX4_usedOf_30 : decode cX4_usedOf 30 = .ok (.goto 4, 3) := by decide +kernel
theorem dX4_usedOf_33 : decode cX4_usedOf 33 = .ok (.iload_n 2, 1) := by decide +kernel
theorem dX4_usedOf_34 : decode cX4_usedOf 34 = .ok (.istore_n 2, 1) := by decide +kernel
theorem dX4_usedOf_35 : decode cX4_usedOf 35 = .ok (.iinc 3 1, 3) := by decide +kernel
theorem dX4_usedOf_38 : decode cX4_usedOf 38 = .ok (.goto (-34), 3) := by decide +kernel
theorem dX4_usedOf_41 : decode cX4_usedOf 41 = .ok (.iload_n 2, 1) := by decide +kernel
theorem dX4_usedOf_42 : decode cX4_usedOf 42 = .ok (.ireturn, 1) := by decide +kernel
theorem dX4_set_0 : decode cX4_set 0 = .ok (.aload_n 0, 1) := by decide +kernel
theorem dX4_set_1 : decode cX4_set 1 = .ok (.getfield 33, 3) := by decide +kernel
theorem dX4_set_4 : decode cX4_set 4 = .ok (.iload_n 1, 1) := by decide +kernel
theorem dX4_set_5 : decode cX4_set 5 = .ok (.iload_n 2, 1) := by decide +kernel
theorem dX4_set_6 : decode cX4_set 6 = .ok (.iastore, 1) := by decide +kernel
theorem dX4_set_7 : decode cX4_set 7 = .ok (.aload_n 0, 1) := by decide +kernel
theorem dX4_set_8 : decode cX4_set 8 = .ok (.getfield 36, 3) := by decide +kernel
theorem dX4_set_11 : decode cX4_set 11 = .ok (.iload_n 1, 1) := by decide +kernel
theorem dX4_set_12 : decode cX4_set 12 = .ok (.iload_n 3, 1) := by decide +kernel
theorem dX4_set_13 : decode cX4_set 13 = .ok (.iastore, 1) := by decide +kernel
theorem dX4_set_14 : decode cX4_set 14 = .ok (.iload_n 1, 1) := by decide +kernel
theorem dX4_set_15 : decode cX4_set 15 = .ok (.ifCond .ne 7, 3) := by decide +kernel
theorem dX4_set_18 : decode cX4_set 18 = .ok (.lconst 0, 1) := by decide +kernel
theorem dX4_set_19 : decode cX4_set 19 = .ok (.goto 11, 3) := by decide +kernel
theorem dX4_set_22 : decode cX4_set 22 = .ok (.aload_n 0, 1) := by decide +kernel
theorem dX4_set_23 : decode cX4_set 23 = .ok (.getfield 46, 3) := by decide +kernel
theorem dX4_set_26 : decode cX4_set 26 = .ok (.iload_n 1, 1) := by decide +kernel
theorem dX4_set_27 : decode cX4_set 27 = .ok (.iconst 1, 1) := by decide +kernel
theorem dX4_set_28 : decode cX4_set 28 = .ok (.isub, 1) := by decide +kernel
theorem dX4_set_29 : decode cX4_set 29 = .ok (.laload, 1) := by decide +kernel
theorem dX4_set_30 : decode cX4_set 30 = .ok (.lstore 4, 2) := by decide +kernel
theorem dX4_set_32 : decode cX4_set 32 = .ok (.iload_n 1, 1) := by decide +kernel
theorem dX4_set_33 : decode cX4_set 33 = .ok (.ifCond .ne 7, 3) := by decide +kernel
theorem dX4_set_36 : decode cX4_set 36 = .ok (.lconst 0, 1) := by decide +kernel
theorem dX4_set_37 : decode cX4_set 37 = .ok (.goto 11, 3) := by decide +kernel
theorem dX4_set_40 : decode cX4_set 40 = .ok (.aload_n 0, 1) := by decide +kernel
theorem dX4_set_41 : decode cX4_set 41 = .ok (.getfield 49, 3) := by decide +kernel
theorem dX4_set_44 : decode cX4_set 44 = .ok (.iload_n 1, 1) := by decide +kernel
theorem dX4_set_45 : decode cX4_set 45 = .ok (.iconst 1, 1) := by decide +kernel
theorem dX4_set_46 : decode cX4_set 46 = .ok (.isub, 1) := by decide +kernel
theorem dX4_set_47 : decode cX4_set 47 = .ok (.laload, 1) := by decide +kernel
theorem dX4_set_48 : decode cX4_set 48 = .ok (.lstore 6, 2) := by decide +kernel
theorem dX4_set_50 : decode cX4_set 50 = .ok (.aload_n 0, 1) := by decide +kernel
theorem dX4_set_51 : decode cX4_set 51 = .ok (.getfield 46, 3) := by decide +kernel
theorem dX4_set_54 : decode cX4_set 54 = .ok (.iload_n 1, 1) := by decide +kernel
theorem dX4_set_55 : decode cX4_set 55 = .ok (.lload 4, 2) := by decide +kernel
theorem dX4_set_57 : decode cX4_set 57 = .ok (.aload_n 0, 1) := by decide +kernel
theorem dX4_set_58 : decode cX4_set 58 = .ok (.getfield 20, 3) := by decide +kernel
theorem dX4_set_61 : decode cX4_set 61 = .ok (.iload_n 2, 1) := by decide +kernel
theorem dX4_set_62 : decode cX4_set 62 = .ok (.iaload, 1) := by decide +kernel
theorem dX4_set_63 : decode cX4_set 63 = .ok (.iload_n 3, 1) := by decide +kernel
theorem dX4_set_64 : decode cX4_set 64 = .ok (.invokestatic 92, 3) := by decide +kernel
theorem dX4_set_67 : decode cX4_set 67 = .ok (.imul, 1) := by decide +kernel
theorem dX4_set_68 : decode cX4_set 68 = .ok (.i2l, 1) := by decide +kernel
theorem dX4_set_69 : decode cX4_set 69 = .ok (.ladd, 1) := by decide +kernel
theorem dX4_set_70 : decode cX4_set 70 = .ok (.lastore, 1) := by decide +kernel
theorem dX4_set_71 : decode cX4_set 71 = .ok (.aload_n 0, 1) := by decide +kernel
theorem dX4_set_72 : decode cX4_set 72 = .ok (.getfield 49, 3) := by decide +kernel
theorem dX4_set_75 : decode cX4_set 75 = .ok (.iload_n 1, 1) := by decide +kernel
theorem dX4_set_76 : decode cX4_set 76 = .ok (.lload 6, 2) := by decide +kernel
theorem dX4_set_78 : decode cX4_set 78 = .ok (.aload_n 0, 1) := by decide +kernel
theorem dX4_set_79 : decode cX4_set 79 = .ok (.getfield 20, 3) := by decide +kernel
theorem dX4_set_82 : decode cX4_set 82 = .ok (.iload_n 2, 1) := by decide +kernel
theorem dX4_set_83 : decode cX4_set 83 = .ok (.iaload, 1) := by decide +kernel
theorem dX4_set_84 : decode cX4_set 84 = .ok (.iload_n 3, 1) := by decide +kernel
theorem dX4_set_85 : decode cX4_set 85 = .ok (.iconst 4, 1) := by decide +kernel
theorem dX4_set_86 : decode cX4_set 86 = .ok (.isub, 1) := by decide +kernel
theorem dX4_set_87 : decode cX4_set 87 = .ok (.invokestatic 92, 3) := by decide +kernel
theorem dX4_set_90 : decode cX4_set 90 = .ok (.imul, 1) := by decide +kernel
theorem dX4_set_91 : decode cX4_set 91 = .ok (.i2l, 1) := by decide +kernel
theorem dX4_set_92 : decode cX4_set 92 = .ok (.ladd, 1) := by decide +kernel
theorem dX4_set_93 : decode cX4_set 93 = .ok (.lastore, 1) := by decide +kernel
theorem dX4_set_94 : decode cX4_set 94 = .ok (.aload_n 0, 1) := by decide +kernel
theorem dX4_set_95 : decode cX4_set 95 = .ok (.getfield 39, 3) := by decide +kernel
theorem dX4_set_98 : decode cX4_set 98 = .ok (.iload_n 1, 1) := by decide +kernel
theorem dX4_set_99 : decode cX4_set 99 = .ok (.iload_n 1, 1) := by decide +kernel
theorem dX4_set_100 : decode cX4_set 100 = .ok (.ifCond .ne 7, 3) := by decide +kernel
theorem dX4_set_103 : decode cX4_set 103 = .ok (.lconst 0, 1) := by decide +kernel
theorem dX4_set_104 : decode cX4_set 104 = .ok (.goto 11, 3) := by decide +kernel
theorem dX4_set_107 : decode cX4_set 107 = .ok (.aload_n 0, 1) := by decide +kernel
theorem dX4_set_108 : decode cX4_set 108 = .ok (.getfield 39, 3) := by decide +kernel
theorem dX4_set_111 : decode cX4_set 111 = .ok (.iload_n 1, 1) := by decide +kernel
theorem dX4_set_112 : decode cX4_set 112 = .ok (.iconst 1, 1) := by decide +kernel
theorem dX4_set_113 : decode cX4_set 113 = .ok (.isub, 1) := by decide +kernel
theorem dX4_set_114 : decode cX4_set 114 = .ok (.laload, 1) := by decide +kernel
theorem dX4_set_115 : decode cX4_set 115 = .ok (.lload 4, 2) := by decide +kernel
theorem dX4_set_117 : decode cX4_set 117 = .ok (.ladd, 1) := by decide +kernel
theorem dX4_set_118 : decode cX4_set 118 = .ok (.aload_n 0, 1) := by decide +kernel
theorem dX4_set_119 : decode cX4_set 119 = .ok (.getfield 46, 3) := by decide +kernel
theorem dX4_set_122 : decode cX4_set 122 = .ok (.iload_n 1, 1) := by decide +kernel
theorem dX4_set_123 : decode cX4_set 123 = .ok (.laload, 1) := by decide +kernel
theorem dX4_set_124 : decode cX4_set 124 = .ok (.ladd, 1) := by decide +kernel
theorem dX4_set_125 : decode cX4_set 125 = .ok (.lastore, 1) := by decide +kernel
theorem dX4_set_126 : decode cX4_set 126 = .ok (.aload_n 0, 1) := by decide +kernel
theorem dX4_set_127 : decode cX4_set 127 = .ok (.getfield 43, 3) := by decide +kernel
theorem dX4_set_130 : decode cX4_set 130 = .ok (.iload_n 1, 1) := by decide +kernel
theorem dX4_set_131 : decode cX4_set 131 = .ok (.iload_n 1, 1) := by decide +kernel
theorem dX4_set_132 : decode cX4_set 132 = .ok (.ifCond .ne 7, 3) := by decide +kernel
theorem dX4_set_135 : decode cX4_set 135 = .ok (.lconst 0, 1) := by decide +kernel
theorem dX4_set_136 : decode cX4_set 136 = .ok (.goto 11, 3) := by decide +kernel
theorem dX4_set_139 : decode cX4_set 139 = .ok (.aload_n 0, 1) := by decide +kernel
theorem dX4_set_140 : decode cX4_set 140 = .ok (.getfield 43, 3) := by decide +kernel
theorem dX4_set_143 : decode cX4_set 143 = .ok (.iload_n 1, 1) := by decide +kernel
theorem dX4_set_144 : decode cX4_set 144 = .ok (.iconst 1, 1) := by decide +kernel
theorem dX4_set_145 : decode cX4_set 145 = .ok (.isub, 1) := by decide +kernel
theorem dX4_set_146 : decode cX4_set 146 = .ok (.laload, 1) := by decide +kernel
theorem dX4_set_147 : decode cX4_set 147 = .ok (.lload 6, 2) := by decide +kernel
theorem dX4_set_149 : decode cX4_set 149 = .ok (.ladd, 1) := by decide +kernel
theorem dX4_set_150 : decode cX4_set 150 = .ok (.aload_n 0, 1) := by decide +kernel
theorem dX4_set_151 : decode cX4_set 151 = .ok (.getfield 49, 3) := by decide +kernel
theorem dX4_set_154 : decode cX4_set 154 = .ok (.iload_n 1, 1) := by decide +kernel
theorem dX4_set_155 : decode cX4_set 155 = .ok (.laload, 1) := by decide +kernel
theorem dX4_set_156 : decode cX4_set 156 = .ok (.ladd, 1) := by decide +kernel
theorem dX4_set_157 : decode cX4_set 157 = .ok (.lastore, 1) := by decide +kernel
theorem dX4_set_158 : decode cX4_set 158 = .ok (.return_, 1) := by decide +kernel
theorem dX4_mayStand_0 : decode cX4_mayStand 0 = .ok (.aload_n 0, 1) := by decide +kernel
theorem dX4_mayStand_1 : decode cX4_mayStand 1 = .ok (.getfield 16, 3) := by decide +kernel
theorem dX4_mayStand_4 : decode cX4_mayStand 4 = .ok (.iload_n 3, 1) := by decide +kernel
theorem dX4_mayStand_5 : decode cX4_mayStand 5 = .ok (.baload, 1) := by decide +kernel
theorem dX4_mayStand_6 : decode cX4_mayStand 6 = .ok (.ifCond .eq 25, 3) := by decide +kernel
theorem dX4_mayStand_9 : decode cX4_mayStand 9 = .ok (.aload_n 0, 1) := by decide +kernel
theorem dX4_mayStand_10 : decode cX4_mayStand 10 = .ok (.getfield 24, 3) := by decide +kernel
theorem dX4_mayStand_13 : decode cX4_mayStand 13 = .ok (.iload_n 2, 1) := by decide +kernel
theorem dX4_mayStand_14 : decode cX4_mayStand 14 = .ok (.iaload, 1) := by decide +kernel
theorem dX4_mayStand_15 : decode cX4_mayStand 15 = .ok (.aload_n 0, 1) := by decide +kernel
theorem dX4_mayStand_16 : decode cX4_mayStand 16 = .ok (.iload_n 2, 1) := by decide +kernel
theorem dX4_mayStand_17 : decode cX4_mayStand 17 = .ok (.invokevirtual 96, 3) := by decide +kernel
theorem dX4_mayStand_20 : decode cX4_mayStand 20 = .ok (.isub, 1) := by decide +kernel
theorem dX4_mayStand_21 : decode cX4_mayStand 21 = .ok (.iload 4, 2) := by decide +kernel
theorem dX4_mayStand_23 : decode cX4_mayStand 23 = .ok (.isub, 1) := by decide +kernel
theorem dX4_mayStand_24 : decode cX4_mayStand 24 = .ok (.ifCond .le 7, 3) := by decide +kernel
theorem dX4_mayStand_27 : decode cX4_mayStand 27 = .ok (.iconst 1, 1) := by decide +kernel
theorem dX4_mayStand_28 : decode cX4_mayStand 28 = .ok (.goto 4, 3) := by decide +kernel
theorem dX4_mayStand_31 : decode cX4_mayStand 31 = .ok (.iconst 0, 1) := by decide +kernel
theorem dX4_mayStand_32 : decode cX4_mayStand 32 = .ok (.istore 5, 2) := by decide +kernel
theorem dX4_mayStand_34 : decode cX4_mayStand 34 = .ok (.iload_n 1, 1) := by decide +kernel
theorem dX4_mayStand_35 : decode cX4_mayStand 35 = .ok (.ifCond .ne 7, 3) := by decide +kernel
theorem dX4_mayStand_38 : decode cX4_mayStand 38 = .ok (.iconst 0, 1) := by decide +kernel
theorem dX4_mayStand_39 : decode cX4_mayStand 39 = .ok (.goto 13, 3) := by decide +kernel
theorem dX4_mayStand_42 : decode cX4_mayStand 42 = .ok (.iload_n 3, 1) := by decide +kernel
theorem dX4_mayStand_43 : decode cX4_mayStand 43 = .ok (.aload_n 0, 1) := by decide +kernel
theorem dX4_mayStand_44 : decode cX4_mayStand 44 = .ok (.getfield 36, 3) := by decide +kernel
theorem dX4_mayStand_47 : decode cX4_mayStand 47 = .ok (.iload_n 1, 1) := by decide +kernel
theorem dX4_mayStand_48 : decode cX4_mayStand 48 = .ok (.iconst 1, 1) := by decide +kernel
theorem dX4_mayStand_49 : decode cX4_mayStand 49 = .ok (.isub, 1) := by decide +kernel
theorem dX4_mayStand_50 : decode cX4_mayStand 50 = .ok (.iaload, 1) := by decide +kernel
theorem dX4_mayStand_51 : decode cX4_mayStand 51 = .ok (.isub, 1) := by decide +kernel
theorem dX4_mayStand_52 : decode cX4_mayStand 52 = .ok (.istore 6, 2) := by decide +kernel
theorem dX4_mayStand_54 : decode cX4_mayStand 54 = .ok (.iload 5, 2) := by decide +kernel
theorem dX4_mayStand_56 : decode cX4_mayStand 56 = .ok (.ifCond .eq 21, 3) := by decide +kernel
theorem dX4_mayStand_59 : decode cX4_mayStand 59 = .ok (.iload_n 1, 1) := by decide +kernel
theorem dX4_mayStand_60 : decode cX4_mayStand 60 = .ok (.ifCond .eq 13, 3) := by decide +kernel
theorem dX4_mayStand_63 : decode cX4_mayStand 63 = .ok (.iload 6, 2) := by decide +kernel
theorem dX4_mayStand_65 : decode cX4_mayStand 65 = .ok (.aload_n 0, 1) := by decide +kernel
theorem dX4_mayStand_66 : decode cX4_mayStand 66 = .ok (.getfield 7, 3) := by decide +kernel
theorem dX4_mayStand_69 : decode cX4_mayStand 69 = .ok (.irem, 1) := by decide +kernel
theorem dX4_mayStand_70 : decode cX4_mayStand 70 = .ok (.ifCond .eq 7, 3) := by decide +kernel
theorem dX4_mayStand_73 : decode cX4_mayStand 73 = .ok (.iconst 1, 1) := by decide +kernel
theorem dX4_mayStand_74 : decode cX4_mayStand 74 = .ok (.goto 4, 3) := by decide +kernel
theorem dX4_mayStand_77 : decode cX4_mayStand 77 = .ok (.iconst 0, 1) := by decide +kernel
theorem dX4_mayStand_78 : decode cX4_mayStand 78 = .ok (.ireturn, 1) := by decide +kernel
theorem dX4_offOf_0 : decode cX4_offOf 0 = .ok (.aload_n 0, 1) := by decide +kernel
theorem dX4_offOf_1 : decode cX4_offOf 1 = .ok (.getfield 39, 3) := by decide +kernel
theorem dX4_offOf_4 : decode cX4_offOf 4 = .ok (.iload_n 1, 1) := by decide +kernel
theorem dX4_offOf_5 : decode cX4_offOf 5 = .ok (.laload, 1) := by decide +kernel
theorem dX4_offOf_6 : decode cX4_offOf 6 = .ok (.aload_n 0, 1) := by decide +kernel
theorem dX4_offOf_7 : decode cX4_offOf 7 = .ok (.getfield 27, 3) := by decide +kernel
theorem dX4_offOf_10 : decode cX4_offOf 10 = .ok (.iload_n 1, 1) := by decide +kernel
theorem dX4_offOf_11 : decode cX4_offOf 11 = .ok (.iaload, 1) := by decide +kernel
theorem dX4_offOf_12 : decode cX4_offOf 12 = .ok (.i2l, 1) := by decide +kernel
theorem dX4_offOf_13 : decode cX4_offOf 13 = .ok (.lsub, 1) := by decide +kernel
theorem dX4_offOf_14 : decode cX4_offOf 14 = .ok (.lstore_n 2, 1) := by decide +kernel
theorem dX4_offOf_15 : decode cX4_offOf 15 = .ok (.aload_n 0, 1) := by decide +kernel
theorem dX4_offOf_16 : decode cX4_offOf 16 = .ok (.getfield 43, 3) := by decide +kernel
theorem dX4_offOf_19 : decode cX4_offOf 19 = .ok (.iload_n 1, 1) := by decide +kernel
theorem dX4_offOf_20 : decode cX4_offOf 20 = .ok (.laload, 1) := by decide +kernel
theorem dX4_offOf_21 : decode cX4_offOf 21 = .ok (.aload_n 0, 1) := by decide +kernel
theorem dX4_offOf_22 : decode cX4_offOf 22 = .ok (.getfield 30, 3) := by decide +kernel
theorem dX4_offOf_25 : decode cX4_offOf 25 = .ok (.iload_n 1, 1) := by decide +kernel
theorem dX4_offOf_26 : decode cX4_offOf 26 = .ok (.iaload, 1) := by decide +kernel
theorem dX4_offOf_27 : decode cX4_offOf 27 = .ok (.i2l, 1) := by decide +kernel
theorem dX4_offOf_28 : decode cX4_offOf 28 = .ok (.lsub, 1) := by decide +kernel
theorem dX4_offOf_29 : decode cX4_offOf 29 = .ok (.lstore 4, 2) := by decide +kernel
theorem dX4_offOf_31 : decode cX4_offOf 31 = .ok (.lload_n 2, 1) := by decide +kernel
theorem dX4_offOf_32 : decode cX4_offOf 32 = .ok (.lload_n 2, 1) := by decide +kernel
theorem dX4_offOf_33 : decode cX4_offOf 33 = .ok (.lmul, 1) := by decide +kernel
theorem dX4_offOf_34 : decode cX4_offOf 34 = .ok (.lload 4, 2) := by decide +kernel
theorem dX4_offOf_36 : decode cX4_offOf 36 = .ok (.lload 4, 2) := by decide +kernel
theorem dX4_offOf_38 : decode cX4_offOf 38 = .ok (.lmul, 1) := by decide +kernel
theorem dX4_offOf_39 : decode cX4_offOf 39 = .ok (.ladd, 1) := by decide +kernel
theorem dX4_offOf_40 : decode cX4_offOf 40 = .ok (.lreturn, 1) := by decide +kernel
theorem dX4_note_0 : decode cX4_note 0 = .ok (.iload_n 1, 1) := by decide +kernel
theorem dX4_note_1 : decode cX4_note 1 = .ok (.aload_n 0, 1) := by decide +kernel
theorem dX4_note_2 : decode cX4_note 2 = .ok (.getfield 99, 3) := by decide +kernel
theorem dX4_note_5 : decode cX4_note 5 = .ok (.if_icmp .gt 20, 3) := by decide +kernel
theorem dX4_note_8 : decode cX4_note 8 = .ok (.iload_n 1, 1) := by decide +kernel
theorem dX4_note_9 : decode cX4_note 9 = .ok (.aload_n 0, 1) := by decide +kernel
theorem dX4_note_10 : decode cX4_note 10 = .ok (.getfield 99, 3) := by decide +kernel
theorem dX4_note_13 : decode cX4_note 13 = .ok (.if_icmp .ne 34, 3) := by decide +kernel
theorem dX4_note_16 : decode cX4_note 16 = .ok (.lload_n 2, 1) := by decide +kernel
theorem dX4_note_17 : decode cX4_note 17 = .ok (.aload_n 0, 1) := by decide +kernel
theorem dX4_note_18 : decode cX4_note 18 = .ok (.getfield 102, 3) := by decide +kernel
theorem dX4_note_21 : decode cX4_note 21 = .ok (.lcmp, 1) := by decide +kernel
theorem dX4_note_22 : decode cX4_note 22 = .ok (.ifCond .ge 25, 3) := by decide +kernel
theorem dX4_note_25 : decode cX4_note 25 = .ok (.aload_n 0, 1) := by decide +kernel
theorem dX4_note_26 : decode cX4_note 26 = .ok (.iload_n 1, 1) := by decide +kernel
theorem dX4_note_27 : decode cX4_note 27 = .ok (.putfield 99, 3) := by decide +kernel
theorem dX4_note_30 : decode cX4_note 30 = .ok (.aload_n 0, 1) := by decide +kernel
theorem dX4_note_31 : decode cX4_note 31 = .ok (.lload_n 2, 1) := by decide +kernel
theorem dX4_note_32 : decode cX4_note 32 = .ok (.putfield 102, 3) := by decide +kernel
theorem dX4_note_35 : decode cX4_note 35 = .ok (.aload_n 0, 1) := by decide +kernel
theorem dX4_note_36 : decode cX4_note 36 = .ok (.iload 4, 2) := by decide +kernel
theorem dX4_note_38 : decode cX4_note 38 = .ok (.putfield 106, 3) := by decide +kernel
theorem dX4_note_41 : decode cX4_note 41 = .ok (.aload_n 0, 1) := by decide +kernel
theorem dX4_note_42 : decode cX4_note 42 = .ok (.iload 5, 2) := by decide +kernel
theorem dX4_note_44 : decode cX4_note 44 = .ok (.putfield 109, 3) := by decide +kernel
theorem dX4_note_47 : decode cX4_note 47 = .ok (.return_, 1) := by decide +kernel
theorem dX4_trySecond_0 : decode cX4_trySecond 0 = .ok (.iconst 0, 1) := by decide +kernel
theorem dX4_trySecond_1 : decode cX4_trySecond 1 = .ok (.istore 6, 2) := by decide +kernel
theorem dX4_trySecond_3 : decode cX4_trySecond 3 = .ok (.iload 6, 2) := by decide +kernel
theorem dX4_trySecond_5 : decode cX4_trySecond 5 = .ok (.aload_n 0, 1) := by decide +kernel
theorem dX4_trySecond_6 : decode cX4_trySecond 6 = .ok (.getfield 58, 3) := by decide +kernel
theorem dX4_trySecond_9 : decode cX4_trySecond 9 = .ok (.if_icmp .ge 74, 3) := by decide +kernel
theorem dX4_trySecond_12 : decode cX4_trySecond 12 = .ok (.iconst 0, 1) := by decide +kernel
theorem dX4_trySecond_13 : decode cX4_trySecond 13 = .ok (.istore 7, 2) := by decide +kernel
theorem dX4_trySecond_15 : decode cX4_trySecond 15 = .ok (.iload 7, 2) := by decide +kernel
theorem dX4_trySecond_17 : decode cX4_trySecond 17 = .ok (.bipush 16, 2) := by decide +kernel
theorem dX4_trySecond_19 : decode cX4_trySecond 19 = .ok (.if_icmp .ge 58, 3) := by decide +kernel
theorem dX4_trySecond_22 : decode cX4_trySecond 22 = .ok (.aload_n 0, 1) := by decide +kernel
theorem dX4_trySecond_23 : decode cX4_trySecond 23 = .ok (.iload_n 1, 1) := by decide +kernel
theorem dX4_trySecond_24 : decode cX4_trySecond 24 = .ok (.iload 6, 2) := by decide +kernel
theorem dX4_trySecond_26 : decode cX4_trySecond 26 = .ok (.iload 7, 2) := by decide +kernel
theorem dX4_trySecond_28 : decode cX4_trySecond 28 = .ok (.iload 6, 2) := by decide +kernel
theorem dX4_trySecond_30 : decode cX4_trySecond 30 = .ok (.iload 4, 2) := by decide +kernel
theorem dX4_trySecond_32 : decode cX4_trySecond 32 = .ok (.if_icmp .ne 7, 3) := by decide +kernel
theorem dX4_trySecond_35 : decode cX4_trySecond 35 = .ok (.iconst 1, 1) := by decide +kernel
theorem dX4_trySecond_36 : decode cX4_trySecond 36 = .ok (.goto 4, 3) := by decide +kernel
theorem dX4_trySecond_39 : decode cX4_trySecond 39 = .ok (.iconst 0, 1) := by decide +kernel
theorem dX4_trySecond_40 : decode cX4_trySecond 40 = .ok (.invokevirtual 112, 3) := by decide +kernel
theorem dX4_trySecond_43 : decode cX4_trySecond 43 = .ok (.ifCond .eq 28, 3) := by decide +kernel
theorem dX4_trySecond_46 : decode cX4_trySecond 46 = .ok (.aload_n 0, 1) := by decide +kernel
theorem dX4_trySecond_47 : decode cX4_trySecond 47 = .ok (.iload_n 1, 1) := by decide +kernel
theorem dX4_trySecond_48 : decode cX4_trySecond 48 = .ok (.iload 6, 2) := by decide +kernel
theorem dX4_trySecond_50 : decode cX4_trySecond 50 = .ok (.iload 7, 2) := by decide +kernel
theorem dX4_trySecond_52 : decode cX4_trySecond 52 = .ok (.invokevirtual 116, 3) := by decide +kernel
theorem dX4_trySecond_55 : decode cX4_trySecond 55 = .ok (.aload_n 0, 1) := by decide +kernel
theorem dX4_trySecond_56 : decode cX4_trySecond 56 = .ok (.iconst 2, 1) := by decide +kernel
theorem dX4_trySecond_57 : decode cX4_trySecond 57 = .ok (.lload_n 2, 1) := by decide +kernel
theorem dX4_trySecond_58 : decode cX4_trySecond 58 = .ok (.aload_n 0, 1) := by decide +kernel
theorem dX4_trySecond_59 : decode cX4_trySecond 59 = .ok (.iload_n 1, 1) := by decide +kernel
theorem dX4_trySecond_60 : decode cX4_trySecond 60 = .ok (.invokevirtual 120, 3) := by decide +kernel
theorem dX4_trySecond_63 : decode cX4_trySecond 63 = .ok (.ladd, 1) := by decide +kernel
theorem dX4_trySecond_64 : decode cX4_trySecond 64 = .ok (.iload 4, 2) := by decide +kernel
theorem dX4_trySecond_66 : decode cX4_trySecond 66 = .ok (.iload 5, 2) := by decide +kernel
theorem dX4_trySecond_68 : decode cX4_trySecond 68 = .ok (.invokevirtual 124, 3) := by decide +kernel
theorem dX4_trySecond_71 : decode cX4_trySecond 71 = .ok (.iinc 7 1, 3) := by decide +kernel
theorem dX4_trySecond_74 : decode cX4_trySecond 74 = .ok (.goto (-59), 3) := by decide +kernel
theorem dX4_trySecond_77 : decode cX4_trySecond 77 = .ok (.iinc 6 1, 3) := by decide +kernel
theorem dX4_trySecond_80 : decode cX4_trySecond 80 = .ok (.goto (-77), 3) := by decide +kernel
theorem dX4_trySecond_83 : decode cX4_trySecond 83 = .ok (.return_, 1) := by decide +kernel
theorem dX4_planOne_0 : decode cX4_planOne 0 = .ok (.aload_n 0, 1) := by decide +kernel
theorem dX4_planOne_1 : decode cX4_planOne 1 = .ok (.getfield 61, 3) := by decide +kernel
theorem dX4_planOne_4 : decode cX4_planOne 4 = .ok (.aload_n 0, 1) := by decide +kernel
theorem dX4_planOne_5 : decode cX4_planOne 5 = .ok (.getfield 64, 3) := by decide +kernel
theorem dX4_planOne_8 : decode cX4_planOne 8 = .ok (.iadd, 1) := by decide +kernel
theorem dX4_planOne_9 : decode cX4_planOne 9 = .ok (.istore_n 1, 1) := by decide +kernel
theorem dX4_planOne_10 : decode cX4_planOne 10 = .ok (.aload_n 0, 1) := by decide +kernel
theorem dX4_planOne_11 : decode cX4_planOne 11 = .ok (.iconst 0, 1) := by decide +kernel
theorem dX4_planOne_12 : decode cX4_planOne 12 = .ok (.putfield 99, 3) := by decide +kernel
theorem dX4_planOne_15 : decode cX4_planOne 15 = .ok (.iconst 0, 1) := by decide +kernel
theorem dX4_planOne_16 : decode cX4_planOne 16 = .ok (.istore_n 2, 1) := by decide +kernel
theorem dX4_planOne_17 : decode cX4_planOne 17 = .ok (.iload_n 2, 1) := by decide +kernel
theorem dX4_planOne_18 : decode cX4_planOne 18 = .ok (.aload_n 0, 1) := by decide +kernel
theorem dX4_planOne_19 : decode cX4_planOne 19 = .ok (.getfield 58, 3) := by decide +kernel
theorem dX4_planOne_22 : decode cX4_planOne 22 = .ok (.if_icmp .ge 89, 3) := by decide +kernel
theorem dX4_planOne_25 : decode cX4_planOne 25 = .ok (.iconst 0, 1) := by decide +kernel
theorem dX4_planOne_26 : decode cX4_planOne 26 = .ok (.istore_n 3, 1) := by decide +kernel
theorem dX4_planOne_27 : decode cX4_planOne 27 = .ok (.iload_n 3, 1) := by decide +kernel
theorem dX4_planOne_28 : decode cX4_planOne 28 = .ok (.bipush 16, 2) := by decide +kernel
theorem dX4_planOne_30 : decode cX4_planOne 30 = .ok (.if_icmp .ge 75, 3) := by decide +kernel
theorem dX4_planOne_33 : decode cX4_planOne 33 = .ok (.aload_n 0, 1) := by decide +kernel
theorem dX4_planOne_34 : decode cX4_planOne 34 = .ok (.iload_n 1, 1) := by decide +kernel
theorem dX4_planOne_35 : decode cX4_planOne 35 = .ok (.iload_n 2, 1) := by decide +kernel
theorem dX4_planOne_36 : decode cX4_planOne 36 = .ok (.iload_n 3, 1) := by decide +kernel
theorem dX4_planOne_37 : decode cX4_planOne 37 = .ok (.iconst 0, 1) := by decide +kernel
theorem dX4_planOne_38 : decode cX4_planOne 38 = .ok (.invokevirtual 112, 3) := by decide +kernel
theorem dX4_planOne_41 : decode cX4_planOne 41 = .ok (.ifCond .ne 6, 3) := by decide +kernel
theorem dX4_planOne_44 : decode cX4_planOne 44 = .ok (.goto 55, 3) := by decide +kernel
theorem dX4_planOne_47 : decode cX4_planOne 47 = .ok (.aload_n 0, 1) := by decide +kernel
theorem dX4_planOne_48 : decode cX4_planOne 48 = .ok (.iload_n 1, 1) := by decide +kernel
theorem dX4_planOne_49 : decode cX4_planOne 49 = .ok (.iload_n 2, 1) := by decide +kernel
theorem dX4_planOne_50 : decode cX4_planOne 50 = .ok (.iload_n 3, 1) := by decide +kernel
theorem dX4_planOne_51 : decode cX4_planOne 51 = .ok (.invokevirtual 116, 3) := by decide +kernel
theorem dX4_planOne_54 : decode cX4_planOne 54 = .ok (.aload_n 0, 1) := by decide +kernel
theorem dX4_planOne_55 : decode cX4_planOne 55 = .ok (.iload_n 1, 1) := by decide +kernel
theorem dX4_planOne_56 : decode cX4_planOne 56 = .ok (.invokevirtual 120, 3) := by decide +kernel
theorem dX4_planOne_59 : decode cX4_planOne 59 = .ok (.lstore 4, 2) := by decide +kernel
theorem dX4_planOne_61 : decode cX4_planOne 61 = .ok (.aload_n 0, 1) := by decide +kernel
theorem dX4_planOne_62 : decode cX4_planOne 62 = .ok (.iconst 1, 1) := by decide +kernel
theorem dX4_planOne_63 : decode cX4_planOne 63 = .ok (.lload 4, 2) := by decide +kernel
theorem dX4_planOne_65 : decode cX4_planOne 65 = .ok (.iload_n 2, 1) := by decide +kernel
theorem dX4_planOne_66 : decode cX4_planOne 66 = .ok (.iload_n 3, 1) := by decide +kernel
theorem dX4_planOne_67 : decode cX4_planOne 67 = .ok (.invokevirtual 124, 3) := by decide +kernel
theorem dX4_planOne_70 : decode cX4_planOne 70 = .ok (.aload_n 0, 1) := by decide +kernel
theorem dX4_planOne_71 : decode cX4_planOne 71 = .ok (.getfield 13, 3) := by decide +kernel
theorem dX4_planOne_74 : decode cX4_planOne 74 = .ok (.iconst 2, 1) := by decide +kernel
theorem dX4_planOne_75 : decode cX4_planOne 75 = .ok (.if_icmp .ne 24, 3) := by decide +kernel
theorem dX4_planOne_78 : decode cX4_planOne 78 = .ok (.iload_n 1, 1) := by decide +kernel
theorem dX4_planOne_79 : decode cX4_planOne 79 = .ok (.iconst 1, 1) := by decide +kernel
theorem dX4_planOne_80 : decode cX4_planOne 80 = .ok (.iadd, 1) := by decide +kernel
theorem dX4_planOne_81 : decode cX4_planOne 81 = .ok (.aload_n 0, 1) := by decide +kernel
theorem dX4_planOne_82 : decode cX4_planOne 82 = .ok (.getfield 52, 3) := by decide +kernel
theorem dX4_planOne_85 : decode cX4_planOne 85 = .ok (.if_icmp .ge 14, 3) := by decide +kernel
theorem dX4_planOne_88 : decode cX4_planOne 88 = .ok (.aload_n 0, 1) := by decide +kernel
theorem dX4_planOne_89 : decode cX4_planOne 89 = .ok (.iload_n 1, 1) := by decide +kernel
theorem dX4_planOne_90 : decode cX4_planOne 90 = .ok (.iconst 1, 1) := by decide +kernel
theorem dX4_planOne_91 : decode cX4_planOne 91 = .ok (.iadd, 1) := by decide +kernel
theorem dX4_planOne_92 : decode cX4_planOne 92 = .ok (.lload 4, 2) := by decide +kernel
theorem dX4_planOne_94 : decode cX4_planOne 94 = .ok (.iload_n 2, 1) := by decide +kernel
theorem dX4_planOne_95 : decode cX4_planOne 95 = .ok (.iload_n 3, 1) := by decide +kernel
theorem dX4_planOne_96 : decode cX4_planOne 96 = .ok (.invokevirtual 128, 3) := by decide +kernel
theorem dX4_planOne_99 : decode cX4_planOne 99 = .ok (.iinc 3 1, 3) := by decide +kernel
theorem dX4_planOne_102 : decode cX4_planOne 102 = .ok (.goto (-75), 3) := by decide +kernel
theorem dX4_planOne_105 : decode cX4_planOne 105 = .ok (.iinc 2 1, 3) := by decide +kernel
theorem dX4_planOne_108 : decode cX4_planOne 108 = .ok (.goto (-91), 3) := by decide +kernel
theorem dX4_planOne_111 : decode cX4_planOne 111 = .ok (.aload_n 0, 1) := by decide +kernel
theorem dX4_planOne_112 : decode cX4_planOne 112 = .ok (.getfield 99, 3) := by decide +kernel
theorem dX4_planOne_115 : decode cX4_planOne 115 = .ok (.ifCond .ne 5, 3) := by decide +kernel
theorem dX4_planOne_118 : decode cX4_planOne 118 = .ok (.iconst 0, 1) := by decide +kernel
theorem dX4_planOne_119 : decode cX4_planOne 119 = .ok (.ireturn, 1) := by decide +kernel
theorem dX4_planOne_120 : decode cX4_planOne 120 = .ok (.aload_n 0, 1) := by decide +kernel
theorem dX4_planOne_121 : decode cX4_planOne 121 = .ok (.iload_n 1, 1) := by decide +kernel
theorem dX4_planOne_122 : decode cX4_planOne 122 = .ok (.aload_n 0, 1) := by decide +kernel
theorem dX4_planOne_123 : decode cX4_planOne 123 = .ok (.getfield 106, 3) := by decide +kernel
theorem dX4_planOne_126 : decode cX4_planOne 126 = .ok (.aload_n 0, 1) := by decide +kernel
theorem dX4_planOne_127 : decode cX4_planOne 127 = .ok (.getfield 109, 3) := by decide +kernel
theorem dX4_planOne_130 : decode cX4_planOne 130 = .ok (.invokevirtual 116, 3) := by decide +kernel
theorem dX4_planOne_133 : decode cX4_planOne 133 = .ok (.aload_n 0, 1) := by decide +kernel
theorem dX4_planOne_134 : decode cX4_planOne 134 = .ok (.dup, 1) := by decide +kernel
theorem dX4_planOne_135 : decode cX4_planOne 135 = .ok (.getfield 64, 3) := by decide +kernel
theorem dX4_planOne_138 : decode cX4_planOne 138 = .ok (.iconst 1, 1) := by decide +kernel
theorem dX4_planOne_139 : decode cX4_planOne 139 = .ok (.iadd, 1) := by decide +kernel
theorem dX4_planOne_140 : decode cX4_planOne 140 = .ok (.putfield 64, 3) := by decide +kernel
theorem dX4_planOne_143 : decode cX4_planOne 143 = .ok (.iconst 1, 1) := by decide +kernel
theorem dX4_planOne_144 : decode cX4_planOne 144 = .ok (.ireturn, 1) := by decide +kernel
theorem dX4_run_0 : decode cX4_run 0 = .ok (.aload_n 0, 1) := by decide +kernel
theorem dX4_run_1 : decode cX4_run 1 = .ok (.iconst 0, 1) := by decide +kernel
theorem dX4_run_2 : decode cX4_run 2 = .ok (.putfield 55, 3) := by decide +kernel
theorem dX4_run_5 : decode cX4_run 5 = .ok (.aload_n 0, 1) := by decide +kernel
theorem dX4_run_6 : decode cX4_run 6 = .ok (.dup, 1) := by decide +kernel
theorem dX4_run_7 : decode cX4_run 7 = .ok (.getfield 131, 3) := by decide +kernel
theorem dX4_run_10 : decode cX4_run 10 = .ok (.iconst 1, 1) := by decide +kernel
theorem dX4_run_11 : decode cX4_run 11 = .ok (.iadd, 1) := by decide +kernel
theorem dX4_run_12 : decode cX4_run 12 = .ok (.putfield 131, 3) := by decide +kernel
theorem dX4_run_15 : decode cX4_run 15 = .ok (.aload_n 0, 1) := by decide +kernel
theorem dX4_run_16 : decode cX4_run 16 = .ok (.iconst 0, 1) := by decide +kernel
theorem dX4_run_17 : decode cX4_run 17 = .ok (.putfield 64, 3) := by decide +kernel
theorem dX4_run_20 : decode cX4_run 20 = .ok (.iconst 1, 1) := by decide +kernel
theorem dX4_run_21 : decode cX4_run 21 = .ok (.istore_n 1, 1) := by decide +kernel
theorem dX4_run_22 : decode cX4_run 22 = .ok (.iload_n 1, 1) := by decide +kernel
theorem dX4_run_23 : decode cX4_run 23 = .ok (.ifCond .eq 35, 3) := by decide +kernel
theorem dX4_run_26 : decode cX4_run 26 = .ok (.aload_n 0, 1) := by decide +kernel
theorem dX4_run_27 : decode cX4_run 27 = .ok (.getfield 61, 3) := by decide +kernel
theorem dX4_run_30 : decode cX4_run 30 = .ok (.aload_n 0, 1) := by decide +kernel
theorem dX4_run_31 : decode cX4_run 31 = .ok (.getfield 64, 3) := by decide +kernel
theorem dX4_run_34 : decode cX4_run 34 = .ok (.iadd, 1) := by decide +kernel
theorem dX4_run_35 : decode cX4_run 35 = .ok (.aload_n 0, 1) := by decide +kernel
theorem dX4_run_36 : decode cX4_run 36 = .ok (.getfield 52, 3) := by decide +kernel
theorem dX4_run_39 : decode cX4_run 39 = .ok (.if_icmp .ge 14, 3) := by decide +kernel
theorem dX4_run_42 : decode cX4_run 42 = .ok (.aload_n 0, 1) := by decide +kernel
theorem dX4_run_43 : decode cX4_run 43 = .ok (.invokevirtual 134, 3) := by decide +kernel
theorem dX4_run_46 : decode cX4_run 46 = .ok (.ifCond .eq 7, 3) := by decide +kernel
theorem dX4_run_49 : decode cX4_run 49 = .ok (.iconst 1, 1) := by decide +kernel
theorem dX4_run_50 : decode cX4_run 50 = .ok (.goto 4, 3) := by decide +kernel
theorem dX4_run_53 : decode cX4_run 53 = .ok (.iconst 0, 1) := by decide +kernel
theorem dX4_run_54 : decode cX4_run 54 = .ok (.istore_n 1, 1) := by decide +kernel
theorem dX4_run_55 : decode cX4_run 55 = .ok (.goto (-33), 3) := by decide +kernel
theorem dX4_run_58 : decode cX4_run 58 = .ok (.aload_n 0, 1) := by decide +kernel
theorem dX4_run_59 : decode cX4_run 59 = .ok (.getfield 64, 3) := by decide +kernel
theorem dX4_run_62 : decode cX4_run 62 = .ok (.ireturn, 1) := by decide +kernel
theorem dX4_build_0 : decode cX4_build 0 = .ok (.aload_n 0, 1) := by decide +kernel
theorem dX4_build_1 : decode cX4_build 1 = .ok (.iconst 0, 1) := by decide +kernel
theorem dX4_build_2 : decode cX4_build 2 = .ok (.putfield 55, 3) := by decide +kernel
theorem dX4_build_5 : decode cX4_build 5 = .ok (.iload_n 1, 1) := by decide +kernel
theorem dX4_build_6 : decode cX4_build 6 = .ok (.iconst 1, 1) := by decide +kernel
theorem dX4_build_7 : decode cX4_build 7 = .ok (.if_icmp .ge 6, 3) := by decide +kernel
theorem dX4_build_10 : decode cX4_build 10 = .ok (.bipush (-2), 2) := by decide +kernel
theorem dX4_build_12 : decode cX4_build 12 = .ok (.ireturn, 1) := by decide +kernel
theorem dX4_build_13 : decode cX4_build 13 = .ok (.iload_n 1, 1) := by decide +kernel
theorem dX4_build_14 : decode cX4_build 14 = .ok (.aload_n 0, 1) := by decide +kernel
theorem dX4_build_15 : decode cX4_build 15 = .ok (.getfield 64, 3) := by decide +kernel
theorem dX4_build_18 : decode cX4_build 18 = .ok (.if_icmp .le 6, 3) := by decide +kernel
theorem dX4_build_21 : decode cX4_build 21 = .ok (.bipush (-3), 2) := by decide +kernel
theorem dX4_build_23 : decode cX4_build 23 = .ok (.ireturn, 1) := by decide +kernel
theorem dX4_build_24 : decode cX4_build 24 = .ok (.aload_n 0, 1) := by decide +kernel
theorem dX4_build_25 : decode cX4_build 25 = .ok (.dup, 1) := by decide +kernel
theorem dX4_build_26 : decode cX4_build 26 = .ok (.getfield 61, 3) := by decide +kernel
theorem dX4_build_29 : decode cX4_build 29 = .ok (.iload_n 1, 1) := by decide +kernel
theorem dX4_build_30 : decode cX4_build 30 = .ok (.iadd, 1) := by decide +kernel
theorem dX4_build_31 : decode cX4_build 31 = .ok (.putfield 61, 3) := by decide +kernel
theorem dX4_build_34 : decode cX4_build 34 = .ok (.aload_n 0, 1) := by decide +kernel
theorem dX4_build_35 : decode cX4_build 35 = .ok (.dup, 1) := by decide +kernel
theorem dX4_build_36 : decode cX4_build 36 = .ok (.getfield 64, 3) := by decide +kernel
theorem dX4_build_39 : decode cX4_build 39 = .ok (.iload_n 1, 1) := by decide +kernel
theorem dX4_build_40 : decode cX4_build 40 = .ok (.isub, 1) := by decide +kernel
theorem dX4_build_41 : decode cX4_build 41 = .ok (.putfield 64, 3) := by decide +kernel
theorem dX4_build_44 : decode cX4_build 44 = .ok (.aload_n 0, 1) := by decide +kernel
theorem dX4_build_45 : decode cX4_build 45 = .ok (.getfield 61, 3) := by decide +kernel
theorem dX4_build_48 : decode cX4_build 48 = .ok (.ireturn, 1) := by decide +kernel
theorem dX4_survey_0 : decode cX4_survey 0 = .ok (.aload_n 0, 1) := by decide +kernel
theorem dX4_survey_1 : decode cX4_survey 1 = .ok (.aload_n 0, 1) := by decide +kernel
theorem dX4_survey_2 : decode cX4_survey 2 = .ok (.iload_n 1, 1) := by decide +kernel
theorem dX4_survey_3 : decode cX4_survey 3 = .ok (.invokevirtual 79, 3) := by decide +kernel
theorem dX4_survey_6 : decode cX4_survey 6 = .ok (.ifCond .eq 7, 3) := by decide +kernel
theorem dX4_survey_9 : decode cX4_survey 9 = .ok (.iconst 0, 1) := by decide +kernel
theorem dX4_survey_10 : decode cX4_survey 10 = .ok (.goto 4, 3) := by decide +kernel
theorem dX4_survey_13 : decode cX4_survey 13 = .ok (.iconst 1, 1) := by decide +kernel
theorem dX4_survey_14 : decode cX4_survey 14 = .ok (.putfield 55, 3) := by decide +kernel
theorem dX4_survey_17 : decode cX4_survey 17 = .ok (.aload_n 0, 1) := by decide +kernel
theorem dX4_survey_18 : decode cX4_survey 18 = .ok (.getfield 55, 3) := by decide +kernel
theorem dX4_survey_21 : decode cX4_survey 21 = .ok (.ifCond .le 5, 3) := by decide +kernel
theorem dX4_survey_24 : decode cX4_survey 24 = .ok (.iconst 0, 1) := by decide +kernel
theorem dX4_survey_25 : decode cX4_survey 25 = .ok (.ireturn, 1) := by decide +kernel
theorem dX4_survey_26 : decode cX4_survey 26 = .ok (.iload_n 2, 1) := by decide +kernel
theorem dX4_survey_27 : decode cX4_survey 27 = .ok (.i2l, 1) := by decide +kernel
theorem dX4_survey_28 : decode cX4_survey 28 = .ok (.ldc2_w 138, 3) := by decide +kernel
theorem dX4_survey_31 : decode cX4_survey 31 = .ok (.ldc2_w 140, 3) := by decide +kernel
theorem dX4_survey_34 : decode cX4_survey 34 = .ok (.invokestatic 69, 3) := by decide +kernel
theorem dX4_survey_37 : decode cX4_survey 37 = .ok (.ifCond .eq 17, 3) := by decide +kernel
theorem dX4_survey_40 : decode cX4_survey 40 = .ok (.iload_n 3, 1) := by decide +kernel
theorem dX4_survey_41 : decode cX4_survey 41 = .ok (.i2l, 1) := by decide +kernel
theorem dX4_survey_42 : decode cX4_survey 42 = .ok (.ldc2_w 138, 3) := by decide +kernel
theorem dX4_survey_45 : decode cX4_survey 45 = .ok (.ldc2_w 140, 3) := by decide +kernel
theorem dX4_survey_48 : decode cX4_survey 48 = .ok (.invokestatic 69, 3) := by decide +kernel
theorem dX4_survey_51 : decode cX4_survey 51 = .ok (.ifCond .ne 6, 3) := by decide +kernel
theorem dX4_survey_54 : decode cX4_survey 54 = .ok (.bipush (-2), 2) := by decide +kernel
theorem dX4_survey_56 : decode cX4_survey 56 = .ok (.ireturn, 1) := by decide +kernel
theorem dX4_survey_57 : decode cX4_survey 57 = .ok (.iload_n 1, 1) := by decide +kernel
theorem dX4_survey_58 : decode cX4_survey 58 = .ok (.aload_n 0, 1) := by decide +kernel
theorem dX4_survey_59 : decode cX4_survey 59 = .ok (.getfield 61, 3) := by decide +kernel
theorem dX4_survey_62 : decode cX4_survey 62 = .ok (.if_icmp .lt 6, 3) := by decide +kernel
theorem dX4_survey_65 : decode cX4_survey 65 = .ok (.bipush (-3), 2) := by decide +kernel
theorem dX4_survey_67 : decode cX4_survey 67 = .ok (.ireturn, 1) := by decide +kernel
theorem dX4_survey_68 : decode cX4_survey 68 = .ok (.iload_n 1, 1) := by decide +kernel
theorem dX4_survey_69 : decode cX4_survey 69 = .ok (.istore 4, 2) := by decide +kernel
theorem dX4_survey_71 : decode cX4_survey 71 = .ok (.iload 4, 2) := by decide +kernel
theorem dX4_survey_73 : decode cX4_survey 73 = .ok (.aload_n 0, 1) := by decide +kernel
theorem dX4_survey_74 : decode cX4_survey 74 = .ok (.getfield 61, 3) := by decide +kernel
theorem dX4_survey_77 : decode cX4_survey 77 = .ok (.if_icmp .ge 33, 3) := by decide +kernel
theorem dX4_survey_80 : decode cX4_survey 80 = .ok (.aload_n 0, 1) := by decide +kernel
theorem dX4_survey_81 : decode cX4_survey 81 = .ok (.getfield 39, 3) := by decide +kernel
theorem dX4_survey_84 : decode cX4_survey 84 = .ok (.iload 4, 2) := by decide +kernel
theorem dX4_survey_86 : decode cX4_survey 86 = .ok (.dup2, 1) := by decide +kernel
theorem dX4_survey_87 : decode cX4_survey 87 = .ok (.laload, 1) := by decide +kernel
theorem dX4_survey_88 : decode cX4_survey 88 = .ok (.iload_n 2, 1) := by decide +kernel
theorem dX4_survey_89 : decode cX4_survey 89 = .ok (.i2l, 1) := by decide +kernel
theorem dX4_survey_90 : decode cX4_survey 90 = .ok (.ladd, 1) := by decide +kernel
theorem dX4_survey_91 : decode cX4_survey 91 = .ok (.lastore, 1) := by decide +kernel
theorem dX4_survey_92 : decode cX4_survey 92 = .ok (.aload_n 0, 1) := by decide +kernel
theorem dX4_survey_93 : decode cX4_survey 93 = .ok (.getfield 43, 3) := by decide +kernel
theorem dX4_survey_96 : decode cX4_survey 96 = .ok (.iload 4, 2) := by decide +kernel
theorem dX4_survey_98 : decode cX4_survey 98 = .ok (.dup2, 1) := by decide +kernel
theorem dX4_survey_99 : decode cX4_survey 99 = .ok (.laload, 1) := by decide +kernel
theorem dX4_survey_100 : decode cX4_survey 100 = .ok (.iload_n 3, 1) := by decide +kernel
theorem dX4_survey_101 : decode cX4_survey 101 = .ok (.i2l, 1) := by decide +kernel
theorem dX4_survey_102 : decode cX4_survey 102 = .ok (.ladd, 1) := by decide +kernel
theorem dX4_survey_103 : decode cX4_survey 103 = .ok (.lastore, 1) := by decide +kernel
theorem dX4_survey_104 : decode cX4_survey 104 = .ok (.iinc 4 1, 3) := by decide +kernel
theorem dX4_survey_107 : decode cX4_survey 107 = .ok (.goto (-36), 3) := by decide +kernel
theorem dX4_survey_110 : decode cX4_survey 110 = .ok (.aload_n 0, 1) := by decide +kernel
theorem dX4_survey_111 : decode cX4_survey 111 = .ok (.iconst 0, 1) := by decide +kernel
theorem dX4_survey_112 : decode cX4_survey 112 = .ok (.putfield 64, 3) := by decide +kernel
theorem dX4_survey_115 : decode cX4_survey 115 = .ok (.aload_n 0, 1) := by decide +kernel
theorem dX4_survey_116 : decode cX4_survey 116 = .ok (.getfield 61, 3) := by decide +kernel
theorem dX4_survey_119 : decode cX4_survey 119 = .ok (.iload_n 1, 1) := by decide +kernel
theorem dX4_survey_120 : decode cX4_survey 120 = .ok (.isub, 1) := by decide +kernel
theorem dX4_survey_121 : decode cX4_survey 121 = .ok (.ireturn, 1) := by decide +kernel
theorem dX4_replace_0 : decode cX4_replace 0 = .ok (.aload_n 0, 1) := by decide +kernel
theorem dX4_replace_1 : decode cX4_replace 1 = .ok (.aload_n 0, 1) := by decide +kernel
theorem dX4_replace_2 : decode cX4_replace 2 = .ok (.iload_n 1, 1) := by decide +kernel
theorem dX4_replace_3 : decode cX4_replace 3 = .ok (.invokevirtual 79, 3) := by decide +kernel
theorem dX4_replace_6 : decode cX4_replace 6 = .ok (.ifCond .eq 7, 3) := by decide +kernel
theorem dX4_replace_9 : decode cX4_replace 9 = .ok (.iconst 0, 1) := by decide +kernel
theorem dX4_replace_10 : decode cX4_replace 10 = .ok (.goto 4, 3) := by decide +kernel
theorem dX4_replace_13 : decode cX4_replace 13 = .ok (.iconst 1, 1) := by decide +kernel
theorem dX4_replace_14 : decode cX4_replace 14 = .ok (.putfield 55, 3) := by decide +kernel
theorem dX4_replace_17 : decode cX4_replace 17 = .ok (.aload_n 0, 1) := by decide +kernel
theorem dX4_replace_18 : decode cX4_replace 18 = .ok (.getfield 55, 3) := by decide +kernel
theorem dX4_replace_21 : decode cX4_replace 21 = .ok (.ifCond .le 5, 3) := by decide +kernel
theorem dX4_replace_24 : decode cX4_replace 24 = .ok (.iconst 0, 1) := by decide +kernel
theorem dX4_replace_25 : decode cX4_replace 25 = .ok (.ireturn, 1) := by decide +kernel
theorem dX4_replace_26 : decode cX4_replace 26 = .ok (.aload_n 0, 1) := by decide +kernel
theorem dX4_replace_27 : decode cX4_replace 27 = .ok (.iload_n 2, 1) := by decide +kernel
theorem dX4_replace_28 : decode cX4_replace 28 = .ok (.invokevirtual 75, 3) := by decide +kernel
theorem dX4_replace_31 : decode cX4_replace 31 = .ok (.ifCond .ne 5, 3) := by decide +kernel
theorem dX4_replace_34 : decode cX4_replace 34 = .ok (.iconst (-1), 1) := by decide +kernel
theorem dX4_replace_35 : decode cX4_replace 35 = .ok (.ireturn, 1) := by decide +kernel
theorem dX4_replace_36 : decode cX4_replace 36 = .ok (.iload_n 1, 1) := by decide +kernel
theorem dX4_replace_37 : decode cX4_replace 37 = .ok (.aload_n 0, 1) := by decide +kernel
theorem dX4_replace_38 : decode cX4_replace 38 = .ok (.getfield 61, 3) := by decide +kernel
theorem dX4_replace_41 : decode cX4_replace 41 = .ok (.if_icmp .lt 41, 3) := by decide +kernel
theorem dX4_replace_44 : decode cX4_replace 44 = .ok (.iload_n 1, 1) := by decide +kernel
theorem dX4_replace_45 : decode cX4_replace 45 = .ok (.aload_n 0, 1) := by decide +kernel
theorem dX4_replace_46 : decode cX4_replace 46 = .ok (.getfield 61, 3) := by decide +kernel
theorem dX4_replace_49 : decode cX4_replace 49 = .ok (.aload_n 0, 1) := by decide +kernel
theorem dX4_replace_50 : decode cX4_replace 50 = .ok (.getfield 64, 3) := by decide +kernel
theorem dX4_replace_53 : decode cX4_replace 53 = .ok (.iadd, 1) := by decide +kernel
theorem dX4_replace_54 : decode cX4_replace 54 = .ok (.if_icmp .ge 28, 3) := by decide +kernel
theorem dX4_replace_57 : decode cX4_replace 57 = .ok (.aload_n 0, 1) := by decide +kernel
theorem dX4_replace_58 : decode cX4_replace 58 = .ok (.getfield 33, 3) := by decide +kernel
theorem dX4_replace_61 : decode cX4_replace 61 = .ok (.iload_n 1, 1) := by decide +kernel
theorem dX4_replace_62 : decode cX4_replace 62 = .ok (.iaload, 1) := by decide +kernel
theorem dX4_replace_63 : decode cX4_replace 63 = .ok (.iload_n 2, 1) := by decide +kernel
theorem dX4_replace_64 : decode cX4_replace 64 = .ok (.if_icmp .eq 18, 3) := by decide +kernel
theorem dX4_replace_67 : decode cX4_replace 67 = .ok (.aload_n 0, 1) := by decide +kernel
theorem dX4_replace_68 : decode cX4_replace 68 = .ok (.getfield 24, 3) := by decide +kernel
theorem dX4_replace_71 : decode cX4_replace 71 = .ok (.iload_n 2, 1) := by decide +kernel
theorem dX4_replace_72 : decode cX4_replace 72 = .ok (.iaload, 1) := by decide +kernel
theorem dX4_replace_73 : decode cX4_replace 73 = .ok (.aload_n 0, 1) := by decide +kernel
theorem dX4_replace_74 : decode cX4_replace 74 = .ok (.iload_n 2, 1) := by decide +kernel
theorem dX4_replace_75 : decode cX4_replace 75 = .ok (.invokevirtual 96, 3) := by decide +kernel
theorem dX4_replace_78 : decode cX4_replace 78 = .ok (.isub, 1) := by decide +kernel
theorem dX4_replace_79 : decode cX4_replace 79 = .ok (.ifCond .gt 6, 3) := by decide +kernel
theorem dX4_replace_82 : decode cX4_replace 82 = .ok (.bipush (-3), 2) := by decide +kernel
theorem dX4_replace_84 : decode cX4_replace 84 = .ok (.ireturn, 1) := by decide +kernel
theorem dX4_replace_85 : decode cX4_replace 85 = .ok (.aload_n 0, 1) := by decide +kernel
theorem dX4_replace_86 : decode cX4_replace 86 = .ok (.getfield 33, 3) := by decide +kernel
theorem dX4_replace_89 : decode cX4_replace 89 = .ok (.iload_n 1, 1) := by decide +kernel
theorem dX4_replace_90 : decode cX4_replace 90 = .ok (.iload_n 2, 1) := by decide +kernel
theorem dX4_replace_91 : decode cX4_replace 91 = .ok (.iastore, 1) := by decide +kernel
theorem dX4_replace_92 : decode cX4_replace 92 = .ok (.iload_n 1, 1) := by decide +kernel
theorem dX4_replace_93 : decode cX4_replace 93 = .ok (.istore_n 3, 1) := by decide +kernel
theorem dX4_replace_94 : decode cX4_replace 94 = .ok (.iload_n 3, 1) := by decide +kernel
theorem dX4_replace_95 : decode cX4_replace 95 = .ok (.aload_n 0, 1) := by decide +kernel
theorem dX4_replace_96 : decode cX4_replace 96 = .ok (.getfield 61, 3) := by decide +kernel
theorem dX4_replace_99 : decode cX4_replace 99 = .ok (.aload_n 0, 1) := by decide +kernel
theorem dX4_replace_100 : decode cX4_replace 100 = .ok (.getfield 64, 3) := by decide +kernel
theorem dX4_replace_103 : decode cX4_replace 103 = .ok (.iadd, 1) := by decide +kernel
theorem dX4_replace_104 : decode cX4_replace 104 = .ok (.if_icmp .ge 26, 3) := by decide +kernel
theorem dX4_replace_107 : decode cX4_replace 107 = .ok (.aload_n 0, 1) := by decide +kernel
theorem dX4_replace_108 : decode cX4_replace 108 = .ok (.iload_n 3, 1) := by decide +kernel
theorem dX4_replace_109 : decode cX4_replace 109 = .ok (.aload_n 0, 1) := by decide +kernel
theorem dX4_replace_110 : decode cX4_replace 110 = .ok (.getfield 33, 3) := by decide +kernel
theorem dX4_replace_113 : decode cX4_replace 113 = .ok (.iload_n 3, 1) := by decide +kernel
theorem dX4_replace_114 : decode cX4_replace 114 = .ok (.iaload, 1) := by decide +kernel
theorem dX4_replace_115 : decode cX4_replace 115 = .ok (.aload_n 0, 1) := by decide +kernel
theorem dX4_replace_116 : decode cX4_replace 116 = .ok (.getfield 36, 3) := by decide +kernel
theorem dX4_replace_119 : decode cX4_replace 119 = .ok (.iload_n 3, 1) := by decide +kernel
theorem dX4_replace_120 : decode cX4_replace 120 = .ok (.iaload, 1) := by decide +kernel
theorem dX4_replace_121 : decode cX4_replace 121 = .ok (.invokevirtual 116, 3) := by decide +kernel
theorem dX4_replace_124 : decode cX4_replace 124 = .ok (.iinc 3 1, 3) := by decide +kernel
theorem dX4_replace_127 : decode cX4_replace 127 = .ok (.goto (-33), 3) := by decide +kernel
theorem dX4_replace_130 : decode cX4_replace 130 = .ok (.iconst 1, 1) := by decide +kernel
theorem dX4_replace_131 : decode cX4_replace 131 = .ok (.ireturn, 1) := by decide +kernel
theorem dX4_kindOf_0 : decode cX4_kindOf 0 = .ok (.aload_n 0, 1) := by decide +kernel
theorem dX4_kindOf_1 : decode cX4_kindOf 1 = .ok (.iconst 0, 1) := by decide +kernel
theorem dX4_kindOf_2 : decode cX4_kindOf 2 = .ok (.putfield 55, 3) := by decide +kernel
theorem dX4_kindOf_5 : decode cX4_kindOf 5 = .ok (.aload_n 0, 1) := by decide +kernel
theorem dX4_kindOf_6 : decode cX4_kindOf 6 = .ok (.iload_n 1, 1) := by decide +kernel
theorem dX4_kindOf_7 : decode cX4_kindOf 7 = .ok (.invokevirtual 142, 3) := by decide +kernel
theorem dX4_kindOf_10 : decode cX4_kindOf 10 = .ok (.ifCond .eq 12, 3) := by decide +kernel
theorem dX4_kindOf_13 : decode cX4_kindOf 13 = .ok (.aload_n 0, 1) := by decide +kernel
theorem dX4_kindOf_14 : decode cX4_kindOf 14 = .ok (.getfield 33, 3) := by decide +kernel
theorem dX4_kindOf_17 : decode cX4_kindOf 17 = .ok (.iload_n 1, 1) := by decide +kernel
theorem dX4_kindOf_18 : decode cX4_kindOf 18 = .ok (.iaload, 1) := by decide +kernel
theorem dX4_kindOf_19 : decode cX4_kindOf 19 = .ok (.goto 4, 3) := by decide +kernel
theorem dX4_kindOf_22 : decode cX4_kindOf 22 = .ok (.iconst (-1), 1) := by decide +kernel
theorem dX4_kindOf_23 : decode cX4_kindOf 23 = .ok (.ireturn, 1) := by decide +kernel
theorem dX4_turnOf_0 : decode cX4_turnOf 0 = .ok (.aload_n 0, 1) := by decide +kernel
theorem dX4_turnOf_1 : decode cX4_turnOf 1 = .ok (.iconst 0, 1) := by decide +kernel
theorem dX4_turnOf_2 : decode cX4_turnOf 2 = .ok (.putfield 55, 3) := by decide +kernel
theorem dX4_turnOf_5 : decode cX4_turnOf 5 = .ok (.aload_n 0, 1) := by decide +kernel
theorem dX4_turnOf_6 : decode cX4_turnOf 6 = .ok (.iload_n 1, 1) := by decide +kernel
theorem dX4_turnOf_7 : decode cX4_turnOf 7 = .ok (.invokevirtual 142, 3) := by decide +kernel
theorem dX4_turnOf_10 : decode cX4_turnOf 10 = .ok (.ifCond .eq 12, 3) := by decide +kernel
theorem dX4_turnOf_13 : decode cX4_turnOf 13 = .ok (.aload_n 0, 1) := by decide +kernel
theorem dX4_turnOf_14 : decode cX4_turnOf 14 = .ok (.getfield 36, 3) := by decide +kernel
theorem dX4_turnOf_17 : decode cX4_turnOf 17 = .ok (.iload_n 1, 1) := by decide +kernel
theorem dX4_turnOf_18 : decode cX4_turnOf 18 = .ok (.iaload, 1) := by decide +kernel
theorem dX4_turnOf_19 : decode cX4_turnOf 19 = .ok (.goto 4, 3) := by decide +kernel
theorem dX4_turnOf_22 : decode cX4_turnOf 22 = .ok (.iconst (-1), 1) := by decide +kernel
theorem dX4_turnOf_23 : decode cX4_turnOf 23 = .ok (.ireturn, 1) := by decide +kernel
theorem dX4_state_0 : decode cX4_state 0 = .ok (.aload_n 0, 1) := by decide +kernel
theorem dX4_state_1 : decode cX4_state 1 = .ok (.iconst 0, 1) := by decide +kernel
theorem dX4_state_2 : decode cX4_state 2 = .ok (.putfield 55, 3) := by decide +kernel
theorem dX4_state_5 : decode cX4_state 5 = .ok (.aload_n 0, 1) := by decide +kernel
theorem dX4_state_6 : decode cX4_state 6 = .ok (.iload_n 1, 1) := by decide +kernel
theorem dX4_state_7 : decode cX4_state 7 = .ok (.invokevirtual 79, 3) := by decide +kernel
theorem dX4_state_10 : decode cX4_state 10 = .ok (.ifCond .ne 7, 3) := by decide +kernel
theorem dX4_state_13 : decode cX4_state 13 = .ok (.iconst (-1), 1) := by decide +kernel
theorem dX4_state_14 : decode cX4_state 14 = .ok (.goto 33, 3) := by decide +kernel
theorem dX4_state_17 : decode cX4_state 17 = .ok (.iload_n 1, 1) := by decide +kernel
theorem dX4_state_18 : decode cX4_state 18 = .ok (.aload_n 0, 1) := by decide +kernel
theorem dX4_state_19 : decode cX4_state 19 = .ok (.getfield 61, 3) := by decide +kernel
theorem dX4_state_22 : decode cX4_state 22 = .ok (.if_icmp .ge 7, 3) := by decide +kernel
theorem dX4_state_25 : decode cX4_state 25 = .ok (.iconst 2, 1) := by decide +kernel
theorem dX4_state_26 : decode cX4_state 26 = .ok (.goto 21, 3) := by decide +kernel
theorem dX4_state_29 : decode cX4_state 29 = .ok (.iload_n 1, 1) := by decide +kernel
theorem dX4_state_30 : decode cX4_state 30 = .ok (.aload_n 0, 1) := by decide +kernel
theorem dX4_state_31 : decode cX4_state 31 = .ok (.getfield 61, 3) := by decide +kernel
theorem dX4_state_34 : decode cX4_state 34 = .ok (.aload_n 0, 1) := by decide +kernel
theorem dX4_state_35 : decode cX4_state 35 = .ok (.getfield 64, 3) := by decide +kernel
theorem dX4_state_38 : decode cX4_state 38 = .ok (.iadd, 1) := by decide +kernel
theorem dX4_state_39 : decode cX4_state 39 = .ok (.if_icmp .ge 7, 3) := by decide +kernel
theorem dX4_state_42 : decode cX4_state 42 = .ok (.iconst 1, 1) := by decide +kernel
theorem dX4_state_43 : decode cX4_state 43 = .ok (.goto 4, 3) := by decide +kernel
theorem dX4_state_46 : decode cX4_state 46 = .ok (.iconst 0, 1) := by decide +kernel
theorem dX4_state_47 : decode cX4_state 47 = .ok (.ireturn, 1) := by decide +kernel
theorem dX4_place_0 : decode cX4_place 0 = .ok (.aload_n 0, 1) := by decide +kernel
theorem dX4_place_1 : decode cX4_place 1 = .ok (.aload_n 0, 1) := by decide +kernel
theorem dX4_place_2 : decode cX4_place 2 = .ok (.iload_n 1, 1) := by decide +kernel
theorem dX4_place_3 : decode cX4_place 3 = .ok (.invokevirtual 142, 3) := by decide +kernel
theorem dX4_place_6 : decode cX4_place 6 = .ok (.ifCond .eq 19, 3) := by decide +kernel
theorem dX4_place_9 : decode cX4_place 9 = .ok (.iload_n 2, 1) := by decide +kernel
theorem dX4_place_10 : decode cX4_place 10 = .ok (.i2l, 1) := by decide +kernel
theorem dX4_place_11 : decode cX4_place 11 = .ok (.lconst 0, 1) := by decide +kernel
theorem dX4_place_12 : decode cX4_place 12 = .ok (.ldc2_w 145, 3) := by decide +kernel
theorem dX4_place_15 : decode cX4_place 15 = .ok (.invokestatic 69, 3) := by decide +kernel
theorem dX4_place_18 : decode cX4_place 18 = .ok (.ifCond .eq 7, 3) := by decide +kernel
theorem dX4_place_21 : decode cX4_place 21 = .ok (.iconst 0, 1) := by decide +kernel
theorem dX4_place_22 : decode cX4_place 22 = .ok (.goto 4, 3) := by decide +kernel
theorem dX4_place_25 : decode cX4_place 25 = .ok (.iconst 1, 1) := by decide +kernel
theorem dX4_place_26 : decode cX4_place 26 = .ok (.putfield 55, 3) := by decide +kernel
theorem dX4_place_29 : decode cX4_place 29 = .ok (.aload_n 0, 1) := by decide +kernel
theorem dX4_place_30 : decode cX4_place 30 = .ok (.getfield 55, 3) := by decide +kernel
theorem dX4_place_33 : decode cX4_place 33 = .ok (.ifCond .le 5, 3) := by decide +kernel
theorem dX4_place_36 : decode cX4_place 36 = .ok (.lconst 0, 1) := by decide +kernel
theorem dX4_place_37 : decode cX4_place 37 = .ok (.lreturn, 1) := by decide +kernel
theorem dX4_place_38 : decode cX4_place 38 = .ok (.iload_n 2, 1) := by decide +kernel
theorem dX4_place_39 : decode cX4_place 39 = .ok (.ifCond .ne 12, 3) := by decide +kernel
theorem dX4_place_42 : decode cX4_place 42 = .ok (.aload_n 0, 1) := by decide +kernel
theorem dX4_place_43 : decode cX4_place 43 = .ok (.getfield 39, 3) := by decide +kernel
theorem dX4_place_46 : decode cX4_place 46 = .ok (.iload_n 1, 1) := by decide +kernel
theorem dX4_place_47 : decode cX4_place 47 = .ok (.laload, 1) := by decide +kernel
theorem dX4_place_48 : decode cX4_place 48 = .ok (.goto 37, 3) := by decide +kernel
theorem dX4_place_51 : decode cX4_place 51 = .ok (.iload_n 2, 1) := by decide +kernel
theorem dX4_place_52 : decode cX4_place 52 = .ok (.iconst 1, 1) := by decide +kernel
theorem dX4_place_53 : decode cX4_place 53 = .ok (.if_icmp .ne 12, 3) := by decide +kernel
theorem dX4_place_56 : decode cX4_place 56 = .ok (.aload_n 0, 1) := by decide +kernel
theorem dX4_place_57 : decode cX4_place 57 = .ok (.getfield 43, 3) := by decide +kernel
theorem dX4_place_60 : decode cX4_place 60 = .ok (.iload_n 1, 1) := by decide +kernel
theorem dX4_place_61 : decode cX4_place 61 = .ok (.laload, 1) := by decide +kernel
theorem dX4_place_62 : decode cX4_place 62 = .ok (.goto 23, 3) := by decide +kernel
theorem dX4_place_65 : decode cX4_place 65 = .ok (.iload_n 2, 1) := by decide +kernel
theorem dX4_place_66 : decode cX4_place 66 = .ok (.iconst 2, 1) := by decide +kernel
theorem dX4_place_67 : decode cX4_place 67 = .ok (.if_icmp .ne 12, 3) := by decide +kernel
theorem dX4_place_70 : decode cX4_place 70 = .ok (.aload_n 0, 1) := by decide +kernel
theorem dX4_place_71 : decode cX4_place 71 = .ok (.getfield 46, 3) := by decide +kernel
theorem dX4_place_74 : decode cX4_place 74 = .ok (.iload_n 1, 1) := by decide +kernel
theorem dX4_place_75 : decode cX4_place 75 = .ok (.laload, 1) := by decide +kernel
theorem dX4_place_76 : decode cX4_place 76 = .ok (.goto 9, 3) := by decide +kernel
theorem dX4_place_79 : decode cX4_place 79 = .ok (.aload_n 0, 1) := by decide +kernel
theorem dX4_place_80 : decode cX4_place 80 = .ok (.getfield 49, 3) := by decide +kernel
theorem dX4_place_83 : decode cX4_place 83 = .ok (.iload_n 1, 1) := by decide +kernel
theorem dX4_place_84 : decode cX4_place 84 = .ok (.laload, 1) := by decide +kernel
theorem dX4_place_85 : decode cX4_place 85 = .ok (.lreturn, 1) := by decide +kernel
theorem dX4_off_0 : decode cX4_off 0 = .ok (.aload_n 0, 1) := by decide +kernel
theorem dX4_off_1 : decode cX4_off 1 = .ok (.aload_n 0, 1) := by decide +kernel
theorem dX4_off_2 : decode cX4_off 2 = .ok (.iload_n 1, 1) := by decide +kernel
theorem dX4_off_3 : decode cX4_off 3 = .ok (.invokevirtual 142, 3) := by decide +kernel
theorem dX4_off_6 : decode cX4_off 6 = .ok (.ifCond .eq 7, 3) := by decide +kernel
theorem dX4_off_9 : decode cX4_off 9 = .ok (.iconst 0, 1) := by decide +kernel
theorem dX4_off_10 : decode cX4_off 10 = .ok (.goto 4, 3) := by decide +kernel
theorem dX4_off_13 : decode cX4_off 13 = .ok (.iconst 1, 1) := by decide +kernel
theorem dX4_off_14 : decode cX4_off 14 = .ok (.putfield 55, 3) := by decide +kernel
theorem dX4_off_17 : decode cX4_off 17 = .ok (.aload_n 0, 1) := by decide +kernel
theorem dX4_off_18 : decode cX4_off 18 = .ok (.getfield 55, 3) := by decide +kernel
theorem dX4_off_21 : decode cX4_off 21 = .ok (.ifCond .le 7, 3) := by decide +kernel
theorem dX4_off_24 : decode cX4_off 24 = .ok (.lconst 0, 1) := by decide +kernel
theorem dX4_off_25 : decode cX4_off 25 = .ok (.goto 8, 3) := by decide +kernel
theorem dX4_off_28 : decode cX4_off 28 = .ok (.aload_n 0, 1) := by decide +kernel
theorem dX4_off_29 : decode cX4_off 29 = .ok (.iload_n 1, 1) := by decide +kernel
theorem dX4_off_30 : decode cX4_off 30 = .ok (.invokevirtual 120, 3) := by decide +kernel
theorem dX4_off_33 : decode cX4_off 33 = .ok (.lreturn, 1) := by decide +kernel
theorem dX4_sum_0 : decode cX4_sum 0 = .ok (.aload_n 0, 1) := by decide +kernel
theorem dX4_sum_1 : decode cX4_sum 1 = .ok (.iconst 0, 1) := by decide +kernel
theorem dX4_sum_2 : decode cX4_sum 2 = .ok (.putfield 55, 3) := by decide +kernel
theorem dX4_sum_5 : decode cX4_sum 5 = .ok (.lconst 0, 1) := by decide +kernel
theorem dX4_sum_6 : decode cX4_sum 6 = .ok (.lstore_n 1, 1) := by decide +kernel
theorem dX4_sum_7 : decode cX4_sum 7 = .ok (.iconst 0, 1) := by decide +kernel
theorem dX4_sum_8 : decode cX4_sum 8 = .ok (.istore_n 3, 1) := by decide +kernel
theorem dX4_sum_9 : decode cX4_sum 9 = .ok (.iload_n 3, 1) := by decide +kernel
theorem dX4_sum_10 : decode cX4_sum 10 = .ok (.aload_n 0, 1) := by decide +kernel
theorem dX4_sum_11 : decode cX4_sum 11 = .ok (.getfield 61, 3) := by decide +kernel
theorem dX4_sum_14 : decode cX4_sum 14 = .ok (.aload_n 0, 1) := by decide +kernel
theorem dX4_sum_15 : decode cX4_sum 15 = .ok (.getfield 64, 3) := by decide +kernel
theorem dX4_sum_18 : decode cX4_sum 18 = .ok (.iadd, 1) := by decide +kernel
theorem dX4_sum_19 : decode cX4_sum 19 = .ok (.if_icmp .ge 17, 3) := by decide +kernel
theorem dX4_sum_22 : decode cX4_sum 22 = .ok (.lload_n 1, 1) := by decide +kernel
theorem dX4_sum_23 : decode cX4_sum 23 = .ok (.aload_n 0, 1) := by decide +kernel
theorem dX4_sum_24 : decode cX4_sum 24 = .ok (.iload_n 3, 1) := by decide +kernel
theorem dX4_sum_25 : decode cX4_sum 25 = .ok (.invokevirtual 120, 3) := by decide +kernel
theorem dX4_sum_28 : decode cX4_sum 28 = .ok (.ladd, 1) := by decide +kernel
theorem dX4_sum_29 : decode cX4_sum 29 = .ok (.lstore_n 1, 1) := by decide +kernel
theorem dX4_sum_30 : decode cX4_sum 30 = .ok (.iinc 3 1, 3) := by decide +kernel
theorem dX4_sum_33 : decode cX4_sum 33 = .ok (.goto (-24), 3) := by decide +kernel
theorem dX4_sum_36 : decode cX4_sum 36 = .ok (.lload_n 1, 1) := by decide +kernel
theorem dX4_sum_37 : decode cX4_sum 37 = .ok (.lreturn, 1) := by decide +kernel
theorem dX4_stroke_0 : decode cX4_stroke 0 = .ok (.aload_n 0, 1) := by decide +kernel
theorem dX4_stroke_1 : decode cX4_stroke 1 = .ok (.iconst 0, 1) := by decide +kernel
theorem dX4_stroke_2 : decode cX4_stroke 2 = .ok (.putfield 55, 3) := by decide +kernel
theorem dX4_stroke_5 : decode cX4_stroke 5 = .ok (.aload_n 0, 1) := by decide +kernel
theorem dX4_stroke_6 : decode cX4_stroke 6 = .ok (.iload_n 1, 1) := by decide +kernel
theorem dX4_stroke_7 : decode cX4_stroke 7 = .ok (.invokevirtual 142, 3) := by decide +kernel
theorem dX4_stroke_10 : decode cX4_stroke 10 = .ok (.ifCond .eq 15, 3) := by decide +kernel
theorem dX4_stroke_13 : decode cX4_stroke 13 = .ok (.iload_n 2, 1) := by decide +kernel
theorem dX4_stroke_14 : decode cX4_stroke 14 = .ok (.i2l, 1) := by decide +kernel
theorem dX4_stroke_15 : decode cX4_stroke 15 = .ok (.lconst 0, 1) := by decide +kernel
theorem dX4_stroke_16 : decode cX4_stroke 16 = .ok (.ldc2_w 88, 3) := by decide +kernel
theorem dX4_stroke_19 : decode cX4_stroke 19 = .ok (.invokestatic 69, 3) := by decide +kernel
theorem dX4_stroke_22 : decode cX4_stroke 22 = .ok (.ifCond .ne 5, 3) := by decide +kernel
theorem dX4_stroke_25 : decode cX4_stroke 25 = .ok (.iconst 0, 1) := by decide +kernel
theorem dX4_stroke_26 : decode cX4_stroke 26 = .ok (.ireturn, 1) := by decide +kernel
theorem dX4_stroke_27 : decode cX4_stroke 27 = .ok (.aload_n 0, 1) := by decide +kernel
theorem dX4_stroke_28 : decode cX4_stroke 28 = .ok (.getfield 20, 3) := by decide +kernel
theorem dX4_stroke_31 : decode cX4_stroke 31 = .ok (.aload_n 0, 1) := by decide +kernel
theorem dX4_stroke_32 : decode cX4_stroke 32 = .ok (.getfield 33, 3) := by decide +kernel
theorem dX4_stroke_35 : decode cX4_stroke 35 = .ok (.iload_n 1, 1) := by decide +kernel
theorem dX4_stroke_36 : decode cX4_stroke 36 = .ok (.iaload, 1) := by decide +kernel
theorem dX4_stroke_37 : decode cX4_stroke 37 = .ok (.iaload, 1) := by decide +kernel
theorem dX4_stroke_38 : decode cX4_stroke 38 = .ok (.iload_n 2, 1) := by decide +kernel
theorem dX4_stroke_39 : decode cX4_stroke 39 = .ok (.aload_n 0, 1) := by decide +kernel
theorem dX4_stroke_40 : decode cX4_stroke 40 = .ok (.getfield 36, 3) := by decide +kernel
theorem dX4_stroke_43 : decode cX4_stroke 43 = .ok (.iload_n 1, 1) := by decide +kernel
theorem dX4_stroke_44 : decode cX4_stroke 44 = .ok (.iaload, 1) := by decide +kernel
theorem dX4_stroke_45 : decode cX4_stroke 45 = .ok (.isub, 1) := by decide +kernel
theorem dX4_stroke_46 : decode cX4_stroke 46 = .ok (.invokestatic 92, 3) := by decide +kernel
theorem dX4_stroke_49 : decode cX4_stroke 49 = .ok (.imul, 1) := by decide +kernel
theorem dX4_stroke_50 : decode cX4_stroke 50 = .ok (.istore_n 3, 1) := by decide +kernel
theorem dX4_stroke_51 : decode cX4_stroke 51 = .ok (.iload_n 3, 1) := by decide +kernel
theorem dX4_stroke_52 : decode cX4_stroke 52 = .ok (.bipush 64, 2) := by decide +kernel
theorem dX4_stroke_54 : decode cX4_stroke 54 = .ok (.idiv, 1) := by decide +kernel
theorem dX4_stroke_55 : decode cX4_stroke 55 = .ok (.istore 4, 2) := by decide +kernel
theorem dX4_stroke_57 : decode cX4_stroke 57 = .ok (.iload_n 3, 1) := by decide +kernel
theorem dX4_stroke_58 : decode cX4_stroke 58 = .ok (.ifCond .ge 19, 3) := by decide +kernel
theorem dX4_stroke_61 : decode cX4_stroke 61 = .ok (.iload 4, 2) := by decide +kernel
theorem dX4_stroke_63 : decode cX4_stroke 63 = .ok (.bipush 64, 2) := by decide +kernel
theorem dX4_stroke_65 : decode cX4_stroke 65 = .ok (.imul, 1) := by decide +kernel
theorem dX4_stroke_66 : decode cX4_stroke 66 = .ok (.iload_n 3, 1) := by decide +kernel
theorem dX4_stroke_67 : decode cX4_stroke 67 = .ok (.if_icmp .eq 10, 3) := by decide +kernel
theorem dX4_stroke_70 : decode cX4_stroke 70 = .ok (.iload 4, 2) := by decide +kernel
theorem dX4_stroke_72 : decode cX4_stroke 72 = .ok (.iconst 1, 1) := by decide +kernel
theorem dX4_stroke_73 : decode cX4_stroke 73 = .ok (.isub, 1) := by decide +kernel
theorem dX4_stroke_74 : decode cX4_stroke 74 = .ok (.goto 5, 3) := by decide +kernel
theorem dX4_stroke_77 : decode cX4_stroke 77 = .ok (.iload 4, 2) := by decide +kernel
theorem dX4_stroke_79 : decode cX4_stroke 79 = .ok (.ireturn, 1) := by decide +kernel
theorem dX4_left_0 : decode cX4_left 0 = .ok (.aload_n 0, 1) := by decide +kernel
theorem dX4_left_1 : decode cX4_left 1 = .ok (.iconst 0, 1) := by decide +kernel
theorem dX4_left_2 : decode cX4_left 2 = .ok (.putfield 55, 3) := by decide +kernel
theorem dX4_left_5 : decode cX4_left 5 = .ok (.aload_n 0, 1) := by decide +kernel
theorem dX4_left_6 : decode cX4_left 6 = .ok (.iload_n 1, 1) := by decide +kernel
theorem dX4_left_7 : decode cX4_left 7 = .ok (.invokevirtual 75, 3) := by decide +kernel
theorem dX4_left_10 : decode cX4_left 10 = .ok (.ifCond .eq 18, 3) := by decide +kernel
theorem dX4_left_13 : decode cX4_left 13 = .ok (.aload_n 0, 1) := by decide +kernel
theorem dX4_left_14 : decode cX4_left 14 = .ok (.getfield 24, 3) := by decide +kernel
theorem dX4_left_17 : decode cX4_left 17 = .ok (.iload_n 1, 1) := by decide +kernel
theorem dX4_left_18 : decode cX4_left 18 = .ok (.iaload, 1) := by decide +kernel
theorem dX4_left_19 : decode cX4_left 19 = .ok (.aload_n 0, 1) := by decide +kernel
theorem dX4_left_20 : decode cX4_left 20 = .ok (.iload_n 1, 1) := by decide +kernel
theorem dX4_left_21 : decode cX4_left 21 = .ok (.invokevirtual 96, 3) := by decide +kernel
theorem dX4_left_24 : decode cX4_left 24 = .ok (.isub, 1) := by decide +kernel
theorem dX4_left_25 : decode cX4_left 25 = .ok (.goto 4, 3) := by decide +kernel
theorem dX4_left_28 : decode cX4_left 28 = .ok (.iconst (-1), 1) := by decide +kernel
theorem dX4_left_29 : decode cX4_left 29 = .ok (.ireturn, 1) := by decide +kernel
theorem dX4_list_0 : decode cX4_list 0 = .ok (.aload_n 0, 1) := by decide +kernel
theorem dX4_list_1 : decode cX4_list 1 = .ok (.iconst 0, 1) := by decide +kernel
theorem dX4_list_2 : decode cX4_list 2 = .ok (.putfield 55, 3) := by decide +kernel
theorem dX4_list_5 : decode cX4_list 5 = .ok (.iconst 0, 1) := by decide +kernel
theorem dX4_list_6 : decode cX4_list 6 = .ok (.istore_n 3, 1) := by decide +kernel
theorem dX4_list_7 : decode cX4_list 7 = .ok (.iconst 0, 1) := by decide +kernel
theorem dX4_list_8 : decode cX4_list 8 = .ok (.istore 4, 2) := by decide +kernel
theorem dX4_list_10 : decode cX4_list 10 = .ok (.iload 4, 2) := by decide +kernel
theorem dX4_list_12 : decode cX4_list 12 = .ok (.aload_n 0, 1) := by decide +kernel
theorem dX4_list_13 : decode cX4_list 13 = .ok (.getfield 61, 3) := by decide +kernel
theorem dX4_list_16 : decode cX4_list 16 = .ok (.aload_n 0, 1) := by decide +kernel
theorem dX4_list_17 : decode cX4_list 17 = .ok (.getfield 64, 3) := by decide +kernel
theorem dX4_list_20 : decode cX4_list 20 = .ok (.iadd, 1) := by decide +kernel
theorem dX4_list_21 : decode cX4_list 21 = .ok (.if_icmp .ge 31, 3) := by decide +kernel
theorem dX4_list_24 : decode cX4_list 24 = .ok (.aload_n 0, 1) := by decide +kernel
theorem dX4_list_25 : decode cX4_list 25 = .ok (.getfield 33, 3) := by decide +kernel
theorem dX4_list_28 : decode cX4_list 28 = .ok (.iload 4, 2) := by decide +kernel
theorem dX4_list_30 : decode cX4_list 30 = .ok (.iaload, 1) := by decide +kernel
theorem dX4_list_31 : decode cX4_list 31 = .ok (.iload_n 1, 1) := by decide +kernel
theorem dX4_list_32 : decode cX4_list 32 = .ok (.if_icmp .ne 14, 3) := by decide +kernel
theorem dX4_list_35 : decode cX4_list 35 = .ok (.iload_n 3, 1) := by decide +kernel
theorem dX4_list_36 : decode cX4_list 36 = .ok (.iload_n 2, 1) := by decide +kernel
theorem dX4_list_37 : decode cX4_list 37 = .ok (.if_icmp .ne 6, 3) := by decide +kernel
theorem dX4_list_40 : decode cX4_list 40 = .ok (.iload 4, 2) := by decide +kernel
theorem dX4_list_42 : decode cX4_list 42 = .ok (.ireturn, 1) := by decide +kernel
theorem dX4_list_43 : decode cX4_list 43 = .ok (.iinc 3 1, 3) := by decide +kernel
theorem dX4_list_46 : decode cX4_list 46 = .ok (.iinc 4 1, 3) := by decide +kernel
theorem dX4_list_49 : decode cX4_list 49 = .ok (.goto (-39), 3) := by decide +kernel
theorem dX4_list_52 : decode cX4_list 52 = .ok (.iconst (-1), 1) := by decide +kernel
theorem dX4_list_53 : decode cX4_list 53 = .ok (.ireturn, 1) := by decide +kernel
theorem dX4_count_0 : decode cX4_count 0 = .ok (.aload_n 0, 1) := by decide +kernel
theorem dX4_count_1 : decode cX4_count 1 = .ok (.iload_n 1, 1) := by decide +kernel
theorem dX4_count_2 : decode cX4_count 2 = .ok (.i2l, 1) := by decide +kernel
theorem dX4_count_3 : decode cX4_count 3 = .ok (.lconst 0, 1) := by decide +kernel
theorem dX4_count_4 : decode cX4_count 4 = .ok (.ldc2_w 147, 3) := by decide +kernel
theorem dX4_count_7 : decode cX4_count 7 = .ok (.invokestatic 69, 3) := by decide +kernel
theorem dX4_count_10 : decode cX4_count 10 = .ok (.ifCond .eq 7, 3) := by decide +kernel
theorem dX4_count_13 : decode cX4_count 13 = .ok (.iconst 0, 1) := by decide +kernel
theorem dX4_count_14 : decode cX4_count 14 = .ok (.goto 4, 3) := by decide +kernel
theorem dX4_count_17 : decode cX4_count 17 = .ok (.iconst 1, 1) := by decide +kernel
theorem dX4_count_18 : decode cX4_count 18 = .ok (.putfield 55, 3) := by decide +kernel
theorem dX4_count_21 : decode cX4_count 21 = .ok (.aload_n 0, 1) := by decide +kernel
theorem dX4_count_22 : decode cX4_count 22 = .ok (.getfield 55, 3) := by decide +kernel
theorem dX4_count_25 : decode cX4_count 25 = .ok (.ifCond .le 5, 3) := by decide +kernel
theorem dX4_count_28 : decode cX4_count 28 = .ok (.iconst 0, 1) := by decide +kernel
theorem dX4_count_29 : decode cX4_count 29 = .ok (.ireturn, 1) := by decide +kernel
theorem dX4_count_30 : decode cX4_count 30 = .ok (.iconst 0, 1) := by decide +kernel
theorem dX4_count_31 : decode cX4_count 31 = .ok (.istore_n 2, 1) := by decide +kernel
theorem dX4_count_32 : decode cX4_count 32 = .ok (.iconst 0, 1) := by decide +kernel
theorem dX4_count_33 : decode cX4_count 33 = .ok (.istore_n 3, 1) := by decide +kernel
theorem dX4_count_34 : decode cX4_count 34 = .ok (.iload_n 3, 1) := by decide +kernel
theorem dX4_count_35 : decode cX4_count 35 = .ok (.bipush 16, 2) := by decide +kernel
theorem dX4_count_37 : decode cX4_count 37 = .ok (.if_icmp .ge 26, 3) := by decide +kernel
theorem dX4_count_40 : decode cX4_count 40 = .ok (.aload_n 0, 1) := by decide +kernel
theorem dX4_count_41 : decode cX4_count 41 = .ok (.getfield 16, 3) := by decide +kernel
theorem dX4_count_44 : decode cX4_count 44 = .ok (.iload_n 3, 1) := by decide +kernel
theorem dX4_count_45 : decode cX4_count 45 = .ok (.baload, 1) := by decide +kernel
theorem dX4_count_46 : decode cX4_count 46 = .ok (.ifCond .eq 9, 3) := by decide +kernel
theorem dX4_count_49 : decode cX4_count 49 = .ok (.iload_n 2, 1) := by decide +kernel
theorem dX4_count_50 : decode cX4_count 50 = .ok (.iconst 1, 1) := by decide +kernel
theorem dX4_count_51 : decode cX4_count 51 = .ok (.iadd, 1) := by decide +kernel
theorem dX4_count_52 : decode cX4_count 52 = .ok (.goto 4, 3) := by decide +kernel
theorem dX4_count_55 : decode cX4_count 55 = .ok (.iload_n 2, 1) := by decide +kernel
theorem dX4_count_56 : decode cX4_count 56 = .ok (.istore_n 2, 1) := by decide +kernel
theorem dX4_count_57 : decode cX4_count 57 = .ok (.iinc 3 1, 3) := by decide +kernel
theorem dX4_count_60 : decode cX4_count 60 = .ok (.goto (-26), 3) := by decide +kernel
theorem dX4_count_63 : decode cX4_count 63 = .ok (.iload_n 1, 1) := by decide +kernel
theorem dX4_count_64 : decode cX4_count 64 = .ok (.ifCond .ne 10, 3) := by decide +kernel
theorem dX4_count_67 : decode cX4_count 67 = .ok (.aload_n 0, 1) := by decide +kernel
theorem dX4_count_68 : decode cX4_count 68 = .ok (.getfield 52, 3) := by decide +kernel
theorem dX4_count_71 : decode cX4_count 71 = .ok (.goto 77, 3) := by decide +kernel
theorem dX4_count_74 : decode cX4_count 74 = .ok (.iload_n 1, 1) := by decide +kernel
theorem dX4_count_75 : decode cX4_count 75 = .ok (.iconst 1, 1) := by decide +kernel
theorem dX4_count_76 : decode cX4_count 76 = .ok (.if_icmp .ne 10, 3) := by decide +kernel
theorem dX4_count_79 : decode cX4_count 79 = .ok (.aload_n 0, 1) := by decide +kernel
theorem dX4_count_80 : decode cX4_count 80 = .ok (.getfield 61, 3) := by decide +kernel
theorem dX4_count_83 : decode cX4_count 83 = .ok (.goto 65, 3) := by decide +kernel
theorem dX4_count_86 : decode cX4_count 86 = .ok (.iload_n 1, 1) := by decide +kernel
theorem dX4_count_87 : decode cX4_count 87 = .ok (.iconst 2, 1) := by decide +kernel
theorem dX4_count_88 : decode cX4_count 88 = .ok (.if_icmp .ne 10, 3) := by decide +kernel
theorem dX4_count_91 : decode cX4_count 91 = .ok (.aload_n 0, 1) := by decide +kernel
theorem dX4_count_92 : decode cX4_count 92 = .ok (.getfield 64, 3) := by decide +kernel
theorem dX4_count_95 : decode cX4_count 95 = .ok (.goto 53, 3) := by decide +kernel
theorem dX4_count_98 : decode cX4_count 98 = .ok (.iload_n 1, 1) := by decide +kernel
theorem dX4_count_99 : decode cX4_count 99 = .ok (.iconst 3, 1) := by decide +kernel
theorem dX4_count_100 : decode cX4_count 100 = .ok (.if_icmp .ne 10, 3) := by decide +kernel
theorem dX4_count_103 : decode cX4_count 103 = .ok (.aload_n 0, 1) := by decide +kernel
theorem dX4_count_104 : decode cX4_count 104 = .ok (.getfield 58, 3) := by decide +kernel
theorem dX4_count_107 : decode cX4_count 107 = .ok (.goto 41, 3) := by decide +kernel
theorem dX4_count_110 : decode cX4_count 110 = .ok (.iload_n 1, 1) := by decide +kernel
theorem dX4_count_111 : decode cX4_count 111 = .ok (.iconst 4, 1) := by decide +kernel
theorem dX4_count_112 : decode cX4_count 112 = .ok (.if_icmp .ne 10, 3) := by decide +kernel
theorem dX4_count_115 : decode cX4_count 115 = .ok (.aload_n 0, 1) := by decide +kernel
theorem dX4_count_116 : decode cX4_count 116 = .ok (.getfield 7, 3) := by decide +kernel
theorem dX4_count_119 : decode cX4_count 119 = .ok (.goto 29, 3) := by decide +kernel
theorem dX4_count_122 : decode cX4_count 122 = .ok (.iload_n 1, 1) := by decide +kernel
theorem dX4_count_123 : decode cX4_count 123 = .ok (.iconst 5, 1) := by decide +kernel
theorem dX4_count_124 : decode cX4_count 124 = .ok (.if_icmp .ne 10, 3) := by decide +kernel
theorem dX4_count_127 : decode cX4_count 127 = .ok (.aload_n 0, 1) := by decide +kernel
theorem dX4_count_128 : decode cX4_count 128 = .ok (.getfield 13, 3) := by decide +kernel
theorem dX4_count_131 : decode cX4_count 131 = .ok (.goto 17, 3) := by decide +kernel
theorem dX4_count_134 : decode cX4_count 134 = .ok (.iload_n 1, 1) := by decide +kernel
theorem dX4_count_135 : decode cX4_count 135 = .ok (.bipush 6, 2) := by decide +kernel
theorem dX4_count_137 : decode cX4_count 137 = .ok (.if_icmp .ne 7, 3) := by decide +kernel
theorem dX4_count_140 : decode cX4_count 140 = .ok (.iload_n 2, 1) := by decide +kernel
theorem dX4_count_141 : decode cX4_count 141 = .ok (.goto 7, 3) := by decide +kernel
theorem dX4_count_144 : decode cX4_count 144 = .ok (.aload_n 0, 1) := by decide +kernel
theorem dX4_count_145 : decode cX4_count 145 = .ok (.getfield 131, 3) := by decide +kernel
theorem dX4_count_148 : decode cX4_count 148 = .ok (.ireturn, 1) := by decide +kernel
