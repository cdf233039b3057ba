theorem dX10_init_0 : decode cX10_init 0 = .ok (.aload_n 0, 1) := by decide +kernel
theorem dX10_init_1 : decode cX10_init 1 = .ok (.invokespecial 3, 3) := by decide +kernel
theorem dX10_init_4 : decode cX10_init 4 = .ok (.aload_n 0, 1) := by decide +kernel
theorem dX10_init_5 : decode cX10_init 5 = .ok (.bipush 116, 2) := by decide +kernel
theorem dX10_init_7 : decode cX10_init 7 = .ok (.newarray .int, 2) := by decide +kernel
theorem dX10_init_9 : decode cX10_init 9 = .ok (.putfield 9, 3) := by decide +kernel
theorem dX10_init_12 : decode cX10_init 12 = .ok (.aload_n 0, 1) := by decide +kernel
theorem dX10_init_13 : decode cX10_init 13 = .ok (.bipush 116, 2) := by decide +kernel
theorem dX10_init_15 : decode cX10_init 15 = .ok (.newarray .int, 2) := by decide +kernel
theorem dX10_init_17 : decode cX10_init 17 = .ok (.putfield 13, 3) := by decide +kernel
theorem dX10_init_20 : decode cX10_init 20 = .ok (.aload_n 0, 1) := by decide +kernel
theorem dX10_init_21 : decode cX10_init 21 = .ok (.bipush 116, 2) := by decide +kernel
theorem dX10_init_23 : decode cX10_init 23 = .ok (.newarray .int, 2) := by decide +kernel
theorem dX10_init_25 : decode cX10_init 25 = .ok (.putfield 16, 3) := by decide +kernel
theorem dX10_init_28 : decode cX10_init 28 = .ok (.aload_n 0, 1) := by decide +kernel
theorem dX10_init_29 : decode cX10_init 29 = .ok (.sipush 928, 3) := by decide +kernel
theorem dX10_init_32 : decode cX10_init 32 = .ok (.newarray .int, 2) := by decide +kernel
theorem dX10_init_34 : decode cX10_init 34 = .ok (.putfield 19, 3) := by decide +kernel
theorem dX10_init_37 : decode cX10_init 37 = .ok (.aload_n 0, 1) := by decide +kernel
theorem dX10_init_38 : decode cX10_init 38 = .ok (.bipush 116, 2) := by decide +kernel
theorem dX10_init_40 : decode cX10_init 40 = .ok (.newarray .int, 2) := by decide +kernel
theorem dX10_init_42 : decode cX10_init 42 = .ok (.putfield 22, 3) := by decide +kernel
theorem dX10_init_45 : decode cX10_init 45 = .ok (.aload_n 0, 1) := by decide +kernel
theorem dX10_init_46 : decode cX10_init 46 = .ok (.bipush 60, 2) := by decide +kernel
theorem dX10_init_48 : decode cX10_init 48 = .ok (.newarray .char, 2) := by decide +kernel
theorem dX10_init_50 : decode cX10_init 50 = .ok (.putfield 25, 3) := by decide +kernel
theorem dX10_init_53 : decode cX10_init 53 = .ok (.aload_n 0, 1) := by decide +kernel
theorem dX10_init_54 : decode cX10_init 54 = .ok (.bipush 60, 2) := by decide +kernel
theorem dX10_init_56 : decode cX10_init 56 = .ok (.newarray .char, 2) := by decide +kernel
theorem dX10_init_58 : decode cX10_init 58 = .ok (.putfield 29, 3) := by decide +kernel
theorem dX10_init_61 : decode cX10_init 61 = .ok (.aload_n 0, 1) := by decide +kernel
theorem dX10_init_62 : decode cX10_init 62 = .ok (.iconst 2, 1) := by decide +kernel
theorem dX10_init_63 : decode cX10_init 63 = .ok (.newarray .int, 2) := by decide +kernel
theorem dX10_init_65 : decode cX10_init 65 = .ok (.putfield 32, 3) := by decide +kernel
theorem dX10_init_68 : decode cX10_init 68 = .ok (.aload_n 0, 1) := by decide +kernel
theorem dX10_init_69 : decode cX10_init 69 = .ok (.iconst (-1), 1) := by decide +kernel
theorem dX10_init_70 : decode cX10_init 70 = .ok (.putfield 35, 3) := by decide +kernel
theorem dX10_init_73 : decode cX10_init 73 = .ok (.aload_n 0, 1) := by decide +kernel
theorem dX10_init_74 : decode cX10_init 74 = .ok (.getfield 9, 3) := by decide +kernel
theorem dX10_init_77 : decode cX10_init 77 = .ok (.iconst 3, 1) := by decide +kernel
theorem dX10_init_78 : decode cX10_init 78 = .ok (.iconst 3, 1) := by decide +kernel
theorem dX10_init_79 : decode cX10_init 79 = .ok (.iastore, 1) := by decide +kernel
theorem dX10_init_80 : decode cX10_init 80 = .ok (.iconst 0, 1) := by decide +kernel
theorem dX10_init_81 : decode cX10_init 81 = .ok (.istore_n 1, 1) := by decide +kernel
theorem dX10_init_82 : decode cX10_init 82 = .ok (.iload_n 1, 1) := by decide +kernel
theorem dX10_init_83 : decode cX10_init 83 = .ok (.bipush 6, 2) := by decide +kernel
theorem dX10_init_85 : decode cX10_init 85 = .ok (.if_icmp .ge 22, 3) := by decide +kernel
theorem dX10_init_88 : decode cX10_init 88 = .ok (.aload_n 0, 1) := by decide +kernel
theorem dX10_init_89 : decode cX10_init 89 = .ok (.getfield 9, 3) := by decide +kernel
theorem dX10_init_92 : decode cX10_init 92 = .ok (.bipush 8, 2) := by decide +kernel
theorem dX10_init_94 : decode cX10_init 94 = .ok (.bipush 8, 2) := by decide +kernel
theorem dX10_init_96 : decode cX10_init 96 = .ok (.iload_n 1, 1) := by decide +kernel
theorem dX10_init_97 : decode cX10_init 97 = .ok (.imul, 1) := by decide +kernel
theorem dX10_init_98 : decode cX10_init 98 = .ok (.iadd, 1) := by decide +kernel
theorem dX10_init_99 : decode cX10_init 99 = .ok (.iconst 5, 1) := by decide +kernel
theorem dX10_init_100 : decode cX10_init 100 = .ok (.iastore, 1) := by decide +kernel
theorem dX10_init_101 : decode cX10_init 101 = .ok (.iinc 1 1, 3) := by decide +kernel
theorem dX10_init_104 : decode cX10_init 104 = .ok (.goto (-22), 3) := by decide +kernel
theorem dX10_init_107 : decode cX10_init 107 = .ok (.return_, 1) := by decide +kernel
theorem dX10_thrown_0 : decode cX10_thrown 0 = .ok (.aload_n 0, 1) := by decide +kernel
theorem dX10_thrown_1 : decode cX10_thrown 1 = .ok (.getfield 39, 3) := by decide +kernel
theorem dX10_thrown_4 : decode cX10_thrown 4 = .ok (.ireturn, 1) := by decide +kernel
theorem dX10_raises_0 : decode cX10_raises 0 = .ok (.aload_n 0, 1) := by decide +kernel
theorem dX10_raises_1 : decode cX10_raises 1 = .ok (.iload_n 1, 1) := by decide +kernel
theorem dX10_raises_2 : decode cX10_raises 2 = .ok (.putfield 39, 3) := by decide +kernel
theorem dX10_raises_5 : decode cX10_raises 5 = .ok (.iconst 0, 1) := by decide +kernel
theorem dX10_raises_6 : decode cX10_raises 6 = .ok (.ireturn, 1) := by decide +kernel
theorem dX10_in_0 : decode cX10_in 0 = .ok (.iload_n 0, 1) := by decide +kernel
theorem dX10_in_1 : decode cX10_in 1 = .ok (.iload_n 1, 1) := by decide +kernel
theorem dX10_in_2 : decode cX10_in 2 = .ok (.if_icmp .lt 12, 3) := by decide +kernel
theorem dX10_in_5 : decode cX10_in 5 = .ok (.iload_n 0, 1) := by decide +kernel
theorem dX10_in_6 : decode cX10_in 6 = .ok (.iload_n 2, 1) := by decide +kernel
theorem dX10_in_7 : decode cX10_in 7 = .ok (.if_icmp .gt 7, 3) := by decide +kernel
theorem dX10_in_10 : decode cX10_in 10 = .ok (.iconst 1, 1) := by decide +kernel
theorem dX10_in_11 : decode cX10_in 11 = .ok (.goto 4, 3) := by decide +kernel
theorem dX10_in_14 : decode cX10_in 14 = .ok (.iconst 0, 1) := by decide +kernel
theorem dX10_in_15 : decode cX10_in 15 = .ok (.ireturn, 1) := by decide +kernel
theorem dX10_tries_0 : decode cX10_tries 0 = .ok (.aload_n 0, 1) := by decide +kernel
theorem dX10_tries_1 : decode cX10_tries 1 = .ok (.iconst 0, 1) := by decide +kernel
theorem dX10_tries_2 : decode cX10_tries 2 = .ok (.putfield 39, 3) := by decide +kernel
theorem dX10_tries_5 : decode cX10_tries 5 = .ok (.iconst 0, 1) := by decide +kernel
theorem dX10_tries_6 : decode cX10_tries 6 = .ok (.istore_n 1, 1) := by decide +kernel
theorem dX10_tries_7 : decode cX10_tries 7 = .ok (.iload_n 1, 1) := by decide +kernel
theorem dX10_tries_8 : decode cX10_tries 8 = .ok (.bipush 116, 2) := by decide +kernel
theorem dX10_tries_10 : decode cX10_tries 10 = .ok (.if_icmp .ge 21, 3) := by decide +kernel
theorem dX10_tries_13 : decode cX10_tries 13 = .ok (.aload_n 0, 1) := by decide +kernel
theorem dX10_tries_14 : decode cX10_tries 14 = .ok (.getfield 13, 3) := by decide +kernel
theorem dX10_tries_17 : decode cX10_tries 17 = .ok (.iload_n 1, 1) := by decide +kernel
theorem dX10_tries_18 : decode cX10_tries 18 = .ok (.aload_n 0, 1) := by decide +kernel
theorem dX10_tries_19 : decode cX10_tries 19 = .ok (.getfield 9, 3) := by decide +kernel
theorem dX10_tries_22 : decode cX10_tries 22 = .ok (.iload_n 1, 1) := by decide +kernel
theorem dX10_tries_23 : decode cX10_tries 23 = .ok (.iaload, 1) := by decide +kernel
theorem dX10_tries_24 : decode cX10_tries 24 = .ok (.iastore, 1) := by decide +kernel
theorem dX10_tries_25 : decode cX10_tries 25 = .ok (.iinc 1 1, 3) := by decide +kernel
theorem dX10_tries_28 : decode cX10_tries 28 = .ok (.goto (-21), 3) := by decide +kernel
theorem dX10_tries_31 : decode cX10_tries 31 = .ok (.return_, 1) := by decide +kernel
theorem dX10_does_0 : decode cX10_does 0 = .ok (.aload_n 0, 1) := by decide +kernel
theorem dX10_does_1 : decode cX10_does 1 = .ok (.iload_n 1, 1) := by decide +kernel
theorem dX10_does_2 : decode cX10_does 2 = .ok (.putfield 42, 3) := by decide +kernel
theorem dX10_does_5 : decode cX10_does 5 = .ok (.iconst 0, 1) := by decide +kernel
theorem dX10_does_6 : decode cX10_does 6 = .ok (.ireturn, 1) := by decide +kernel
theorem dX10_rejects_0 : decode cX10_rejects 0 = .ok (.aload_n 0, 1) := by decide +kernel
theorem dX10_rejects_1 : decode cX10_rejects 1 = .ok (.iload_n 1, 1) := by decide +kernel
theorem dX10_rejects_2 : decode cX10_rejects 2 = .ok (.putfield 45, 3) := by decide +kernel
theorem dX10_rejects_5 : decode cX10_rejects 5 = .ok (.aload_n 0, 1) := by decide +kernel
theorem dX10_rejects_6 : decode cX10_rejects 6 = .ok (.iload_n 2, 1) := by decide +kernel
theorem dX10_rejects_7 : decode cX10_rejects 7 = .ok (.putfield 48, 3) := by decide +kernel
theorem dX10_rejects_10 : decode cX10_rejects 10 = .ok (.aload_n 0, 1) := by decide +kernel
theorem dX10_rejects_11 : decode cX10_rejects 11 = .ok (.iconst 0, 1) := by decide +kernel
theorem dX10_rejects_12 : decode cX10_rejects 12 = .ok (.putfield 51, 3) := by decide +kernel
theorem dX10_rejects_15 : decode cX10_rejects 15 = .ok (.iconst (-1), 1) := by decide +kernel
theorem dX10_rejects_16 : decode cX10_rejects 16 = .ok (.ireturn, 1) := by decide +kernel
theorem dX10_ends_0 : decode cX10_ends 0 = .ok (.iload_n 1, 1) := by decide +kernel
theorem dX10_ends_1 : decode cX10_ends 1 = .ok (.ifCond .eq 27, 3) := by decide +kernel
theorem dX10_ends_4 : decode cX10_ends 4 = .ok (.aload_n 0, 1) := by decide +kernel
theorem dX10_ends_5 : decode cX10_ends 5 = .ok (.iload_n 1, 1) := by decide +kernel
theorem dX10_ends_6 : decode cX10_ends 6 = .ok (.ifCond .ge 8, 3) := by decide +kernel
theorem dX10_ends_9 : decode cX10_ends 9 = .ok (.iload 4, 2) := by decide +kernel
theorem dX10_ends_11 : decode cX10_ends 11 = .ok (.goto 13, 3) := by decide +kernel
theorem dX10_ends_14 : decode cX10_ends 14 = .ok (.iload_n 1, 1) := by decide +kernel
theorem dX10_ends_15 : decode cX10_ends 15 = .ok (.iconst 1, 1) := by decide +kernel
theorem dX10_ends_16 : decode cX10_ends 16 = .ok (.if_icmp .ne 7, 3) := by decide +kernel
theorem dX10_ends_19 : decode cX10_ends 19 = .ok (.iload_n 2, 1) := by decide +kernel
theorem dX10_ends_20 : decode cX10_ends 20 = .ok (.goto 4, 3) := by decide +kernel
theorem dX10_ends_23 : decode cX10_ends 23 = .ok (.iload_n 3, 1) := by decide +kernel
theorem dX10_ends_24 : decode cX10_ends 24 = .ok (.invokevirtual 54, 3) := by decide +kernel
theorem dX10_ends_27 : decode cX10_ends 27 = .ok (.ireturn, 1) := by decide +kernel
theorem dX10_ends_28 : decode cX10_ends 28 = .ok (.aload_n 0, 1) := by decide +kernel
theorem dX10_ends_29 : decode cX10_ends 29 = .ok (.getfield 58, 3) := by decide +kernel
theorem dX10_ends_32 : decode cX10_ends 32 = .ok (.bipush 8, 2) := by decide +kernel
theorem dX10_ends_34 : decode cX10_ends 34 = .ok (.if_icmp .ne 47, 3) := by decide +kernel
theorem dX10_ends_37 : decode cX10_ends 37 = .ok (.iconst 0, 1) := by decide +kernel
theorem dX10_ends_38 : decode cX10_ends 38 = .ok (.istore 5, 2) := by decide +kernel
theorem dX10_ends_40 : decode cX10_ends 40 = .ok (.iload 5, 2) := by decide +kernel
theorem dX10_ends_42 : decode cX10_ends 42 = .ok (.sipush 812, 3) := by decide +kernel
theorem dX10_ends_45 : decode cX10_ends 45 = .ok (.if_icmp .ge 26, 3) := by decide +kernel
theorem dX10_ends_48 : decode cX10_ends 48 = .ok (.aload_n 0, 1) := by decide +kernel
theorem dX10_ends_49 : decode cX10_ends 49 = .ok (.getfield 19, 3) := by decide +kernel
theorem dX10_ends_52 : decode cX10_ends 52 = .ok (.iload 5, 2) := by decide +kernel
theorem dX10_ends_54 : decode cX10_ends 54 = .ok (.aload_n 0, 1) := by decide +kernel
theorem dX10_ends_55 : decode cX10_ends 55 = .ok (.getfield 19, 3) := by decide +kernel
theorem dX10_ends_58 : decode cX10_ends 58 = .ok (.bipush 116, 2) := by decide +kernel
theorem dX10_ends_60 : decode cX10_ends 60 = .ok (.iload 5, 2) := by decide +kernel
theorem dX10_ends_62 : decode cX10_ends 62 = .ok (.iadd, 1) := by decide +kernel
theorem dX10_ends_63 : decode cX10_ends 63 = .ok (.iaload, 1) := by decide +kernel
theorem dX10_ends_64 : decode cX10_ends 64 = .ok (.iastore, 1) := by decide +kernel
theorem dX10_ends_65 : decode cX10_ends 65 = .ok (.iinc 5 1, 3) := by decide +kernel
theorem dX10_ends_68 : decode cX10_ends 68 = .ok (.goto (-28), 3) := by decide +kernel
theorem dX10_ends_71 : decode cX10_ends 71 = .ok (.aload_n 0, 1) := by decide +kernel
theorem dX10_ends_72 : decode cX10_ends 72 = .ok (.dup, 1) := by decide +kernel
theorem dX10_ends_73 : decode cX10_ends 73 = .ok (.getfield 58, 3) := by decide +kernel
theorem dX10_ends_76 : decode cX10_ends 76 = .ok (.iconst 1, 1) := by decide +kernel
theorem dX10_ends_77 : decode cX10_ends 77 = .ok (.isub, 1) := by decide +kernel
theorem dX10_ends_78 : decode cX10_ends 78 = .ok (.putfield 58, 3) := by decide +kernel
theorem dX10_ends_81 : decode cX10_ends 81 = .ok (.iconst 0, 1) := by decide +kernel
theorem dX10_ends_82 : decode cX10_ends 82 = .ok (.istore 5, 2) := by decide +kernel
theorem dX10_ends_84 : decode cX10_ends 84 = .ok (.iload 5, 2) := by decide +kernel
theorem dX10_ends_86 : decode cX10_ends 86 = .ok (.bipush 116, 2) := by decide +kernel
theorem dX10_ends_88 : decode cX10_ends 88 = .ok (.if_icmp .ge 31, 3) := by decide +kernel
theorem dX10_ends_91 : decode cX10_ends 91 = .ok (.aload_n 0, 1) := by decide +kernel
theorem dX10_ends_92 : decode cX10_ends 92 = .ok (.getfield 19, 3) := by decide +kernel
theorem dX10_ends_95 : decode cX10_ends 95 = .ok (.bipush 116, 2) := by decide +kernel
theorem dX10_ends_97 : decode cX10_ends 97 = .ok (.aload_n 0, 1) := by decide +kernel
theorem dX10_ends_98 : decode cX10_ends 98 = .ok (.getfield 58, 3) := by decide +kernel
theorem dX10_ends_101 : decode cX10_ends 101 = .ok (.imul, 1) := by decide +kernel
theorem dX10_ends_102 : decode cX10_ends 102 = .ok (.iload 5, 2) := by decide +kernel
theorem dX10_ends_104 : decode cX10_ends 104 = .ok (.iadd, 1) := by decide +kernel
theorem dX10_ends_105 : decode cX10_ends 105 = .ok (.aload_n 0, 1) := by decide +kernel
theorem dX10_ends_106 : decode cX10_ends 106 = .ok (.getfield 13, 3) := by decide +kernel
theorem dX10_ends_109 : decode cX10_ends 109 = .ok (.iload 5, 2) := by decide +kernel
theorem dX10_ends_111 : decode cX10_ends 111 = .ok (.iaload, 1) := by decide +kernel
theorem dX10_ends_112 : decode cX10_ends 112 = .ok (.iastore, 1) := by decide +kernel
theorem dX10_ends_113 : decode cX10_ends 113 = .ok (.iinc 5 1, 3) := by decide +kernel
theorem dX10_ends_116 : decode cX10_ends 116 = .ok (.goto (-32), 3) := by decide +kernel
theorem dX10_ends_119 : decode cX10_ends 119 = .ok (.aload_n 0, 1) := by decide +kernel
theorem dX10_ends_120 : decode cX10_ends 120 = .ok (.dup, 1) := by decide +kernel
theorem dX10_ends_121 : decode cX10_ends 121 = .ok (.getfield 58, 3) := by decide +kernel
theorem dX10_ends_124 : decode cX10_ends 124 = .ok (.iconst 1, 1) := by decide +kernel
theorem dX10_ends_125 : decode cX10_ends 125 = .ok (.iadd, 1) := by decide +kernel
theorem dX10_ends_126 : decode cX10_ends 126 = .ok (.putfield 58, 3) := by decide +kernel
theorem dX10_ends_129 : decode cX10_ends 129 = .ok (.aload_n 0, 1) := by decide +kernel
theorem dX10_ends_130 : decode cX10_ends 130 = .ok (.getfield 42, 3) := by decide +kernel
theorem dX10_ends_133 : decode cX10_ends 133 = .ok (.ireturn, 1) := by decide +kernel
theorem dX10_isLawn_0 : decode cX10_isLawn 0 = .ok (.iload_n 0, 1) := by decide +kernel
theorem dX10_isLawn_1 : decode cX10_isLawn 1 = .ok (.iconst 0, 1) := by decide +kernel
theorem dX10_isLawn_2 : decode cX10_isLawn 2 = .ok (.iconst 5, 1) := by decide +kernel
theorem dX10_isLawn_3 : decode cX10_isLawn 3 = .ok (.invokestatic 61, 3) := by decide +kernel
theorem dX10_isLawn_6 : decode cX10_isLawn 6 = .ok (.ireturn, 1) := by decide +kernel
theorem dX10_lawn_0 : decode cX10_lawn 0 = .ok (.aload_n 0, 1) := by decide +kernel
theorem dX10_lawn_1 : decode cX10_lawn 1 = .ok (.getfield 9, 3) := by decide +kernel
theorem dX10_lawn_4 : decode cX10_lawn 4 = .ok (.bipush 8, 2) := by decide +kernel
theorem dX10_lawn_6 : decode cX10_lawn 6 = .ok (.bipush 8, 2) := by decide +kernel
theorem dX10_lawn_8 : decode cX10_lawn 8 = .ok (.iload_n 1, 1) := by decide +kernel
theorem dX10_lawn_9 : decode cX10_lawn 9 = .ok (.imul, 1) := by decide +kernel
theorem dX10_lawn_10 : decode cX10_lawn 10 = .ok (.iadd, 1) := by decide +kernel
theorem dX10_lawn_11 : decode cX10_lawn 11 = .ok (.iload_n 2, 1) := by decide +kernel
theorem dX10_lawn_12 : decode cX10_lawn 12 = .ok (.iadd, 1) := by decide +kernel
theorem dX10_lawn_13 : decode cX10_lawn 13 = .ok (.iaload, 1) := by decide +kernel
theorem dX10_lawn_14 : decode cX10_lawn 14 = .ok (.ireturn, 1) := by decide +kernel
theorem dX10_herd_0 : decode cX10_herd 0 = .ok (.aload_n 0, 1) := by decide +kernel
theorem dX10_herd_1 : decode cX10_herd 1 = .ok (.getfield 9, 3) := by decide +kernel
theorem dX10_herd_4 : decode cX10_herd 4 = .ok (.bipush 8, 2) := by decide +kernel
theorem dX10_herd_6 : decode cX10_herd 6 = .ok (.bipush 8, 2) := by decide +kernel
theorem dX10_herd_8 : decode cX10_herd 8 = .ok (.iload_n 1, 1) := by decide +kernel
theorem dX10_herd_9 : decode cX10_herd 9 = .ok (.imul, 1) := by decide +kernel
theorem dX10_herd_10 : decode cX10_herd 10 = .ok (.iadd, 1) := by decide +kernel
theorem dX10_herd_11 : decode cX10_herd 11 = .ok (.iconst 3, 1) := by decide +kernel
theorem dX10_herd_12 : decode cX10_herd 12 = .ok (.iadd, 1) := by decide +kernel
theorem dX10_herd_13 : decode cX10_herd 13 = .ok (.iload_n 2, 1) := by decide +kernel
theorem dX10_herd_14 : decode cX10_herd 14 = .ok (.iadd, 1) := by decide +kernel
theorem dX10_herd_15 : decode cX10_herd 15 = .ok (.iaload, 1) := by decide +kernel
theorem dX10_herd_16 : decode cX10_herd 16 = .ok (.ireturn, 1) := by decide +kernel
theorem dX10_of_0 : decode cX10_of 0 = .ok (.aload_n 0, 1) := by decide +kernel
theorem dX10_of_1 : decode cX10_of 1 = .ok (.getfield 9, 3) := by decide +kernel
theorem dX10_of_4 : decode cX10_of 4 = .ok (.bipush 56, 2) := by decide +kernel
theorem dX10_of_6 : decode cX10_of 6 = .ok (.iconst 5, 1) := by decide +kernel
theorem dX10_of_7 : decode cX10_of 7 = .ok (.iload_n 1, 1) := by decide +kernel
theorem dX10_of_8 : decode cX10_of 8 = .ok (.imul, 1) := by decide +kernel
theorem dX10_of_9 : decode cX10_of 9 = .ok (.iadd, 1) := by decide +kernel
theorem dX10_of_10 : decode cX10_of 10 = .ok (.iload_n 2, 1) := by decide +kernel
theorem dX10_of_11 : decode cX10_of 11 = .ok (.iadd, 1) := by decide +kernel
theorem dX10_of_12 : decode cX10_of 12 = .ok (.iaload, 1) := by decide +kernel
theorem dX10_of_13 : decode cX10_of 13 = .ok (.ireturn, 1) := by decide +kernel
theorem dX10_sets_0 : decode cX10_sets 0 = .ok (.aload_n 0, 1) := by decide +kernel
theorem dX10_sets_1 : decode cX10_sets 1 = .ok (.getfield 9, 3) := by decide +kernel
theorem dX10_sets_4 : decode cX10_sets 4 = .ok (.bipush 56, 2) := by decide +kernel
theorem dX10_sets_6 : decode cX10_sets 6 = .ok (.iconst 5, 1) := by decide +kernel
theorem dX10_sets_7 : decode cX10_sets 7 = .ok (.iload_n 1, 1) := by decide +kernel
theorem dX10_sets_8 : decode cX10_sets 8 = .ok (.imul, 1) := by decide +kernel
theorem dX10_sets_9 : decode cX10_sets 9 = .ok (.iadd, 1) := by decide +kernel
theorem dX10_sets_10 : decode cX10_sets 10 = .ok (.iload_n 2, 1) := by decide +kernel
theorem dX10_sets_11 : decode cX10_sets 11 = .ok (.iadd, 1) := by decide +kernel
theorem dX10_sets_12 : decode cX10_sets 12 = .ok (.iload_n 3, 1) := by decide +kernel
theorem dX10_sets_13 : decode cX10_sets 13 = .ok (.iastore, 1) := by decide +kernel
theorem dX10_sets_14 : decode cX10_sets 14 = .ok (.return_, 1) := by decide +kernel
theorem dX10_place_0 : decode cX10_place 0 = .ok (.iconst 0, 1) := by decide +kernel
theorem dX10_place_1 : decode cX10_place 1 = .ok (.istore_n 2, 1) := by decide +kernel
theorem dX10_place_2 : decode cX10_place 2 = .ok (.iload_n 2, 1) := by decide +kernel
theorem dX10_place_3 : decode cX10_place 3 = .ok (.aload_n 0, 1) := by decide +kernel
theorem dX10_place_4 : decode cX10_place 4 = .ok (.getfield 9, 3) := by decide +kernel
theorem dX10_place_7 : decode cX10_place 7 = .ok (.iconst 0, 1) := by decide +kernel
theorem dX10_place_8 : decode cX10_place 8 = .ok (.iaload, 1) := by decide +kernel
theorem dX10_place_9 : decode cX10_place 9 = .ok (.if_icmp .ge 21, 3) := by decide +kernel
theorem dX10_place_12 : decode cX10_place 12 = .ok (.aload_n 0, 1) := by decide +kernel
theorem dX10_place_13 : decode cX10_place 13 = .ok (.iload_n 2, 1) := by decide +kernel
theorem dX10_place_14 : decode cX10_place 14 = .ok (.iconst 0, 1) := by decide +kernel
theorem dX10_place_15 : decode cX10_place 15 = .ok (.invokevirtual 65, 3) := by decide +kernel
theorem dX10_place_18 : decode cX10_place 18 = .ok (.iload_n 1, 1) := by decide +kernel
theorem dX10_place_19 : decode cX10_place 19 = .ok (.if_icmp .ne 5, 3) := by decide +kernel
theorem dX10_place_22 : decode cX10_place 22 = .ok (.iload_n 2, 1) := by decide +kernel
theorem dX10_place_23 : decode cX10_place 23 = .ok (.ireturn, 1) := by decide +kernel
theorem dX10_place_24 : decode cX10_place 24 = .ok (.iinc 2 1, 3) := by decide +kernel
theorem dX10_place_27 : decode cX10_place 27 = .ok (.goto (-25), 3) := by decide +kernel
theorem dX10_place_30 : decode cX10_place 30 = .ok (.iconst (-1), 1) := by decide +kernel
theorem dX10_place_31 : decode cX10_place 31 = .ok (.ireturn, 1) := by decide +kernel
theorem dX10_isPathBetween_0 : decode cX10_isPathBetween 0 = .ok (.aload_n 0, 1) := by decide +kernel
theorem dX10_isPathBetween_1 : decode cX10_isPathBetween 1 = .ok (.iload_n 1, 1) := by decide +kernel
theorem dX10_isPathBetween_2 : decode cX10_isPathBetween 2 = .ok (.iconst 1, 1) := by decide +kernel
theorem dX10_isPathBetween_3 : decode cX10_isPathBetween 3 = .ok (.invokevirtual 69, 3) := by decide +kernel
theorem dX10_isPathBetween_6 : decode cX10_isPathBetween 6 = .ok (.iload_n 2, 1) := by decide +kernel
theorem dX10_isPathBetween_7 : decode cX10_isPathBetween 7 = .ok (.ishr, 1) := by decide +kernel
theorem dX10_isPathBetween_8 : decode cX10_isPathBetween 8 = .ok (.iconst 1, 1) := by decide +kernel
theorem dX10_isPathBetween_9 : decode cX10_isPathBetween 9 = .ok (.iand, 1) := by decide +kernel
theorem dX10_isPathBetween_10 : decode cX10_isPathBetween 10 = .ok (.iconst 1, 1) := by decide +kernel
theorem dX10_isPathBetween_11 : decode cX10_isPathBetween 11 = .ok (.if_icmp .ne 7, 3) := by decide +kernel
theorem dX10_isPathBetween_14 : decode cX10_isPathBetween 14 = .ok (.iconst 1, 1) := by decide +kernel
theorem dX10_isPathBetween_15 : decode cX10_isPathBetween 15 = .ok (.goto 4, 3) := by decide +kernel
theorem dX10_isPathBetween_18 : decode cX10_isPathBetween 18 = .ok (.iconst 0, 1) := by decide +kernel
theorem dX10_isPathBetween_19 : decode cX10_isPathBetween 19 = .ok (.ireturn, 1) := by decide +kernel
theorem dX10_far_0 : decode cX10_far 0 = .ok (.iconst 1, 1) := by decide +kernel
theorem dX10_far_1 : decode cX10_far 1 = .ok (.iload_n 1, 1) := by decide +kernel
theorem dX10_far_2 : decode cX10_far 2 = .ok (.ishl, 1) := by decide +kernel
theorem dX10_far_3 : decode cX10_far 3 = .ok (.istore_n 3, 1) := by decide +kernel
theorem dX10_far_4 : decode cX10_far 4 = .ok (.iconst 0, 1) := by decide +kernel
theorem dX10_far_5 : decode cX10_far 5 = .ok (.istore 4, 2) := by decide +kernel
theorem dX10_far_7 : decode cX10_far 7 = .ok (.iload 4, 2) := by decide +kernel
theorem dX10_far_9 : decode cX10_far 9 = .ok (.bipush 6, 2) := by decide +kernel
theorem dX10_far_11 : decode cX10_far 11 = .ok (.if_icmp .ge 65, 3) := by decide +kernel
theorem dX10_far_14 : decode cX10_far 14 = .ok (.iload_n 3, 1) := by decide +kernel
theorem dX10_far_15 : decode cX10_far 15 = .ok (.iload_n 2, 1) := by decide +kernel
theorem dX10_far_16 : decode cX10_far 16 = .ok (.ishr, 1) := by decide +kernel
theorem dX10_far_17 : decode cX10_far 17 = .ok (.iconst 1, 1) := by decide +kernel
theorem dX10_far_18 : decode cX10_far 18 = .ok (.iand, 1) := by decide +kernel
theorem dX10_far_19 : decode cX10_far 19 = .ok (.iconst 1, 1) := by decide +kernel
theorem dX10_far_20 : decode cX10_far 20 = .ok (.if_icmp .ne 6, 3) := by decide +kernel
theorem dX10_far_23 : decode cX10_far 23 = .ok (.iload 4, 2) := by decide +kernel
theorem dX10_far_25 : decode cX10_far 25 = .ok (.ireturn, 1) := by decide +kernel
theorem dX10_far_26 : decode cX10_far 26 = .ok (.iload_n 3, 1) := by decide +kernel
theorem dX10_far_27 : decode cX10_far 27 = .ok (.istore 5, 2) := by decide +kernel
theorem dX10_far_29 : decode cX10_far 29 = .ok (.iconst 0, 1) := by decide +kernel
theorem dX10_far_30 : decode cX10_far 30 = .ok (.istore 6, 2) := by decide +kernel
theorem dX10_far_32 : decode cX10_far 32 = .ok (.iload 6, 2) := by decide +kernel
theorem dX10_far_34 : decode cX10_far 34 = .ok (.bipush 6, 2) := by decide +kernel
theorem dX10_far_36 : decode cX10_far 36 = .ok (.if_icmp .ge 31, 3) := by decide +kernel
theorem dX10_far_39 : decode cX10_far 39 = .ok (.iload_n 3, 1) := by decide +kernel
theorem dX10_far_40 : decode cX10_far 40 = .ok (.iload 6, 2) := by decide +kernel
theorem dX10_far_42 : decode cX10_far 42 = .ok (.ishr, 1) := by decide +kernel
theorem dX10_far_43 : decode cX10_far 43 = .ok (.iconst 1, 1) := by decide +kernel
theorem dX10_far_44 : decode cX10_far 44 = .ok (.iand, 1) := by decide +kernel
theorem dX10_far_45 : decode cX10_far 45 = .ok (.iconst 1, 1) := by decide +kernel
theorem dX10_far_46 : decode cX10_far 46 = .ok (.if_icmp .ne 15, 3) := by decide +kernel
theorem dX10_far_49 : decode cX10_far 49 = .ok (.iload 5, 2) := by decide +kernel
theorem dX10_far_51 : decode cX10_far 51 = .ok (.aload_n 0, 1) := by decide +kernel
theorem dX10_far_52 : decode cX10_far 52 = .ok (.iload 6, 2) := by decide +kernel
theorem dX10_far_54 : decode cX10_far 54 = .ok (.iconst 1, 1) := by decide +kernel
theorem dX10_far_55 : decode cX10_far 55 = .ok (.invokevirtual 69, 3) := by decide +kernel
theorem dX10_far_58 : decode cX10_far 58 = .ok (.ior, 1) := by decide +kernel
theorem dX10_far_59 : decode cX10_far 59 = .ok (.istore 5, 2) := by decide +kernel
theorem dX10_far_61 : decode cX10_far 61 = .ok (.iinc 6 1, 3) := by decide +kernel
theorem dX10_far_64 : decode cX10_far 64 = .ok (.goto (-32), 3) := by decide +kernel
theorem dX10_far_67 : decode cX10_far 67 = .ok (.iload 5, 2) := by decide +kernel
theorem dX10_far_69 : decode cX10_far 69 = .ok (.istore_n 3, 1) := by decide +kernel
theorem dX10_far_70 : decode cX10_far 70 = .ok (.iinc 4 1, 3) := by decide +kernel
theorem dX10_far_73 : decode cX10_far 73 = .ok (.goto (-66), 3) := by decide +kernel
theorem dX10_far_76 : decode cX10_far 76 = .ok (.iconst (-1), 1) := by decide +kernel
theorem dX10_far_77 : decode cX10_far 77 = .ok (.ireturn, 1) := by decide +kernel
theorem dX10_paths_0 : decode cX10_paths 0 = .ok (.iconst 0, 1) := by decide +kernel
theorem dX10_paths_1 : decode cX10_paths 1 = .ok (.istore_n 1, 1) := by decide +kernel
theorem dX10_paths_2 : decode cX10_paths 2 = .ok (.iconst 0, 1) := by decide +kernel
theorem dX10_paths_3 : decode cX10_paths 3 = .ok (.istore_n 2, 1) := by decide +kernel
theorem dX10_paths_4 : decode cX10_paths 4 = .ok (.iload_n 2, 1) := by decide +kernel
theorem dX10_paths_5 : decode cX10_paths 5 = .ok (.bipush 6, 2) := by decide +kernel
theorem dX10_paths_7 : decode cX10_paths 7 = .ok (.if_icmp .ge 21, 3) := by decide +kernel
theorem dX10_paths_10 : decode cX10_paths 10 = .ok (.iload_n 1, 1) := by decide +kernel
theorem dX10_paths_11 : decode cX10_paths 11 = .ok (.aload_n 0, 1) := by decide +kernel
theorem dX10_paths_12 : decode cX10_paths 12 = .ok (.iload_n 2, 1) := by decide +kernel
theorem dX10_paths_13 : decode cX10_paths 13 = .ok (.iconst 1, 1) := by decide +kernel
theorem dX10_paths_14 : decode cX10_paths 14 = .ok (.invokevirtual 69, 3) := by decide +kernel
theorem dX10_paths_17 : decode cX10_paths 17 = .ok (.invokestatic 72, 3) := by decide +kernel
theorem dX10_paths_20 : decode cX10_paths 20 = .ok (.iadd, 1) := by decide +kernel
theorem dX10_paths_21 : decode cX10_paths 21 = .ok (.istore_n 1, 1) := by decide +kernel
theorem dX10_paths_22 : decode cX10_paths 22 = .ok (.iinc 2 1, 3) := by decide +kernel
theorem dX10_paths_25 : decode cX10_paths 25 = .ok (.goto (-21), 3) := by decide +kernel
theorem dX10_paths_28 : decode cX10_paths 28 = .ok (.iload_n 1, 1) := by decide +kernel
theorem dX10_paths_29 : decode cX10_paths 29 = .ok (.iconst 2, 1) := by decide +kernel
theorem dX10_paths_30 : decode cX10_paths 30 = .ok (.idiv, 1) := by decide +kernel
theorem dX10_paths_31 : decode cX10_paths 31 = .ok (.ireturn, 1) := by decide +kernel
theorem dX10_folded_0 : decode cX10_folded 0 = .ok (.iconst 0, 1) := by decide +kernel
theorem dX10_folded_1 : decode cX10_folded 1 = .ok (.istore_n 1, 1) := by decide +kernel
theorem dX10_folded_2 : decode cX10_folded 2 = .ok (.iconst 0, 1) := by decide +kernel
theorem dX10_folded_3 : decode cX10_folded 3 = .ok (.istore_n 2, 1) := by decide +kernel
theorem dX10_folded_4 : decode cX10_folded 4 = .ok (.iload_n 2, 1) := by decide +kernel
theorem dX10_folded_5 : decode cX10_folded 5 = .ok (.aload_n 0, 1) := by decide +kernel
theorem dX10_folded_6 : decode cX10_folded 6 = .ok (.getfield 9, 3) := by decide +kernel
theorem dX10_folded_9 : decode cX10_folded 9 = .ok (.iconst 0, 1) := by decide +kernel
theorem dX10_folded_10 : decode cX10_folded 10 = .ok (.iaload, 1) := by decide +kernel
theorem dX10_folded_11 : decode cX10_folded 11 = .ok (.if_icmp .ge 18, 3) := by decide +kernel
theorem dX10_folded_14 : decode cX10_folded 14 = .ok (.iload_n 1, 1) := by decide +kernel
theorem dX10_folded_15 : decode cX10_folded 15 = .ok (.aload_n 0, 1) := by decide +kernel
theorem dX10_folded_16 : decode cX10_folded 16 = .ok (.iload_n 2, 1) := by decide +kernel
theorem dX10_folded_17 : decode cX10_folded 17 = .ok (.iconst 3, 1) := by decide +kernel
theorem dX10_folded_18 : decode cX10_folded 18 = .ok (.invokevirtual 65, 3) := by decide +kernel
theorem dX10_folded_21 : decode cX10_folded 21 = .ok (.iadd, 1) := by decide +kernel
theorem dX10_folded_22 : decode cX10_folded 22 = .ok (.istore_n 1, 1) := by decide +kernel
theorem dX10_folded_23 : decode cX10_folded 23 = .ok (.iinc 2 1, 3) := by decide +kernel
theorem dX10_folded_26 : decode cX10_folded 26 = .ok (.goto (-22), 3) := by decide +kernel
theorem dX10_folded_29 : decode cX10_folded 29 = .ok (.iload_n 1, 1) := by decide +kernel
theorem dX10_folded_30 : decode cX10_folded 30 = .ok (.ireturn, 1) := by decide +kernel
theorem dX10_leaves_0 : decode cX10_leaves 0 = .ok (.bipush 8, 2) := by decide +kernel
theorem dX10_leaves_2 : decode cX10_leaves 2 = .ok (.bipush 8, 2) := by decide +kernel
theorem dX10_leaves_4 : decode cX10_leaves 4 = .ok (.aload_n 0, 1) := by decide +kernel
theorem dX10_leaves_5 : decode cX10_leaves 5 = .ok (.iload_n 1, 1) := by decide +kernel
theorem dX10_leaves_6 : decode cX10_leaves 6 = .ok (.iconst 1, 1) := by decide +kernel
theorem dX10_leaves_7 : decode cX10_leaves 7 = .ok (.invokevirtual 65, 3) := by decide +kernel
theorem dX10_leaves_10 : decode cX10_leaves 10 = .ok (.imul, 1) := by decide +kernel
theorem dX10_leaves_11 : decode cX10_leaves 11 = .ok (.iadd, 1) := by decide +kernel
theorem dX10_leaves_12 : decode cX10_leaves 12 = .ok (.istore_n 2, 1) := by decide +kernel
theorem dX10_leaves_13 : decode cX10_leaves 13 = .ok (.iconst 0, 1) := by decide +kernel
theorem dX10_leaves_14 : decode cX10_leaves 14 = .ok (.istore_n 3, 1) := by decide +kernel
theorem dX10_leaves_15 : decode cX10_leaves 15 = .ok (.aload_n 0, 1) := by decide +kernel
theorem dX10_leaves_16 : decode cX10_leaves 16 = .ok (.getfield 9, 3) := by decide +kernel
theorem dX10_leaves_19 : decode cX10_leaves 19 = .ok (.iload_n 2, 1) := by decide +kernel
theorem dX10_leaves_20 : decode cX10_leaves 20 = .ok (.iconst 3, 1) := by decide +kernel
theorem dX10_leaves_21 : decode cX10_leaves 21 = .ok (.iadd, 1) := by decide +kernel
theorem dX10_leaves_22 : decode cX10_leaves 22 = .ok (.iload_n 3, 1) := by decide +kernel
theorem dX10_leaves_23 : decode cX10_leaves 23 = .ok (.iadd, 1) := by decide +kernel
theorem dX10_leaves_24 : decode cX10_leaves 24 = .ok (.iaload, 1) := by decide +kernel
theorem dX10_leaves_25 : decode cX10_leaves 25 = .ok (.aload_n 0, 1) := by decide +kernel
theorem dX10_leaves_26 : decode cX10_leaves 26 = .ok (.iload_n 1, 1) := by decide +kernel
theorem dX10_leaves_27 : decode cX10_leaves 27 = .ok (.iconst 0, 1) := by decide +kernel
theorem dX10_leaves_28 : decode cX10_leaves 28 = .ok (.invokevirtual 65, 3) := by decide +kernel
theorem dX10_leaves_31 : decode cX10_leaves 31 = .ok (.if_icmp .eq 9, 3) := by decide +kernel
theorem dX10_leaves_34 : decode cX10_leaves 34 = .ok (.iinc 3 1, 3) := by decide +kernel
theorem dX10_leaves_37 : decode cX10_leaves 37 = .ok (.goto (-22), 3) := by decide +kernel
theorem dX10_leaves_40 : decode cX10_leaves 40 = .ok (.aload_n 0, 1) := by decide +kernel
theorem dX10_leaves_41 : decode cX10_leaves 41 = .ok (.getfield 9, 3) := by decide +kernel
theorem dX10_leaves_44 : decode cX10_leaves 44 = .ok (.iload_n 2, 1) := by decide +kernel
theorem dX10_leaves_45 : decode cX10_leaves 45 = .ok (.iconst 2, 1) := by decide +kernel
theorem dX10_leaves_46 : decode cX10_leaves 46 = .ok (.iadd, 1) := by decide +kernel
theorem dX10_leaves_47 : decode cX10_leaves 47 = .ok (.dup2, 1) := by decide +kernel
theorem dX10_leaves_48 : decode cX10_leaves 48 = .ok (.iaload, 1) := by decide +kernel
theorem dX10_leaves_49 : decode cX10_leaves 49 = .ok (.iconst 1, 1) := by decide +kernel
theorem dX10_leaves_50 : decode cX10_leaves 50 = .ok (.isub, 1) := by decide +kernel
theorem dX10_leaves_51 : decode cX10_leaves 51 = .ok (.iastore, 1) := by decide +kernel
theorem dX10_leaves_52 : decode cX10_leaves 52 = .ok (.iload_n 3, 1) := by decide +kernel
theorem dX10_leaves_53 : decode cX10_leaves 53 = .ok (.istore 4, 2) := by decide +kernel
theorem dX10_leaves_55 : decode cX10_leaves 55 = .ok (.iload 4, 2) := by decide +kernel
theorem dX10_leaves_57 : decode cX10_leaves 57 = .ok (.aload_n 0, 1) := by decide +kernel
theorem dX10_leaves_58 : decode cX10_leaves 58 = .ok (.getfield 9, 3) := by decide +kernel
theorem dX10_leaves_61 : decode cX10_leaves 61 = .ok (.iload_n 2, 1) := by decide +kernel
theorem dX10_leaves_62 : decode cX10_leaves 62 = .ok (.iconst 2, 1) := by decide +kernel
theorem dX10_leaves_63 : decode cX10_leaves 63 = .ok (.iadd, 1) := by decide +kernel
theorem dX10_leaves_64 : decode cX10_leaves 64 = .ok (.iaload, 1) := by decide +kernel
theorem dX10_leaves_65 : decode cX10_leaves 65 = .ok (.if_icmp .ge 31, 3) := by decide +kernel
theorem dX10_leaves_68 : decode cX10_leaves 68 = .ok (.aload_n 0, 1) := by decide +kernel
theorem dX10_leaves_69 : decode cX10_leaves 69 = .ok (.getfield 9, 3) := by decide +kernel
theorem dX10_leaves_72 : decode cX10_leaves 72 = .ok (.iload_n 2, 1) := by decide +kernel
theorem dX10_leaves_73 : decode cX10_leaves 73 = .ok (.iconst 3, 1) := by decide +kernel
theorem dX10_leaves_74 : decode cX10_leaves 74 = .ok (.iadd, 1) := by decide +kernel
theorem dX10_leaves_75 : decode cX10_leaves 75 = .ok (.iload 4, 2) := by decide +kernel
theorem dX10_leaves_77 : decode cX10_leaves 77 = .ok (.iadd, 1) := by decide +kernel
theorem dX10_leaves_78 : decode cX10_leaves 78 = .ok (.aload_n 0, 1) := by decide +kernel
theorem dX10_leaves_79 : decode cX10_leaves 79 = .ok (.getfield 9, 3) := by decide +kernel
theorem dX10_leaves_82 : decode cX10_leaves 82 = .ok (.iload_n 2, 1) := by decide +kernel
theorem dX10_leaves_83 : decode cX10_leaves 83 = .ok (.iconst 4, 1) := by decide +kernel
theorem dX10_leaves_84 : decode cX10_leaves 84 = .ok (.iadd, 1) := by decide +kernel
theorem dX10_leaves_85 : decode cX10_leaves 85 = .ok (.iload 4, 2) := by decide +kernel
theorem dX10_leaves_87 : decode cX10_leaves 87 = .ok (.iadd, 1) := by decide +kernel
theorem dX10_leaves_88 : decode cX10_leaves 88 = .ok (.iaload, 1) := by decide +kernel
theorem dX10_leaves_89 : decode cX10_leaves 89 = .ok (.iastore, 1) := by decide +kernel
theorem dX10_leaves_90 : decode cX10_leaves 90 = .ok (.iinc 4 1, 3) := by decide +kernel
theorem dX10_leaves_93 : decode cX10_leaves 93 = .ok (.goto (-38), 3) := by decide +kernel
theorem dX10_leaves_96 : decode cX10_leaves 96 = .ok (.return_, 1) := by decide +kernel
theorem dX10_joins_0 : decode cX10_joins 0 = .ok (.bipush 8, 2) := by decide +kernel
theorem dX10_joins_2 : decode cX10_joins 2 = .ok (.bipush 8, 2) := by decide +kernel
theorem dX10_joins_4 : decode cX10_joins 4 = .ok (.iload_n 2, 1) := by decide +kernel
theorem dX10_joins_5 : decode cX10_joins 5 = .ok (.imul, 1) := by decide +kernel
theorem dX10_joins_6 : decode cX10_joins 6 = .ok (.iadd, 1) := by decide +kernel
theorem dX10_joins_7 : decode cX10_joins 7 = .ok (.istore_n 3, 1) := by decide +kernel
theorem dX10_joins_8 : decode cX10_joins 8 = .ok (.aload_n 0, 1) := by decide +kernel
theorem dX10_joins_9 : decode cX10_joins 9 = .ok (.getfield 9, 3) := by decide +kernel
theorem dX10_joins_12 : decode cX10_joins 12 = .ok (.iload_n 3, 1) := by decide +kernel
theorem dX10_joins_13 : decode cX10_joins 13 = .ok (.iconst 3, 1) := by decide +kernel
theorem dX10_joins_14 : decode cX10_joins 14 = .ok (.iadd, 1) := by decide +kernel
theorem dX10_joins_15 : decode cX10_joins 15 = .ok (.aload_n 0, 1) := by decide +kernel
theorem dX10_joins_16 : decode cX10_joins 16 = .ok (.getfield 9, 3) := by decide +kernel
theorem dX10_joins_19 : decode cX10_joins 19 = .ok (.iload_n 3, 1) := by decide +kernel
theorem dX10_joins_20 : decode cX10_joins 20 = .ok (.iconst 2, 1) := by decide +kernel
theorem dX10_joins_21 : decode cX10_joins 21 = .ok (.iadd, 1) := by decide +kernel
theorem dX10_joins_22 : decode cX10_joins 22 = .ok (.dup2, 1) := by decide +kernel
theorem dX10_joins_23 : decode cX10_joins 23 = .ok (.iaload, 1) := by decide +kernel
theorem dX10_joins_24 : decode cX10_joins 24 = .ok (.dup_x2, 1) := by decide +kernel
theorem dX10_joins_25 : decode cX10_joins 25 = .ok (.iconst 1, 1) := by decide +kernel
theorem dX10_joins_26 : decode cX10_joins 26 = .ok (.iadd, 1) := by decide +kernel
theorem dX10_joins_27 : decode cX10_joins 27 = .ok (.iastore, 1) := by decide +kernel
theorem dX10_joins_28 : decode cX10_joins 28 = .ok (.iadd, 1) := by decide +kernel
theorem dX10_joins_29 : decode cX10_joins 29 = .ok (.aload_n 0, 1) := by decide +kernel
theorem dX10_joins_30 : decode cX10_joins 30 = .ok (.iload_n 1, 1) := by decide +kernel
theorem dX10_joins_31 : decode cX10_joins 31 = .ok (.iconst 0, 1) := by decide +kernel
theorem dX10_joins_32 : decode cX10_joins 32 = .ok (.invokevirtual 65, 3) := by decide +kernel
theorem dX10_joins_35 : decode cX10_joins 35 = .ok (.iastore, 1) := by decide +kernel
theorem dX10_joins_36 : decode cX10_joins 36 = .ok (.aload_n 0, 1) := by decide +kernel
theorem dX10_joins_37 : decode cX10_joins 37 = .ok (.iload_n 1, 1) := by decide +kernel
theorem dX10_joins_38 : decode cX10_joins 38 = .ok (.iconst 1, 1) := by decide +kernel
theorem dX10_joins_39 : decode cX10_joins 39 = .ok (.iload_n 2, 1) := by decide +kernel
theorem dX10_joins_40 : decode cX10_joins 40 = .ok (.invokevirtual 77, 3) := by decide +kernel
theorem dX10_joins_43 : decode cX10_joins 43 = .ok (.return_, 1) := by decide +kernel
theorem dX10_removes_0 : decode cX10_removes 0 = .ok (.aload_n 0, 1) := by decide +kernel
theorem dX10_removes_1 : decode cX10_removes 1 = .ok (.iload_n 1, 1) := by decide +kernel
theorem dX10_removes_2 : decode cX10_removes 2 = .ok (.invokevirtual 81, 3) := by decide +kernel
theorem dX10_removes_5 : decode cX10_removes 5 = .ok (.aload_n 0, 1) := by decide +kernel
theorem dX10_removes_6 : decode cX10_removes 6 = .ok (.getfield 9, 3) := by decide +kernel
theorem dX10_removes_9 : decode cX10_removes 9 = .ok (.iconst 0, 1) := by decide +kernel
theorem dX10_removes_10 : decode cX10_removes 10 = .ok (.dup2, 1) := by decide +kernel
theorem dX10_removes_11 : decode cX10_removes 11 = .ok (.iaload, 1) := by decide +kernel
theorem dX10_removes_12 : decode cX10_removes 12 = .ok (.iconst 1, 1) := by decide +kernel
theorem dX10_removes_13 : decode cX10_removes 13 = .ok (.isub, 1) := by decide +kernel
theorem dX10_removes_14 : decode cX10_removes 14 = .ok (.iastore, 1) := by decide +kernel
theorem dX10_removes_15 : decode cX10_removes 15 = .ok (.bipush 56, 2) := by decide +kernel
theorem dX10_removes_17 : decode cX10_removes 17 = .ok (.iconst 5, 1) := by decide +kernel
theorem dX10_removes_18 : decode cX10_removes 18 = .ok (.iload_n 1, 1) := by decide +kernel
theorem dX10_removes_19 : decode cX10_removes 19 = .ok (.imul, 1) := by decide +kernel
theorem dX10_removes_20 : decode cX10_removes 20 = .ok (.iadd, 1) := by decide +kernel
theorem dX10_removes_21 : decode cX10_removes 21 = .ok (.istore_n 2, 1) := by decide +kernel
theorem dX10_removes_22 : decode cX10_removes 22 = .ok (.iload_n 2, 1) := by decide +kernel
theorem dX10_removes_23 : decode cX10_removes 23 = .ok (.bipush 56, 2) := by decide +kernel
theorem dX10_removes_25 : decode cX10_removes 25 = .ok (.iconst 5, 1) := by decide +kernel
theorem dX10_removes_26 : decode cX10_removes 26 = .ok (.aload_n 0, 1) := by decide +kernel
theorem dX10_removes_27 : decode cX10_removes 27 = .ok (.getfield 9, 3) := by decide +kernel
theorem dX10_removes_30 : decode cX10_removes 30 = .ok (.iconst 0, 1) := by decide +kernel
theorem dX10_removes_31 : decode cX10_removes 31 = .ok (.iaload, 1) := by decide +kernel
theorem dX10_removes_32 : decode cX10_removes 32 = .ok (.imul, 1) := by decide +kernel
theorem dX10_removes_33 : decode cX10_removes 33 = .ok (.iadd, 1) := by decide +kernel
theorem dX10_removes_34 : decode cX10_removes 34 = .ok (.if_icmp .ge 23, 3) := by decide +kernel
theorem dX10_removes_37 : decode cX10_removes 37 = .ok (.aload_n 0, 1) := by decide +kernel
theorem dX10_removes_38 : decode cX10_removes 38 = .ok (.getfield 9, 3) := by decide +kernel
theorem dX10_removes_41 : decode cX10_removes 41 = .ok (.iload_n 2, 1) := by decide +kernel
theorem dX10_removes_42 : decode cX10_removes 42 = .ok (.aload_n 0, 1) := by decide +kernel
theorem dX10_removes_43 : decode cX10_removes 43 = .ok (.getfield 9, 3) := by decide +kernel
theorem dX10_removes_46 : decode cX10_removes 46 = .ok (.iload_n 2, 1) := by decide +kernel
theorem dX10_removes_47 : decode cX10_removes 47 = .ok (.iconst 5, 1) := by decide +kernel
theorem dX10_removes_48 : decode cX10_removes 48 = .ok (.iadd, 1) := by decide +kernel
theorem dX10_removes_49 : decode cX10_removes 49 = .ok (.iaload, 1) := by decide +kernel
theorem dX10_removes_50 : decode cX10_removes 50 = .ok (.iastore, 1) := by decide +kernel
theorem dX10_removes_51 : decode cX10_removes 51 = .ok (.iinc 2 1, 3) := by decide +kernel
theorem dX10_removes_54 : decode cX10_removes 54 = .ok (.goto (-32), 3) := by decide +kernel
theorem dX10_removes_57 : decode cX10_removes 57 = .ok (.return_, 1) := by decide +kernel
theorem dX10_paves_0 : decode cX10_paves 0 = .ok (.iload_n 1, 1) := by decide +kernel
theorem dX10_paves_1 : decode cX10_paves 1 = .ok (.invokestatic 85, 3) := by decide +kernel
theorem dX10_paves_4 : decode cX10_paves 4 = .ok (.ifCond .eq 10, 3) := by decide +kernel
theorem dX10_paves_7 : decode cX10_paves 7 = .ok (.iload_n 2, 1) := by decide +kernel
theorem dX10_paves_8 : decode cX10_paves 8 = .ok (.invokestatic 85, 3) := by decide +kernel
theorem dX10_paves_11 : decode cX10_paves 11 = .ok (.ifCond .ne 5, 3) := by decide +kernel
theorem dX10_paves_14 : decode cX10_paves 14 = .ok (.iconst 1, 1) := by decide +kernel
theorem dX10_paves_15 : decode cX10_paves 15 = .ok (.ireturn, 1) := by decide +kernel
theorem dX10_paves_16 : decode cX10_paves 16 = .ok (.iload_n 1, 1) := by decide +kernel
theorem dX10_paves_17 : decode cX10_paves 17 = .ok (.iload_n 2, 1) := by decide +kernel
theorem dX10_paves_18 : decode cX10_paves 18 = .ok (.if_icmp .ne 5, 3) := by decide +kernel
theorem dX10_paves_21 : decode cX10_paves 21 = .ok (.iconst 2, 1) := by decide +kernel
theorem dX10_paves_22 : decode cX10_paves 22 = .ok (.ireturn, 1) := by decide +kernel
theorem dX10_paves_23 : decode cX10_paves 23 = .ok (.aload_n 0, 1) := by decide +kernel
theorem dX10_paves_24 : decode cX10_paves 24 = .ok (.iload_n 1, 1) := by decide +kernel
theorem dX10_paves_25 : decode cX10_paves 25 = .ok (.iload_n 2, 1) := by decide +kernel
theorem dX10_paves_26 : decode cX10_paves 26 = .ok (.invokevirtual 89, 3) := by decide +kernel
theorem dX10_paves_29 : decode cX10_paves 29 = .ok (.ifCond .eq 13, 3) := by decide +kernel
theorem dX10_paves_32 : decode cX10_paves 32 = .ok (.aload_n 0, 1) := by decide +kernel
theorem dX10_paves_33 : decode cX10_paves 33 = .ok (.iconst 1, 1) := by decide +kernel
theorem dX10_paves_34 : decode cX10_paves 34 = .ok (.aload_n 0, 1) := by decide +kernel
theorem dX10_paves_35 : decode cX10_paves 35 = .ok (.invokevirtual 93, 3) := by decide +kernel
theorem dX10_paves_38 : decode cX10_paves 38 = .ok (.invokevirtual 97, 3) := by decide +kernel
theorem dX10_paves_41 : decode cX10_paves 41 = .ok (.ireturn, 1) := by decide +kernel
theorem dX10_paves_42 : decode cX10_paves 42 = .ok (.aload_n 0, 1) := by decide +kernel
theorem dX10_paves_43 : decode cX10_paves 43 = .ok (.getfield 9, 3) := by decide +kernel
theorem dX10_paves_46 : decode cX10_paves 46 = .ok (.bipush 8, 2) := by decide +kernel
theorem dX10_paves_48 : decode cX10_paves 48 = .ok (.bipush 8, 2) := by decide +kernel
theorem dX10_paves_50 : decode cX10_paves 50 = .ok (.iload_n 1, 1) := by decide +kernel
theorem dX10_paves_51 : decode cX10_paves 51 = .ok (.imul, 1) := by decide +kernel
theorem dX10_paves_52 : decode cX10_paves 52 = .ok (.iadd, 1) := by decide +kernel
theorem dX10_paves_53 : decode cX10_paves 53 = .ok (.iconst 1, 1) := by decide +kernel
theorem dX10_paves_54 : decode cX10_paves 54 = .ok (.iadd, 1) := by decide +kernel
theorem dX10_paves_55 : decode cX10_paves 55 = .ok (.dup2, 1) := by decide +kernel
theorem dX10_paves_56 : decode cX10_paves 56 = .ok (.iaload, 1) := by decide +kernel
theorem dX10_paves_57 : decode cX10_paves 57 = .ok (.iconst 1, 1) := by decide +kernel
theorem dX10_paves_58 : decode cX10_paves 58 = .ok (.iload_n 2, 1) := by decide +kernel
theorem dX10_paves_59 : decode cX10_paves 59 = .ok (.ishl, 1) := by decide +kernel
theorem dX10_paves_60 : decode cX10_paves 60 = .ok (.ior, 1) := by decide +kernel
theorem dX10_paves_61 : decode cX10_paves 61 = .ok (.iastore, 1) := by decide +kernel
theorem dX10_paves_62 : decode cX10_paves 62 = .ok (.aload_n 0, 1) := by decide +kernel
theorem dX10_paves_63 : decode cX10_paves 63 = .ok (.getfield 9, 3) := by decide +kernel
theorem dX10_paves_66 : decode cX10_paves 66 = .ok (.bipush 8, 2) := by decide +kernel
theorem dX10_paves_68 : decode cX10_paves 68 = .ok (.bipush 8, 2) := by decide +kernel
theorem dX10_paves_70 : decode cX10_paves 70 = .ok (.iload_n 2, 1) := by decide +kernel
theorem dX10_paves_71 : decode cX10_paves 71 = .ok (.imul, 1) := by decide +kernel
theorem dX10_paves_72 : decode cX10_paves 72 = .ok (.iadd, 1) := by decide +kernel
theorem dX10_paves_73 : decode cX10_paves 73 = .ok (.iconst 1, 1) := by decide +kernel
theorem dX10_paves_74 : decode cX10_paves 74 = .ok (.iadd, 1) := by decide +kernel
theorem dX10_paves_75 : decode cX10_paves 75 = .ok (.dup2, 1) := by decide +kernel
theorem dX10_paves_76 : decode cX10_paves 76 = .ok (.iaload, 1) := by decide +kernel
theorem dX10_paves_77 : decode cX10_paves 77 = .ok (.iconst 1, 1) := by decide +kernel
theorem dX10_paves_78 : decode cX10_paves 78 = .ok (.iload_n 1, 1) := by decide +kernel
theorem dX10_paves_79 : decode cX10_paves 79 = .ok (.ishl, 1) := by decide +kernel
theorem dX10_paves_80 : decode cX10_paves 80 = .ok (.ior, 1) := by decide +kernel
theorem dX10_paves_81 : decode cX10_paves 81 = .ok (.iastore, 1) := by decide +kernel
theorem dX10_paves_82 : decode cX10_paves 82 = .ok (.aload_n 0, 1) := by decide +kernel
theorem dX10_paves_83 : decode cX10_paves 83 = .ok (.aload_n 0, 1) := by decide +kernel
theorem dX10_paves_84 : decode cX10_paves 84 = .ok (.invokevirtual 93, 3) := by decide +kernel
theorem dX10_paves_87 : decode cX10_paves 87 = .ok (.invokevirtual 100, 3) := by decide +kernel
theorem dX10_paves_90 : decode cX10_paves 90 = .ok (.ireturn, 1) := by decide +kernel
theorem dX10_addPath_0 : decode cX10_addPath 0 = .ok (.aload_n 0, 1) := by decide +kernel
theorem dX10_addPath_1 : decode cX10_addPath 1 = .ok (.invokevirtual 103, 3) := by decide +kernel
theorem dX10_addPath_4 : decode cX10_addPath 4 = .ok (.aload_n 0, 1) := by decide +kernel
theorem dX10_addPath_5 : decode cX10_addPath 5 = .ok (.aload_n 0, 1) := by decide +kernel
theorem dX10_addPath_6 : decode cX10_addPath 6 = .ok (.iload_n 1, 1) := by decide +kernel
theorem dX10_addPath_7 : decode cX10_addPath 7 = .ok (.iload_n 2, 1) := by decide +kernel
theorem dX10_addPath_8 : decode cX10_addPath 8 = .ok (.invokevirtual 106, 3) := by decide +kernel
theorem dX10_addPath_11 : decode cX10_addPath 11 = .ok (.iconst 1, 1) := by decide +kernel
theorem dX10_addPath_12 : decode cX10_addPath 12 = .ok (.iconst 2, 1) := by decide +kernel
theorem dX10_addPath_13 : decode cX10_addPath 13 = .ok (.iconst 3, 1) := by decide +kernel
theorem dX10_addPath_14 : decode cX10_addPath 14 = .ok (.invokevirtual 109, 3) := by decide +kernel
theorem dX10_addPath_17 : decode cX10_addPath 17 = .ok (.ireturn, 1) := by decide +kernel
theorem dX10_digs_0 : decode cX10_digs 0 = .ok (.iload_n 1, 1) := by decide +kernel
theorem dX10_digs_1 : decode cX10_digs 1 = .ok (.invokestatic 85, 3) := by decide +kernel
theorem dX10_digs_4 : decode cX10_digs 4 = .ok (.ifCond .eq 10, 3) := by decide +kernel
theorem dX10_digs_7 : decode cX10_digs 7 = .ok (.iload_n 2, 1) := by decide +kernel
theorem dX10_digs_8 : decode cX10_digs 8 = .ok (.invokestatic 85, 3) := by decide +kernel
theorem dX10_digs_11 : decode cX10_digs 11 = .ok (.ifCond .ne 5, 3) := by decide +kernel
theorem dX10_digs_14 : decode cX10_digs 14 = .ok (.iconst 1, 1) := by decide +kernel
theorem dX10_digs_15 : decode cX10_digs 15 = .ok (.ireturn, 1) := by decide +kernel
theorem dX10_digs_16 : decode cX10_digs 16 = .ok (.iload_n 1, 1) := by decide +kernel
theorem dX10_digs_17 : decode cX10_digs 17 = .ok (.iload_n 2, 1) := by decide +kernel
theorem dX10_digs_18 : decode cX10_digs 18 = .ok (.if_icmp .ne 5, 3) := by decide +kernel
theorem dX10_digs_21 : decode cX10_digs 21 = .ok (.iconst 2, 1) := by decide +kernel
theorem dX10_digs_22 : decode cX10_digs 22 = .ok (.ireturn, 1) := by decide +kernel
theorem dX10_digs_23 : decode cX10_digs 23 = .ok (.aload_n 0, 1) := by decide +kernel
theorem dX10_digs_24 : decode cX10_digs 24 = .ok (.iload_n 1, 1) := by decide +kernel
theorem dX10_digs_25 : decode cX10_digs 25 = .ok (.iload_n 2, 1) := by decide +kernel
theorem dX10_digs_26 : decode cX10_digs 26 = .ok (.invokevirtual 89, 3) := by decide +kernel
theorem dX10_digs_29 : decode cX10_digs 29 = .ok (.ifCond .ne 15, 3) := by decide +kernel
theorem dX10_digs_32 : decode cX10_digs 32 = .ok (.aload_n 0, 1) := by decide +kernel
theorem dX10_digs_33 : decode cX10_digs 33 = .ok (.iconst 2, 1) := by decide +kernel
theorem dX10_digs_34 : decode cX10_digs 34 = .ok (.aload_n 0, 1) := by decide +kernel
theorem dX10_digs_35 : decode cX10_digs 35 = .ok (.iload_n 1, 1) := by decide +kernel
theorem dX10_digs_36 : decode cX10_digs 36 = .ok (.iload_n 2, 1) := by decide +kernel
theorem dX10_digs_37 : decode cX10_digs 37 = .ok (.invokevirtual 113, 3) := by decide +kernel
theorem dX10_digs_40 : decode cX10_digs 40 = .ok (.invokevirtual 97, 3) := by decide +kernel
theorem dX10_digs_43 : decode cX10_digs 43 = .ok (.ireturn, 1) := by decide +kernel
theorem dX10_digs_44 : decode cX10_digs 44 = .ok (.aload_n 0, 1) := by decide +kernel
theorem dX10_digs_45 : decode cX10_digs 45 = .ok (.getfield 9, 3) := by decide +kernel
theorem dX10_digs_48 : decode cX10_digs 48 = .ok (.bipush 8, 2) := by decide +kernel
theorem dX10_digs_50 : decode cX10_digs 50 = .ok (.bipush 8, 2) := by decide +kernel
theorem dX10_digs_52 : decode cX10_digs 52 = .ok (.iload_n 1, 1) := by decide +kernel
theorem dX10_digs_53 : decode cX10_digs 53 = .ok (.imul, 1) := by decide +kernel
theorem dX10_digs_54 : decode cX10_digs 54 = .ok (.iadd, 1) := by decide +kernel
theorem dX10_digs_55 : decode cX10_digs 55 = .ok (.iconst 1, 1) := by decide +kernel
theorem dX10_digs_56 : decode cX10_digs 56 = .ok (.iadd, 1) := by decide +kernel
theorem dX10_digs_57 : decode cX10_digs 57 = .ok (.dup2, 1) := by decide +kernel
theorem dX10_digs_58 : decode cX10_digs 58 = .ok (.iaload, 1) := by decide +kernel
theorem dX10_digs_59 : decode cX10_digs 59 = .ok (.iconst 1, 1) := by decide +kernel
theorem dX10_digs_60 : decode cX10_digs 60 = .ok (.iload_n 2, 1) := by decide +kernel
theorem dX10_digs_61 : decode cX10_digs 61 = .ok (.ishl, 1) := by decide +kernel
theorem dX10_digs_62 : decode cX10_digs 62 = .ok (.ixor, 1) := by decide +kernel
theorem dX10_digs_63 : decode cX10_digs 63 = .ok (.iastore, 1) := by decide +kernel
theorem dX10_digs_64 : decode cX10_digs 64 = .ok (.aload_n 0, 1) := by decide +kernel
theorem dX10_digs_65 : decode cX10_digs 65 = .ok (.getfield 9, 3) := by decide +kernel
theorem dX10_digs_68 : decode cX10_digs 68 = .ok (.bipush 8, 2) := by decide +kernel
theorem dX10_digs_70 : decode cX10_digs 70 = .ok (.bipush 8, 2) := by decide +kernel
theorem dX10_digs_72 : decode cX10_digs 72 = .ok (.iload_n 2, 1) := by decide +kernel
theorem dX10_digs_73 : decode cX10_digs 73 = .ok (.imul, 1) := by decide +kernel
theorem dX10_digs_74 : decode cX10_digs 74 = .ok (.iadd, 1) := by decide +kernel
theorem dX10_digs_75 : decode cX10_digs 75 = .ok (.iconst 1, 1) := by decide +kernel
theorem dX10_digs_76 : decode cX10_digs 76 = .ok (.iadd, 1) := by decide +kernel
theorem dX10_digs_77 : decode cX10_digs 77 = .ok (.dup2, 1) := by decide +kernel
theorem dX10_digs_78 : decode cX10_digs 78 = .ok (.iaload, 1) := by decide +kernel
theorem dX10_digs_79 : decode cX10_digs 79 = .ok (.iconst 1, 1) := by decide +kernel
theorem dX10_digs_80 : decode cX10_digs 80 = .ok (.iload_n 1, 1) := by decide +kernel
theorem dX10_digs_81 : decode cX10_digs 81 = .ok (.ishl, 1) := by decide +kernel
theorem dX10_digs_82 : decode cX10_digs 82 = .ok (.ixor, 1) := by decide +kernel
theorem dX10_digs_83 : decode cX10_digs 83 = .ok (.iastore, 1) := by decide +kernel
theorem dX10_digs_84 : decode cX10_digs 84 = .ok (.aload_n 0, 1) := by decide +kernel
theorem dX10_digs_85 : decode cX10_digs 85 = .ok (.aload_n 0, 1) := by decide +kernel
theorem dX10_digs_86 : decode cX10_digs 86 = .ok (.invokevirtual 93, 3) := by decide +kernel
theorem dX10_digs_89 : decode cX10_digs 89 = .ok (.invokevirtual 100, 3) := by decide +kernel
theorem dX10_digs_92 : decode cX10_digs 92 = .ok (.ireturn, 1) := by decide +kernel
theorem dX10_removePath_0 : decode cX10_removePath 0 = .ok (.aload_n 0, 1) := by decide +kernel
theorem dX10_removePath_1 : decode cX10_removePath 1 = .ok (.invokevirtual 103, 3) := by decide +kernel
theorem dX10_removePath_4 : decode cX10_removePath 4 = .ok (.aload_n 0, 1) := by decide +kernel
theorem dX10_removePath_5 : decode cX10_removePath 5 = .ok (.aload_n 0, 1) := by decide +kernel
theorem dX10_removePath_6 : decode cX10_removePath 6 = .ok (.iload_n 1, 1) := by decide +kernel
theorem dX10_removePath_7 : decode cX10_removePath 7 = .ok (.iload_n 2, 1) := by decide +kernel
theorem dX10_removePath_8 : decode cX10_removePath 8 = .ok (.invokevirtual 116, 3) := by decide +kernel
theorem dX10_removePath_11 : decode cX10_removePath 11 = .ok (.iconst 1, 1) := by decide +kernel
theorem dX10_removePath_12 : decode cX10_removePath 12 = .ok (.iconst 2, 1) := by decide +kernel
theorem dX10_removePath_13 : decode cX10_removePath 13 = .ok (.iconst 3, 1) := by decide +kernel
theorem dX10_removePath_14 : decode cX10_removePath 14 = .ok (.invokevirtual 109, 3) := by decide +kernel
theorem dX10_removePath_17 : decode cX10_removePath 17 = .ok (.ireturn, 1) := by decide +kernel
theorem dX10_shades_0 : decode cX10_shades 0 = .ok (.iload_n 1, 1) := by decide +kernel
theorem dX10_shades_1 : decode cX10_shades 1 = .ok (.invokestatic 85, 3) := by decide +kernel
theorem dX10_shades_4 : decode cX10_shades 4 = .ok (.ifCond .ne 5, 3) := by decide +kernel
theorem dX10_shades_7 : decode cX10_shades 7 = .ok (.iconst 1, 1) := by decide +kernel
theorem dX10_shades_8 : decode cX10_shades 8 = .ok (.ireturn, 1) := by decide +kernel
theorem dX10_shades_9 : decode cX10_shades 9 = .ok (.iload_n 2, 1) := by decide +kernel
theorem dX10_shades_10 : decode cX10_shades 10 = .ok (.iconst 0, 1) := by decide +kernel
theorem dX10_shades_11 : decode cX10_shades 11 = .ok (.bipush 20, 2) := by decide +kernel
theorem dX10_shades_13 : decode cX10_shades 13 = .ok (.invokestatic 61, 3) := by decide +kernel
theorem dX10_shades_16 : decode cX10_shades 16 = .ok (.ifCond .ne 5, 3) := by decide +kernel
theorem dX10_shades_19 : decode cX10_shades 19 = .ok (.iconst 2, 1) := by decide +kernel
theorem dX10_shades_20 : decode cX10_shades 20 = .ok (.ireturn, 1) := by decide +kernel
theorem dX10_shades_21 : decode cX10_shades 21 = .ok (.aload_n 0, 1) := by decide +kernel
theorem dX10_shades_22 : decode cX10_shades 22 = .ok (.iload_n 1, 1) := by decide +kernel
theorem dX10_shades_23 : decode cX10_shades 23 = .ok (.iconst 0, 1) := by decide +kernel
theorem dX10_shades_24 : decode cX10_shades 24 = .ok (.invokevirtual 69, 3) := by decide +kernel
theorem dX10_shades_27 : decode cX10_shades 27 = .ok (.istore_n 3, 1) := by decide +kernel
theorem dX10_shades_28 : decode cX10_shades 28 = .ok (.aload_n 0, 1) := by decide +kernel
theorem dX10_shades_29 : decode cX10_shades 29 = .ok (.getfield 9, 3) := by decide +kernel
theorem dX10_shades_32 : decode cX10_shades 32 = .ok (.bipush 8, 2) := by decide +kernel
theorem dX10_shades_34 : decode cX10_shades 34 = .ok (.bipush 8, 2) := by decide +kernel
theorem dX10_shades_36 : decode cX10_shades 36 = .ok (.iload_n 1, 1) := by decide +kernel
theorem dX10_shades_37 : decode cX10_shades 37 = .ok (.imul, 1) := by decide +kernel
theorem dX10_shades_38 : decode cX10_shades 38 = .ok (.iadd, 1) := by decide +kernel
theorem dX10_shades_39 : decode cX10_shades 39 = .ok (.iload_n 2, 1) := by decide +kernel
theorem dX10_shades_40 : decode cX10_shades 40 = .ok (.iastore, 1) := by decide +kernel
theorem dX10_shades_41 : decode cX10_shades 41 = .ok (.aload_n 0, 1) := by decide +kernel
theorem dX10_shades_42 : decode cX10_shades 42 = .ok (.iload_n 3, 1) := by decide +kernel
theorem dX10_shades_43 : decode cX10_shades 43 = .ok (.invokevirtual 100, 3) := by decide +kernel
theorem dX10_shades_46 : decode cX10_shades 46 = .ok (.ireturn, 1) := by decide +kernel
theorem dX10_setShade_0 : decode cX10_setShade 0 = .ok (.aload_n 0, 1) := by decide +kernel
theorem dX10_setShade_1 : decode cX10_setShade 1 = .ok (.invokevirtual 103, 3) := by decide +kernel
theorem dX10_setShade_4 : decode cX10_setShade 4 = .ok (.aload_n 0, 1) := by decide +kernel
theorem dX10_setShade_5 : decode cX10_setShade 5 = .ok (.aload_n 0, 1) := by decide +kernel
theorem dX10_setShade_6 : decode cX10_setShade 6 = .ok (.iload_n 1, 1) := by decide +kernel
theorem dX10_setShade_7 : decode cX10_setShade 7 = .ok (.iload_n 2, 1) := by decide +kernel
theorem dX10_setShade_8 : decode cX10_setShade 8 = .ok (.invokevirtual 119, 3) := by decide +kernel
theorem dX10_setShade_11 : decode cX10_setShade 11 = .ok (.iconst 1, 1) := by decide +kernel
theorem dX10_setShade_12 : decode cX10_setShade 12 = .ok (.iconst 2, 1) := by decide +kernel
theorem dX10_setShade_13 : decode cX10_setShade 13 = .ok (.iconst 0, 1) := by decide +kernel
theorem dX10_setShade_14 : decode cX10_setShade 14 = .ok (.invokevirtual 109, 3) := by decide +kernel
theorem dX10_setShade_17 : decode cX10_setShade 17 = .ok (.ireturn, 1) := by decide +kernel
theorem dX10_comes_0 : decode cX10_comes 0 = .ok (.iload_n 1, 1) := by decide +kernel
theorem dX10_comes_1 : decode cX10_comes 1 = .ok (.invokestatic 85, 3) := by decide +kernel
theorem dX10_comes_4 : decode cX10_comes 4 = .ok (.ifCond .ne 5, 3) := by decide +kernel
theorem dX10_comes_7 : decode cX10_comes 7 = .ok (.iconst 1, 1) := by decide +kernel
theorem dX10_comes_8 : decode cX10_comes 8 = .ok (.ireturn, 1) := by decide +kernel
theorem dX10_comes_9 : decode cX10_comes 9 = .ok (.iload_n 2, 1) := by decide +kernel
theorem dX10_comes_10 : decode cX10_comes 10 = .ok (.iconst 0, 1) := by decide +kernel
theorem dX10_comes_11 : decode cX10_comes 11 = .ok (.bipush 9, 2) := by decide +kernel
theorem dX10_comes_13 : decode cX10_comes 13 = .ok (.invokestatic 61, 3) := by decide +kernel
theorem dX10_comes_16 : decode cX10_comes 16 = .ok (.ifCond .ne 5, 3) := by decide +kernel
theorem dX10_comes_19 : decode cX10_comes 19 = .ok (.iconst 2, 1) := by decide +kernel
theorem dX10_comes_20 : decode cX10_comes 20 = .ok (.ireturn, 1) := by decide +kernel
theorem dX10_comes_21 : decode cX10_comes 21 = .ok (.aload_n 0, 1) := by decide +kernel
theorem dX10_comes_22 : decode cX10_comes 22 = .ok (.getfield 9, 3) := by decide +kernel
theorem dX10_comes_25 : decode cX10_comes 25 = .ok (.iconst 0, 1) := by decide +kernel
theorem dX10_comes_26 : decode cX10_comes 26 = .ok (.iaload, 1) := by decide +kernel
theorem dX10_comes_27 : decode cX10_comes 27 = .ok (.bipush 12, 2) := by decide +kernel
theorem dX10_comes_29 : decode cX10_comes 29 = .ok (.if_icmp .ne 11, 3) := by decide +kernel
theorem dX10_comes_32 : decode cX10_comes 32 = .ok (.aload_n 0, 1) := by decide +kernel
theorem dX10_comes_33 : decode cX10_comes 33 = .ok (.iconst 3, 1) := by decide +kernel
theorem dX10_comes_34 : decode cX10_comes 34 = .ok (.bipush 12, 2) := by decide +kernel
theorem dX10_comes_36 : decode cX10_comes 36 = .ok (.invokevirtual 97, 3) := by decide +kernel
theorem dX10_comes_39 : decode cX10_comes 39 = .ok (.ireturn, 1) := by decide +kernel
theorem dX10_comes_40 : decode cX10_comes 40 = .ok (.aload_n 0, 1) := by decide +kernel
theorem dX10_comes_41 : decode cX10_comes 41 = .ok (.iload_n 1, 1) := by decide +kernel
theorem dX10_comes_42 : decode cX10_comes 42 = .ok (.iconst 2, 1) := by decide +kernel
theorem dX10_comes_43 : decode cX10_comes 43 = .ok (.invokevirtual 69, 3) := by decide +kernel
theorem dX10_comes_46 : decode cX10_comes 46 = .ok (.iconst 5, 1) := by decide +kernel
theorem dX10_comes_47 : decode cX10_comes 47 = .ok (.if_icmp .ne 10, 3) := by decide +kernel
theorem dX10_comes_50 : decode cX10_comes 50 = .ok (.aload_n 0, 1) := by decide +kernel
theorem dX10_comes_51 : decode cX10_comes 51 = .ok (.iconst 4, 1) := by decide +kernel
theorem dX10_comes_52 : decode cX10_comes 52 = .ok (.iload_n 1, 1) := by decide +kernel
theorem dX10_comes_53 : decode cX10_comes 53 = .ok (.invokevirtual 97, 3) := by decide +kernel
theorem dX10_comes_56 : decode cX10_comes 56 = .ok (.ireturn, 1) := by decide +kernel
theorem dX10_comes_57 : decode cX10_comes 57 = .ok (.aload_n 0, 1) := by decide +kernel
theorem dX10_comes_58 : decode cX10_comes 58 = .ok (.getfield 9, 3) := by decide +kernel
theorem dX10_comes_61 : decode cX10_comes 61 = .ok (.iconst 0, 1) := by decide +kernel
theorem dX10_comes_62 : decode cX10_comes 62 = .ok (.dup2, 1) := by decide +kernel
theorem dX10_comes_63 : decode cX10_comes 63 = .ok (.iaload, 1) := by decide +kernel
theorem dX10_comes_64 : decode cX10_comes 64 = .ok (.dup_x2, 1) := by decide +kernel
theorem dX10_comes_65 : decode cX10_comes 65 = .ok (.iconst 1, 1) := by decide +kernel
theorem dX10_comes_66 : decode cX10_comes 66 = .ok (.iadd, 1) := by decide +kernel
theorem dX10_comes_67 : decode cX10_comes 67 = .ok (.iastore, 1) := by decide +kernel
theorem dX10_comes_68 : decode cX10_comes 68 = .ok (.istore_n 3, 1) := by decide +kernel
theorem dX10_comes_69 : decode cX10_comes 69 = .ok (.aload_n 0, 1) := by decide +kernel
theorem dX10_comes_70 : decode cX10_comes 70 = .ok (.iload_n 3, 1) := by decide +kernel
theorem dX10_comes_71 : decode cX10_comes 71 = .ok (.iconst 0, 1) := by decide +kernel
theorem dX10_comes_72 : decode cX10_comes 72 = .ok (.aload_n 0, 1) := by decide +kernel
theorem dX10_comes_73 : decode cX10_comes 73 = .ok (.getfield 9, 3) := by decide +kernel
theorem dX10_comes_76 : decode cX10_comes 76 = .ok (.iconst 1, 1) := by decide +kernel
theorem dX10_comes_77 : decode cX10_comes 77 = .ok (.dup2, 1) := by decide +kernel
theorem dX10_comes_78 : decode cX10_comes 78 = .ok (.iaload, 1) := by decide +kernel
theorem dX10_comes_79 : decode cX10_comes 79 = .ok (.dup_x2, 1) := by decide +kernel
theorem dX10_comes_80 : decode cX10_comes 80 = .ok (.iconst 1, 1) := by decide +kernel
theorem dX10_comes_81 : decode cX10_comes 81 = .ok (.iadd, 1) := by decide +kernel
theorem dX10_comes_82 : decode cX10_comes 82 = .ok (.iastore, 1) := by decide +kernel
theorem dX10_comes_83 : decode cX10_comes 83 = .ok (.invokevirtual 77, 3) := by decide +kernel
theorem dX10_comes_86 : decode cX10_comes 86 = .ok (.aload_n 0, 1) := by decide +kernel
theorem dX10_comes_87 : decode cX10_comes 87 = .ok (.iload_n 3, 1) := by decide +kernel
theorem dX10_comes_88 : decode cX10_comes 88 = .ok (.iconst 2, 1) := by decide +kernel
theorem dX10_comes_89 : decode cX10_comes 89 = .ok (.iload_n 2, 1) := by decide +kernel
theorem dX10_comes_90 : decode cX10_comes 90 = .ok (.invokevirtual 77, 3) := by decide +kernel
theorem dX10_comes_93 : decode cX10_comes 93 = .ok (.aload_n 0, 1) := by decide +kernel
theorem dX10_comes_94 : decode cX10_comes 94 = .ok (.iload_n 3, 1) := by decide +kernel
theorem dX10_comes_95 : decode cX10_comes 95 = .ok (.iconst 3, 1) := by decide +kernel
theorem dX10_comes_96 : decode cX10_comes 96 = .ok (.iconst 0, 1) := by decide +kernel
theorem dX10_comes_97 : decode cX10_comes 97 = .ok (.invokevirtual 77, 3) := by decide +kernel
theorem dX10_comes_100 : decode cX10_comes 100 = .ok (.aload_n 0, 1) := by decide +kernel
theorem dX10_comes_101 : decode cX10_comes 101 = .ok (.iload_n 3, 1) := by decide +kernel
theorem dX10_comes_102 : decode cX10_comes 102 = .ok (.iconst 4, 1) := by decide +kernel
theorem dX10_comes_103 : decode cX10_comes 103 = .ok (.aload_n 0, 1) := by decide +kernel
theorem dX10_comes_104 : decode cX10_comes 104 = .ok (.getfield 9, 3) := by decide +kernel
theorem dX10_comes_107 : decode cX10_comes 107 = .ok (.iconst 2, 1) := by decide +kernel
theorem dX10_comes_108 : decode cX10_comes 108 = .ok (.iaload, 1) := by decide +kernel
theorem dX10_comes_109 : decode cX10_comes 109 = .ok (.invokevirtual 77, 3) := by decide +kernel
theorem dX10_comes_112 : decode cX10_comes 112 = .ok (.aload_n 0, 1) := by decide +kernel
theorem dX10_comes_113 : decode cX10_comes 113 = .ok (.iload_n 3, 1) := by decide +kernel
theorem dX10_comes_114 : decode cX10_comes 114 = .ok (.iload_n 1, 1) := by decide +kernel
theorem dX10_comes_115 : decode cX10_comes 115 = .ok (.invokevirtual 122, 3) := by decide +kernel
theorem dX10_comes_118 : decode cX10_comes 118 = .ok (.aload_n 0, 1) := by decide +kernel
theorem dX10_comes_119 : decode cX10_comes 119 = .ok (.aload_n 0, 1) := by decide +kernel
theorem dX10_comes_120 : decode cX10_comes 120 = .ok (.iload_n 3, 1) := by decide +kernel
theorem dX10_comes_121 : decode cX10_comes 121 = .ok (.iconst 0, 1) := by decide +kernel
theorem dX10_comes_122 : decode cX10_comes 122 = .ok (.invokevirtual 65, 3) := by decide +kernel
theorem dX10_comes_125 : decode cX10_comes 125 = .ok (.invokevirtual 100, 3) := by decide +kernel
theorem dX10_comes_128 : decode cX10_comes 128 = .ok (.ireturn, 1) := by decide +kernel
theorem dX10_addChair_0 : decode cX10_addChair 0 = .ok (.aload_n 0, 1) := by decide +kernel
theorem dX10_addChair_1 : decode cX10_addChair 1 = .ok (.invokevirtual 103, 3) := by decide +kernel
theorem dX10_addChair_4 : decode cX10_addChair 4 = .ok (.aload_n 0, 1) := by decide +kernel
theorem dX10_addChair_5 : decode cX10_addChair 5 = .ok (.aload_n 0, 1) := by decide +kernel
theorem dX10_addChair_6 : decode cX10_addChair 6 = .ok (.iload_n 1, 1) := by decide +kernel
theorem dX10_addChair_7 : decode cX10_addChair 7 = .ok (.iload_n 2, 1) := by decide +kernel
theorem dX10_addChair_8 : decode cX10_addChair 8 = .ok (.invokevirtual 126, 3) := by decide +kernel
theorem dX10_addChair_11 : decode cX10_addChair 11 = .ok (.iconst 1, 1) := by decide +kernel
theorem dX10_addChair_12 : decode cX10_addChair 12 = .ok (.iconst 2, 1) := by decide +kernel
theorem dX10_addChair_13 : decode cX10_addChair 13 = .ok (.iconst 3, 1) := by decide +kernel
theorem dX10_addChair_14 : decode cX10_addChair 14 = .ok (.invokevirtual 109, 3) := by decide +kernel
theorem dX10_addChair_17 : decode cX10_addChair 17 = .ok (.ireturn, 1) := by decide +kernel
theorem dX10_scraps_0 : decode cX10_scraps 0 = .ok (.aload_n 0, 1) := by decide +kernel
theorem dX10_scraps_1 : decode cX10_scraps 1 = .ok (.iload_n 1, 1) := by decide +kernel
theorem dX10_scraps_2 : decode cX10_scraps 2 = .ok (.invokevirtual 129, 3) := by decide +kernel
theorem dX10_scraps_5 : decode cX10_scraps 5 = .ok (.istore_n 2, 1) := by decide +kernel
theorem dX10_scraps_6 : decode cX10_scraps 6 = .ok (.iload_n 2, 1) := by decide +kernel
theorem dX10_scraps_7 : decode cX10_scraps 7 = .ok (.ifCond .ge 5, 3) := by decide +kernel
theorem dX10_scraps_10 : decode cX10_scraps 10 = .ok (.iconst 1, 1) := by decide +kernel
theorem dX10_scraps_11 : decode cX10_scraps 11 = .ok (.ireturn, 1) := by decide +kernel
theorem dX10_scraps_12 : decode cX10_scraps 12 = .ok (.aload_n 0, 1) := by decide +kernel
theorem dX10_scraps_13 : decode cX10_scraps 13 = .ok (.iload_n 2, 1) := by decide +kernel
theorem dX10_scraps_14 : decode cX10_scraps 14 = .ok (.iconst 2, 1) := by decide +kernel
theorem dX10_scraps_15 : decode cX10_scraps 15 = .ok (.invokevirtual 65, 3) := by decide +kernel
theorem dX10_scraps_18 : decode cX10_scraps 18 = .ok (.istore_n 3, 1) := by decide +kernel
theorem dX10_scraps_19 : decode cX10_scraps 19 = .ok (.aload_n 0, 1) := by decide +kernel
theorem dX10_scraps_20 : decode cX10_scraps 20 = .ok (.iload_n 2, 1) := by decide +kernel
theorem dX10_scraps_21 : decode cX10_scraps 21 = .ok (.invokevirtual 132, 3) := by decide +kernel
theorem dX10_scraps_24 : decode cX10_scraps 24 = .ok (.aload_n 0, 1) := by decide +kernel
theorem dX10_scraps_25 : decode cX10_scraps 25 = .ok (.getfield 9, 3) := by decide +kernel
theorem dX10_scraps_28 : decode cX10_scraps 28 = .ok (.iconst 5, 1) := by decide +kernel
theorem dX10_scraps_29 : decode cX10_scraps 29 = .ok (.dup2, 1) := by decide +kernel
theorem dX10_scraps_30 : decode cX10_scraps 30 = .ok (.iaload, 1) := by decide +kernel
theorem dX10_scraps_31 : decode cX10_scraps 31 = .ok (.iconst 1, 1) := by decide +kernel
theorem dX10_scraps_32 : decode cX10_scraps 32 = .ok (.iadd, 1) := by decide +kernel
theorem dX10_scraps_33 : decode cX10_scraps 33 = .ok (.iastore, 1) := by decide +kernel
theorem dX10_scraps_34 : decode cX10_scraps 34 = .ok (.aload_n 0, 1) := by decide +kernel
theorem dX10_scraps_35 : decode cX10_scraps 35 = .ok (.iload_n 3, 1) := by decide +kernel
theorem dX10_scraps_36 : decode cX10_scraps 36 = .ok (.invokevirtual 100, 3) := by decide +kernel
theorem dX10_scraps_39 : decode cX10_scraps 39 = .ok (.ireturn, 1) := by decide +kernel
theorem dX10_scrapChair_0 : decode cX10_scrapChair 0 = .ok (.aload_n 0, 1) := by decide +kernel
theorem dX10_scrapChair_1 : decode cX10_scrapChair 1 = .ok (.invokevirtual 103, 3) := by decide +kernel
theorem dX10_scrapChair_4 : decode cX10_scrapChair 4 = .ok (.aload_n 0, 1) := by decide +kernel
theorem dX10_scrapChair_5 : decode cX10_scrapChair 5 = .ok (.aload_n 0, 1) := by decide +kernel
theorem dX10_scrapChair_6 : decode cX10_scrapChair 6 = .ok (.iload_n 1, 1) := by decide +kernel
theorem dX10_scrapChair_7 : decode cX10_scrapChair 7 = .ok (.invokevirtual 135, 3) := by decide +kernel
theorem dX10_scrapChair_10 : decode cX10_scrapChair 10 = .ok (.iconst 1, 1) := by decide +kernel
theorem dX10_scrapChair_11 : decode cX10_scrapChair 11 = .ok (.iconst 0, 1) := by decide +kernel
theorem dX10_scrapChair_12 : decode cX10_scrapChair 12 = .ok (.iconst 0, 1) := by decide +kernel
theorem dX10_scrapChair_13 : decode cX10_scrapChair 13 = .ok (.invokevirtual 109, 3) := by decide +kernel
theorem dX10_scrapChair_16 : decode cX10_scrapChair 16 = .ok (.ireturn, 1) := by decide +kernel
theorem dX10_folds_0 : decode cX10_folds 0 = .ok (.aload_n 0, 1) := by decide +kernel
theorem dX10_folds_1 : decode cX10_folds 1 = .ok (.iload_n 1, 1) := by decide +kernel
theorem dX10_folds_2 : decode cX10_folds 2 = .ok (.invokevirtual 129, 3) := by decide +kernel
theorem dX10_folds_5 : decode cX10_folds 5 = .ok (.istore_n 3, 1) := by decide +kernel
theorem dX10_folds_6 : decode cX10_folds 6 = .ok (.iload_n 3, 1) := by decide +kernel
theorem dX10_folds_7 : decode cX10_folds 7 = .ok (.ifCond .ge 5, 3) := by decide +kernel
theorem dX10_folds_10 : decode cX10_folds 10 = .ok (.iconst 1, 1) := by decide +kernel
theorem dX10_folds_11 : decode cX10_folds 11 = .ok (.ireturn, 1) := by decide +kernel
theorem dX10_folds_12 : decode cX10_folds 12 = .ok (.aload_n 0, 1) := by decide +kernel
theorem dX10_folds_13 : decode cX10_folds 13 = .ok (.iload_n 3, 1) := by decide +kernel
theorem dX10_folds_14 : decode cX10_folds 14 = .ok (.iconst 3, 1) := by decide +kernel
theorem dX10_folds_15 : decode cX10_folds 15 = .ok (.invokevirtual 65, 3) := by decide +kernel
theorem dX10_folds_18 : decode cX10_folds 18 = .ok (.iload_n 2, 1) := by decide +kernel
theorem dX10_folds_19 : decode cX10_folds 19 = .ok (.if_icmp .ne 20, 3) := by decide +kernel
theorem dX10_folds_22 : decode cX10_folds 22 = .ok (.aload_n 0, 1) := by decide +kernel
theorem dX10_folds_23 : decode cX10_folds 23 = .ok (.iload_n 2, 1) := by decide +kernel
theorem dX10_folds_24 : decode cX10_folds 24 = .ok (.iconst 1, 1) := by decide +kernel
theorem dX10_folds_25 : decode cX10_folds 25 = .ok (.if_icmp .ne 7, 3) := by decide +kernel
theorem dX10_folds_28 : decode cX10_folds 28 = .ok (.iconst 5, 1) := by decide +kernel
theorem dX10_folds_29 : decode cX10_folds 29 = .ok (.goto 5, 3) := by decide +kernel
theorem dX10_folds_32 : decode cX10_folds 32 = .ok (.bipush 6, 2) := by decide +kernel
theorem dX10_folds_34 : decode cX10_folds 34 = .ok (.iload_n 1, 1) := by decide +kernel
theorem dX10_folds_35 : decode cX10_folds 35 = .ok (.invokevirtual 97, 3) := by decide +kernel
theorem dX10_folds_38 : decode cX10_folds 38 = .ok (.ireturn, 1) := by decide +kernel
theorem dX10_folds_39 : decode cX10_folds 39 = .ok (.aload_n 0, 1) := by decide +kernel
theorem dX10_folds_40 : decode cX10_folds 40 = .ok (.iload_n 3, 1) := by decide +kernel
theorem dX10_folds_41 : decode cX10_folds 41 = .ok (.iconst 3, 1) := by decide +kernel
theorem dX10_folds_42 : decode cX10_folds 42 = .ok (.iload_n 2, 1) := by decide +kernel
theorem dX10_folds_43 : decode cX10_folds 43 = .ok (.invokevirtual 77, 3) := by decide +kernel
theorem dX10_folds_46 : decode cX10_folds 46 = .ok (.aload_n 0, 1) := by decide +kernel
theorem dX10_folds_47 : decode cX10_folds 47 = .ok (.aload_n 0, 1) := by decide +kernel
theorem dX10_folds_48 : decode cX10_folds 48 = .ok (.invokevirtual 138, 3) := by decide +kernel
theorem dX10_folds_51 : decode cX10_folds 51 = .ok (.invokevirtual 100, 3) := by decide +kernel
theorem dX10_folds_54 : decode cX10_folds 54 = .ok (.ireturn, 1) := by decide +kernel
theorem dX10_fold_0 : decode cX10_fold 0 = .ok (.aload_n 0, 1) := by decide +kernel
theorem dX10_fold_1 : decode cX10_fold 1 = .ok (.invokevirtual 103, 3) := by decide +kernel
theorem dX10_fold_4 : decode cX10_fold 4 = .ok (.aload_n 0, 1) := by decide +kernel
theorem dX10_fold_5 : decode cX10_fold 5 = .ok (.aload_n 0, 1) := by decide +kernel
theorem dX10_fold_6 : decode cX10_fold 6 = .ok (.iload_n 1, 1) := by decide +kernel
theorem dX10_fold_7 : decode cX10_fold 7 = .ok (.iconst 1, 1) := by decide +kernel
theorem dX10_fold_8 : decode cX10_fold 8 = .ok (.invokevirtual 141, 3) := by decide +kernel
theorem dX10_fold_11 : decode cX10_fold 11 = .ok (.iconst 1, 1) := by decide +kernel
theorem dX10_fold_12 : decode cX10_fold 12 = .ok (.iconst 0, 1) := by decide +kernel
theorem dX10_fold_13 : decode cX10_fold 13 = .ok (.iconst 2, 1) := by decide +kernel
theorem dX10_fold_14 : decode cX10_fold 14 = .ok (.invokevirtual 109, 3) := by decide +kernel
theorem dX10_fold_17 : decode cX10_fold 17 = .ok (.ireturn, 1) := by decide +kernel
theorem dX10_unfold_0 : decode cX10_unfold 0 = .ok (.aload_n 0, 1) := by decide +kernel
theorem dX10_unfold_1 : decode cX10_unfold 1 = .ok (.invokevirtual 103, 3) := by decide +kernel
theorem dX10_unfold_4 : decode cX10_unfold 4 = .ok (.aload_n 0, 1) := by decide +kernel
theorem dX10_unfold_5 : decode cX10_unfold 5 = .ok (.aload_n 0, 1) := by decide +kernel
theorem dX10_unfold_6 : decode cX10_unfold 6 = .ok (.iload_n 1, 1) := by decide +kernel
theorem dX10_unfold_7 : decode cX10_unfold 7 = .ok (.iconst 0, 1) := by decide +kernel
theorem dX10_unfold_8 : decode cX10_unfold 8 = .ok (.invokevirtual 141, 3) := by decide +kernel
theorem dX10_unfold_11 : decode cX10_unfold 11 = .ok (.iconst 1, 1) := by decide +kernel
theorem dX10_unfold_12 : decode cX10_unfold 12 = .ok (.iconst 0, 1) := by decide +kernel
theorem dX10_unfold_13 : decode cX10_unfold 13 = .ok (.iconst 2, 1) := by decide +kernel
theorem dX10_unfold_14 : decode cX10_unfold 14 = .ok (.invokevirtual 109, 3) := by decide +kernel
theorem dX10_unfold_17 : decode cX10_unfold 17 = .ok (.ireturn, 1) := by decide +kernel
theorem dX10_moves_0 : decode cX10_moves 0 = .ok (.aload_n 0, 1) := by decide +kernel
theorem dX10_moves_1 : decode cX10_moves 1 = .ok (.iload_n 1, 1) := by decide +kernel
theorem dX10_moves_2 : decode cX10_moves 2 = .ok (.invokevirtual 129, 3) := by decide +kernel
theorem dX10_moves_5 : decode cX10_moves 5 = .ok (.istore_n 3, 1) := by decide +kernel
theorem dX10_moves_6 : decode cX10_moves 6 = .ok (.iload_n 3, 1) := by decide +kernel
theorem dX10_moves_7 : decode cX10_moves 7 = .ok (.ifCond .lt 10, 3) := by decide +kernel
theorem dX10_moves_10 : decode cX10_moves 10 = .ok (.iload_n 2, 1) := by decide +kernel
theorem dX10_moves_11 : decode cX10_moves 11 = .ok (.invokestatic 85, 3) := by decide +kernel
theorem dX10_moves_14 : decode cX10_moves 14 = .ok (.ifCond .ne 5, 3) := by decide +kernel
theorem dX10_moves_17 : decode cX10_moves 17 = .ok (.iconst 1, 1) := by decide +kernel
theorem dX10_moves_18 : decode cX10_moves 18 = .ok (.ireturn, 1) := by decide +kernel
theorem dX10_moves_19 : decode cX10_moves 19 = .ok (.aload_n 0, 1) := by decide +kernel
theorem dX10_moves_20 : decode cX10_moves 20 = .ok (.iload_n 3, 1) := by decide +kernel
theorem dX10_moves_21 : decode cX10_moves 21 = .ok (.iconst 1, 1) := by decide +kernel
theorem dX10_moves_22 : decode cX10_moves 22 = .ok (.invokevirtual 65, 3) := by decide +kernel
theorem dX10_moves_25 : decode cX10_moves 25 = .ok (.istore 4, 2) := by decide +kernel
theorem dX10_moves_27 : decode cX10_moves 27 = .ok (.aload_n 0, 1) := by decide +kernel
theorem dX10_moves_28 : decode cX10_moves 28 = .ok (.iload_n 3, 1) := by decide +kernel
theorem dX10_moves_29 : decode cX10_moves 29 = .ok (.iconst 3, 1) := by decide +kernel
theorem dX10_moves_30 : decode cX10_moves 30 = .ok (.invokevirtual 65, 3) := by decide +kernel
theorem dX10_moves_33 : decode cX10_moves 33 = .ok (.iconst 1, 1) := by decide +kernel
theorem dX10_moves_34 : decode cX10_moves 34 = .ok (.if_icmp .ne 10, 3) := by decide +kernel
theorem dX10_moves_37 : decode cX10_moves 37 = .ok (.aload_n 0, 1) := by decide +kernel
theorem dX10_moves_38 : decode cX10_moves 38 = .ok (.iconst 5, 1) := by decide +kernel
theorem dX10_moves_39 : decode cX10_moves 39 = .ok (.iload_n 1, 1) := by decide +kernel
theorem dX10_moves_40 : decode cX10_moves 40 = .ok (.invokevirtual 97, 3) := by decide +kernel
theorem dX10_moves_43 : decode cX10_moves 43 = .ok (.ireturn, 1) := by decide +kernel
theorem dX10_moves_44 : decode cX10_moves 44 = .ok (.aload_n 0, 1) := by decide +kernel
theorem dX10_moves_45 : decode cX10_moves 45 = .ok (.iload 4, 2) := by decide +kernel
theorem dX10_moves_47 : decode cX10_moves 47 = .ok (.iload_n 2, 1) := by decide +kernel
theorem dX10_moves_48 : decode cX10_moves 48 = .ok (.invokevirtual 89, 3) := by decide +kernel
theorem dX10_moves_51 : decode cX10_moves 51 = .ok (.ifCond .ne 16, 3) := by decide +kernel
theorem dX10_moves_54 : decode cX10_moves 54 = .ok (.aload_n 0, 1) := by decide +kernel
theorem dX10_moves_55 : decode cX10_moves 55 = .ok (.iconst 2, 1) := by decide +kernel
theorem dX10_moves_56 : decode cX10_moves 56 = .ok (.aload_n 0, 1) := by decide +kernel
theorem dX10_moves_57 : decode cX10_moves 57 = .ok (.iload 4, 2) := by decide +kernel
theorem dX10_moves_59 : decode cX10_moves 59 = .ok (.iload_n 2, 1) := by decide +kernel
theorem dX10_moves_60 : decode cX10_moves 60 = .ok (.invokevirtual 113, 3) := by decide +kernel
theorem dX10_moves_63 : decode cX10_moves 63 = .ok (.invokevirtual 97, 3) := by decide +kernel
theorem dX10_moves_66 : decode cX10_moves 66 = .ok (.ireturn, 1) := by decide +kernel
theorem dX10_moves_67 : decode cX10_moves 67 = .ok (.aload_n 0, 1) := by decide +kernel
theorem dX10_moves_68 : decode cX10_moves 68 = .ok (.iload_n 2, 1) := by decide +kernel
theorem dX10_moves_69 : decode cX10_moves 69 = .ok (.iconst 2, 1) := by decide +kernel
theorem dX10_moves_70 : decode cX10_moves 70 = .ok (.invokevirtual 69, 3) := by decide +kernel
theorem dX10_moves_73 : decode cX10_moves 73 = .ok (.iconst 5, 1) := by decide +kernel
theorem dX10_moves_74 : decode cX10_moves 74 = .ok (.if_icmp .ne 10, 3) := by decide +kernel
theorem dX10_moves_77 : decode cX10_moves 77 = .ok (.aload_n 0, 1) := by decide +kernel
theorem dX10_moves_78 : decode cX10_moves 78 = .ok (.iconst 4, 1) := by decide +kernel
theorem dX10_moves_79 : decode cX10_moves 79 = .ok (.iload_n 2, 1) := by decide +kernel
theorem dX10_moves_80 : decode cX10_moves 80 = .ok (.invokevirtual 97, 3) := by decide +kernel
theorem dX10_moves_83 : decode cX10_moves 83 = .ok (.ireturn, 1) := by decide +kernel
theorem dX10_moves_84 : decode cX10_moves 84 = .ok (.aload_n 0, 1) := by decide +kernel
theorem dX10_moves_85 : decode cX10_moves 85 = .ok (.iload_n 3, 1) := by decide +kernel
theorem dX10_moves_86 : decode cX10_moves 86 = .ok (.invokevirtual 81, 3) := by decide +kernel
theorem dX10_moves_89 : decode cX10_moves 89 = .ok (.aload_n 0, 1) := by decide +kernel
theorem dX10_moves_90 : decode cX10_moves 90 = .ok (.iload_n 3, 1) := by decide +kernel
theorem dX10_moves_91 : decode cX10_moves 91 = .ok (.iload_n 2, 1) := by decide +kernel
theorem dX10_moves_92 : decode cX10_moves 92 = .ok (.invokevirtual 122, 3) := by decide +kernel
theorem dX10_moves_95 : decode cX10_moves 95 = .ok (.aload_n 0, 1) := by decide +kernel
theorem dX10_moves_96 : decode cX10_moves 96 = .ok (.getfield 9, 3) := by decide +kernel
theorem dX10_moves_99 : decode cX10_moves 99 = .ok (.bipush 6, 2) := by decide +kernel
theorem dX10_moves_101 : decode cX10_moves 101 = .ok (.dup2, 1) := by decide +kernel
theorem dX10_moves_102 : decode cX10_moves 102 = .ok (.iaload, 1) := by decide +kernel
theorem dX10_moves_103 : decode cX10_moves 103 = .ok (.iconst 1, 1) := by decide +kernel
theorem dX10_moves_104 : decode cX10_moves 104 = .ok (.iadd, 1) := by decide +kernel
theorem dX10_moves_105 : decode cX10_moves 105 = .ok (.iastore, 1) := by decide +kernel
theorem dX10_moves_106 : decode cX10_moves 106 = .ok (.aload_n 0, 1) := by decide +kernel
theorem dX10_moves_107 : decode cX10_moves 107 = .ok (.iload 4, 2) := by decide +kernel
theorem dX10_moves_109 : decode cX10_moves 109 = .ok (.invokevirtual 100, 3) := by decide +kernel
theorem dX10_moves_112 : decode cX10_moves 112 = .ok (.ireturn, 1) := by decide +kernel
theorem dX10_moveChair_0 : decode cX10_moveChair 0 = .ok (.aload_n 0, 1) := by decide +kernel
theorem dX10_moveChair_1 : decode cX10_moveChair 1 = .ok (.invokevirtual 103, 3) := by decide +kernel
theorem dX10_moveChair_4 : decode cX10_moveChair 4 = .ok (.aload_n 0, 1) := by decide +kernel
theorem dX10_moveChair_5 : decode cX10_moveChair 5 = .ok (.aload_n 0, 1) := by decide +kernel
theorem dX10_moveChair_6 : decode cX10_moveChair 6 = .ok (.iload_n 1, 1) := by decide +kernel
theorem dX10_moveChair_7 : decode cX10_moveChair 7 = .ok (.iload_n 2, 1) := by decide +kernel
theorem dX10_moveChair_8 : decode cX10_moveChair 8 = .ok (.invokevirtual 144, 3) := by decide +kernel
theorem dX10_moveChair_11 : decode cX10_moveChair 11 = .ok (.iconst 1, 1) := by decide +kernel
theorem dX10_moveChair_12 : decode cX10_moveChair 12 = .ok (.iconst 0, 1) := by decide +kernel
theorem dX10_moveChair_13 : decode cX10_moveChair 13 = .ok (.iconst 2, 1) := by decide +kernel
theorem dX10_moveChair_14 : decode cX10_moveChair 14 = .ok (.invokevirtual 109, 3) := by decide +kernel
theorem dX10_moveChair_17 : decode cX10_moveChair 17 = .ok (.ireturn, 1) := by decide +kernel
theorem dX10_open_0 : decode cX10_open 0 = .ok (.iconst 0, 1) := by decide +kernel
theorem dX10_open_1 : decode cX10_open 1 = .ok (.istore_n 2, 1) := by decide +kernel
theorem dX10_open_2 : decode cX10_open 2 = .ok (.iconst 0, 1) := by decide +kernel
theorem dX10_open_3 : decode cX10_open 3 = .ok (.istore_n 3, 1) := by decide +kernel
theorem dX10_open_4 : decode cX10_open 4 = .ok (.iload_n 3, 1) := by decide +kernel
theorem dX10_open_5 : decode cX10_open 5 = .ok (.aload_n 0, 1) := by decide +kernel
theorem dX10_open_6 : decode cX10_open 6 = .ok (.iload_n 1, 1) := by decide +kernel
theorem dX10_open_7 : decode cX10_open 7 = .ok (.iconst 2, 1) := by decide +kernel
theorem dX10_open_8 : decode cX10_open 8 = .ok (.invokevirtual 69, 3) := by decide +kernel
theorem dX10_open_11 : decode cX10_open 11 = .ok (.if_icmp .ge 29, 3) := by decide +kernel
theorem dX10_open_14 : decode cX10_open 14 = .ok (.iload_n 2, 1) := by decide +kernel
theorem dX10_open_15 : decode cX10_open 15 = .ok (.iconst 1, 1) := by decide +kernel
theorem dX10_open_16 : decode cX10_open 16 = .ok (.aload_n 0, 1) := by decide +kernel
theorem dX10_open_17 : decode cX10_open 17 = .ok (.aload_n 0, 1) := by decide +kernel
theorem dX10_open_18 : decode cX10_open 18 = .ok (.aload_n 0, 1) := by decide +kernel
theorem dX10_open_19 : decode cX10_open 19 = .ok (.iload_n 1, 1) := by decide +kernel
theorem dX10_open_20 : decode cX10_open 20 = .ok (.iload_n 3, 1) := by decide +kernel
theorem dX10_open_21 : decode cX10_open 21 = .ok (.invokevirtual 147, 3) := by decide +kernel
theorem dX10_open_24 : decode cX10_open 24 = .ok (.invokevirtual 129, 3) := by decide +kernel
theorem dX10_open_27 : decode cX10_open 27 = .ok (.iconst 3, 1) := by decide +kernel
theorem dX10_open_28 : decode cX10_open 28 = .ok (.invokevirtual 65, 3) := by decide +kernel
theorem dX10_open_31 : decode cX10_open 31 = .ok (.isub, 1) := by decide +kernel
theorem dX10_open_32 : decode cX10_open 32 = .ok (.iadd, 1) := by decide +kernel
theorem dX10_open_33 : decode cX10_open 33 = .ok (.istore_n 2, 1) := by decide +kernel
theorem dX10_open_34 : decode cX10_open 34 = .ok (.iinc 3 1, 3) := by decide +kernel
theorem dX10_open_37 : decode cX10_open 37 = .ok (.goto (-33), 3) := by decide +kernel
theorem dX10_open_40 : decode cX10_open 40 = .ok (.iload_n 2, 1) := by decide +kernel
theorem dX10_open_41 : decode cX10_open 41 = .ok (.ireturn, 1) := by decide +kernel
theorem dX10_wanders_0 : decode cX10_wanders 0 = .ok (.iload_n 1, 1) := by decide +kernel
theorem dX10_wanders_1 : decode cX10_wanders 1 = .ok (.invokestatic 85, 3) := by decide +kernel
theorem dX10_wanders_4 : decode cX10_wanders 4 = .ok (.ifCond .eq 10, 3) := by decide +kernel
theorem dX10_wanders_7 : decode cX10_wanders 7 = .ok (.iload_n 2, 1) := by decide +kernel
theorem dX10_wanders_8 : decode cX10_wanders 8 = .ok (.invokestatic 85, 3) := by decide +kernel
theorem dX10_wanders_11 : decode cX10_wanders 11 = .ok (.ifCond .ne 5, 3) := by decide +kernel
theorem dX10_wanders_14 : decode cX10_wanders 14 = .ok (.iconst 1, 1) := by decide +kernel
theorem dX10_wanders_15 : decode cX10_wanders 15 = .ok (.ireturn, 1) := by decide +kernel
theorem dX10_wanders_16 : decode cX10_wanders 16 = .ok (.aload_n 0, 1) := by decide +kernel
theorem dX10_wanders_17 : decode cX10_wanders 17 = .ok (.iload_n 1, 1) := by decide +kernel
theorem dX10_wanders_18 : decode cX10_wanders 18 = .ok (.iload_n 2, 1) := by decide +kernel
theorem dX10_wanders_19 : decode cX10_wanders 19 = .ok (.invokevirtual 89, 3) := by decide +kernel
theorem dX10_wanders_22 : decode cX10_wanders 22 = .ok (.ifCond .ne 15, 3) := by decide +kernel
theorem dX10_wanders_25 : decode cX10_wanders 25 = .ok (.aload_n 0, 1) := by decide +kernel
theorem dX10_wanders_26 : decode cX10_wanders 26 = .ok (.iconst 2, 1) := by decide +kernel
theorem dX10_wanders_27 : decode cX10_wanders 27 = .ok (.aload_n 0, 1) := by decide +kernel
theorem dX10_wanders_28 : decode cX10_wanders 28 = .ok (.iload_n 1, 1) := by decide +kernel
theorem dX10_wanders_29 : decode cX10_wanders 29 = .ok (.iload_n 2, 1) := by decide +kernel
theorem dX10_wanders_30 : decode cX10_wanders 30 = .ok (.invokevirtual 113, 3) := by decide +kernel
theorem dX10_wanders_33 : decode cX10_wanders 33 = .ok (.invokevirtual 97, 3) := by decide +kernel
theorem dX10_wanders_36 : decode cX10_wanders 36 = .ok (.ireturn, 1) := by decide +kernel
theorem dX10_wanders_37 : decode cX10_wanders 37 = .ok (.aload_n 0, 1) := by decide +kernel
theorem dX10_wanders_38 : decode cX10_wanders 38 = .ok (.iload_n 1, 1) := by decide +kernel
theorem dX10_wanders_39 : decode cX10_wanders 39 = .ok (.invokevirtual 150, 3) := by decide +kernel
theorem dX10_wanders_42 : decode cX10_wanders 42 = .ok (.ifCond .ne 16, 3) := by decide +kernel
theorem dX10_wanders_45 : decode cX10_wanders 45 = .ok (.aload_n 0, 1) := by decide +kernel
theorem dX10_wanders_46 : decode cX10_wanders 46 = .ok (.bipush 7, 2) := by decide +kernel
theorem dX10_wanders_48 : decode cX10_wanders 48 = .ok (.aload_n 0, 1) := by decide +kernel
theorem dX10_wanders_49 : decode cX10_wanders 49 = .ok (.iload_n 1, 1) := by decide +kernel
theorem dX10_wanders_50 : decode cX10_wanders 50 = .ok (.iconst 2, 1) := by decide +kernel
theorem dX10_wanders_51 : decode cX10_wanders 51 = .ok (.invokevirtual 69, 3) := by decide +kernel
theorem dX10_wanders_54 : decode cX10_wanders 54 = .ok (.invokevirtual 97, 3) := by decide +kernel
theorem dX10_wanders_57 : decode cX10_wanders 57 = .ok (.ireturn, 1) := by decide +kernel
theorem dX10_wanders_58 : decode cX10_wanders 58 = .ok (.aload_n 0, 1) := by decide +kernel
theorem dX10_wanders_59 : decode cX10_wanders 59 = .ok (.iload_n 2, 1) := by decide +kernel
theorem dX10_wanders_60 : decode cX10_wanders 60 = .ok (.iconst 2, 1) := by decide +kernel
theorem dX10_wanders_61 : decode cX10_wanders 61 = .ok (.invokevirtual 69, 3) := by decide +kernel
theorem dX10_wanders_64 : decode cX10_wanders 64 = .ok (.iconst 5, 1) := by decide +kernel
theorem dX10_wanders_65 : decode cX10_wanders 65 = .ok (.if_icmp .ne 10, 3) := by decide +kernel
theorem dX10_wanders_68 : decode cX10_wanders 68 = .ok (.aload_n 0, 1) := by decide +kernel
theorem dX10_wanders_69 : decode cX10_wanders 69 = .ok (.iconst 4, 1) := by decide +kernel
theorem dX10_wanders_70 : decode cX10_wanders 70 = .ok (.iload_n 2, 1) := by decide +kernel
theorem dX10_wanders_71 : decode cX10_wanders 71 = .ok (.invokevirtual 97, 3) := by decide +kernel
theorem dX10_wanders_74 : decode cX10_wanders 74 = .ok (.ireturn, 1) := by decide +kernel
theorem dX10_wanders_75 : decode cX10_wanders 75 = .ok (.iconst 0, 1) := by decide +kernel
theorem dX10_wanders_76 : decode cX10_wanders 76 = .ok (.istore_n 3, 1) := by decide +kernel
theorem dX10_wanders_77 : decode cX10_wanders 77 = .ok (.iconst 0, 1) := by decide +kernel
theorem dX10_wanders_78 : decode cX10_wanders 78 = .ok (.istore 4, 2) := by decide +kernel
theorem dX10_wanders_80 : decode cX10_wanders 80 = .ok (.iload 4, 2) := by decide +kernel
theorem dX10_wanders_82 : decode cX10_wanders 82 = .ok (.aload_n 0, 1) := by decide +kernel
theorem dX10_wanders_83 : decode cX10_wanders 83 = .ok (.iload_n 1, 1) := by decide +kernel
theorem dX10_wanders_84 : decode cX10_wanders 84 = .ok (.iconst 2, 1) := by decide +kernel
theorem dX10_wanders_85 : decode cX10_wanders 85 = .ok (.invokevirtual 69, 3) := by decide +kernel
theorem dX10_wanders_88 : decode cX10_wanders 88 = .ok (.if_icmp .ge 62, 3) := by decide +kernel
theorem dX10_wanders_91 : decode cX10_wanders 91 = .ok (.aload_n 0, 1) := by decide +kernel
theorem dX10_wanders_92 : decode cX10_wanders 92 = .ok (.iload_n 2, 1) := by decide +kernel
theorem dX10_wanders_93 : decode cX10_wanders 93 = .ok (.iconst 2, 1) := by decide +kernel
theorem dX10_wanders_94 : decode cX10_wanders 94 = .ok (.invokevirtual 69, 3) := by decide +kernel
theorem dX10_wanders_97 : decode cX10_wanders 97 = .ok (.iconst 5, 1) := by decide +kernel
theorem dX10_wanders_98 : decode cX10_wanders 98 = .ok (.if_icmp .ge 52, 3) := by decide +kernel
theorem dX10_wanders_101 : decode cX10_wanders 101 = .ok (.aload_n 0, 1) := by decide +kernel
theorem dX10_wanders_102 : decode cX10_wanders 102 = .ok (.aload_n 0, 1) := by decide +kernel
theorem dX10_wanders_103 : decode cX10_wanders 103 = .ok (.iload_n 1, 1) := by decide +kernel
theorem dX10_wanders_104 : decode cX10_wanders 104 = .ok (.iload 4, 2) := by decide +kernel
theorem dX10_wanders_106 : decode cX10_wanders 106 = .ok (.invokevirtual 147, 3) := by decide +kernel
theorem dX10_wanders_109 : decode cX10_wanders 109 = .ok (.invokevirtual 129, 3) := by decide +kernel
theorem dX10_wanders_112 : decode cX10_wanders 112 = .ok (.istore 5, 2) := by decide +kernel
theorem dX10_wanders_114 : decode cX10_wanders 114 = .ok (.aload_n 0, 1) := by decide +kernel
theorem dX10_wanders_115 : decode cX10_wanders 115 = .ok (.iload 5, 2) := by decide +kernel
theorem dX10_wanders_117 : decode cX10_wanders 117 = .ok (.iconst 3, 1) := by decide +kernel
theorem dX10_wanders_118 : decode cX10_wanders 118 = .ok (.invokevirtual 65, 3) := by decide +kernel
theorem dX10_wanders_121 : decode cX10_wanders 121 = .ok (.iconst 1, 1) := by decide +kernel
theorem dX10_wanders_122 : decode cX10_wanders 122 = .ok (.if_icmp .ne 9, 3) := by decide +kernel
theorem dX10_wanders_125 : decode cX10_wanders 125 = .ok (.iinc 4 1, 3) := by decide +kernel
theorem dX10_wanders_128 : decode cX10_wanders 128 = .ok (.goto (-48), 3) := by decide +kernel
theorem dX10_wanders_131 : decode cX10_wanders 131 = .ok (.aload_n 0, 1) := by decide +kernel
theorem dX10_wanders_132 : decode cX10_wanders 132 = .ok (.iload 5, 2) := by decide +kernel
theorem dX10_wanders_134 : decode cX10_wanders 134 = .ok (.invokevirtual 81, 3) := by decide +kernel
theorem dX10_wanders_137 : decode cX10_wanders 137 = .ok (.aload_n 0, 1) := by decide +kernel
theorem dX10_wanders_138 : decode cX10_wanders 138 = .ok (.iload 5, 2) := by decide +kernel
theorem dX10_wanders_140 : decode cX10_wanders 140 = .ok (.iload_n 2, 1) := by decide +kernel
theorem dX10_wanders_141 : decode cX10_wanders 141 = .ok (.invokevirtual 122, 3) := by decide +kernel
theorem dX10_wanders_144 : decode cX10_wanders 144 = .ok (.iinc 3 1, 3) := by decide +kernel
theorem dX10_wanders_147 : decode cX10_wanders 147 = .ok (.goto (-67), 3) := by decide +kernel
theorem dX10_wanders_150 : decode cX10_wanders 150 = .ok (.aload_n 0, 1) := by decide +kernel
theorem dX10_wanders_151 : decode cX10_wanders 151 = .ok (.getfield 9, 3) := by decide +kernel
theorem dX10_wanders_154 : decode cX10_wanders 154 = .ok (.bipush 6, 2) := by decide +kernel
theorem dX10_wanders_156 : decode cX10_wanders 156 = .ok (.dup2, 1) := by decide +kernel
theorem dX10_wanders_157 : decode cX10_wanders 157 = .ok (.iaload, 1) := by decide +kernel
theorem dX10_wanders_158 : decode cX10_wanders 158 = .ok (.iload_n 3, 1) := by decide +kernel
theorem dX10_wanders_159 : decode cX10_wanders 159 = .ok (.iadd, 1) := by decide +kernel
theorem dX10_wanders_160 : decode cX10_wanders 160 = .ok (.iastore, 1) := by decide +kernel
theorem dX10_wanders_161 : decode cX10_wanders 161 = .ok (.aload_n 0, 1) := by decide +kernel
theorem dX10_wanders_162 : decode cX10_wanders 162 = .ok (.iload_n 3, 1) := by decide +kernel
theorem dX10_wanders_163 : decode cX10_wanders 163 = .ok (.invokevirtual 100, 3) := by decide +kernel
theorem dX10_wanders_166 : decode cX10_wanders 166 = .ok (.ireturn, 1) := by decide +kernel
theorem dX10_migrate_0 : decode cX10_migrate 0 = .ok (.aload_n 0, 1) := by decide +kernel
theorem dX10_migrate_1 : decode cX10_migrate 1 = .ok (.invokevirtual 103, 3) := by decide +kernel
theorem dX10_migrate_4 : decode cX10_migrate 4 = .ok (.aload_n 0, 1) := by decide +kernel
theorem dX10_migrate_5 : decode cX10_migrate 5 = .ok (.aload_n 0, 1) := by decide +kernel
theorem dX10_migrate_6 : decode cX10_migrate 6 = .ok (.iload_n 1, 1) := by decide +kernel
theorem dX10_migrate_7 : decode cX10_migrate 7 = .ok (.iload_n 2, 1) := by decide +kernel
theorem dX10_migrate_8 : decode cX10_migrate 8 = .ok (.invokevirtual 153, 3) := by decide +kernel
theorem dX10_migrate_11 : decode cX10_migrate 11 = .ok (.iconst 1, 1) := by decide +kernel
theorem dX10_migrate_12 : decode cX10_migrate 12 = .ok (.iconst 0, 1) := by decide +kernel
theorem dX10_migrate_13 : decode cX10_migrate 13 = .ok (.iconst 2, 1) := by decide +kernel
theorem dX10_migrate_14 : decode cX10_migrate 14 = .ok (.invokevirtual 109, 3) := by decide +kernel
theorem dX10_migrate_17 : decode cX10_migrate 17 = .ok (.ireturn, 1) := by decide +kernel
theorem dX10_oils_0 : decode cX10_oils 0 = .ok (.aload_n 0, 1) := by decide +kernel
theorem dX10_oils_1 : decode cX10_oils 1 = .ok (.iload_n 1, 1) := by decide +kernel
theorem dX10_oils_2 : decode cX10_oils 2 = .ok (.invokevirtual 129, 3) := by decide +kernel
theorem dX10_oils_5 : decode cX10_oils 5 = .ok (.istore_n 2, 1) := by decide +kernel
theorem dX10_oils_6 : decode cX10_oils 6 = .ok (.iload_n 2, 1) := by decide +kernel
theorem dX10_oils_7 : decode cX10_oils 7 = .ok (.ifCond .ge 5, 3) := by decide +kernel
theorem dX10_oils_10 : decode cX10_oils 10 = .ok (.iconst 1, 1) := by decide +kernel
theorem dX10_oils_11 : decode cX10_oils 11 = .ok (.ireturn, 1) := by decide +kernel
theorem dX10_oils_12 : decode cX10_oils 12 = .ok (.aload_n 0, 1) := by decide +kernel
theorem dX10_oils_13 : decode cX10_oils 13 = .ok (.iload_n 2, 1) := by decide +kernel
theorem dX10_oils_14 : decode cX10_oils 14 = .ok (.iconst 2, 1) := by decide +kernel
theorem dX10_oils_15 : decode cX10_oils 15 = .ok (.invokevirtual 65, 3) := by decide +kernel
theorem dX10_oils_18 : decode cX10_oils 18 = .ok (.ifCond .ne 16, 3) := by decide +kernel
theorem dX10_oils_21 : decode cX10_oils 21 = .ok (.aload_n 0, 1) := by decide +kernel
theorem dX10_oils_22 : decode cX10_oils 22 = .ok (.bipush 8, 2) := by decide +kernel
theorem dX10_oils_24 : decode cX10_oils 24 = .ok (.aload_n 0, 1) := by decide +kernel
theorem dX10_oils_25 : decode cX10_oils 25 = .ok (.getfield 9, 3) := by decide +kernel
theorem dX10_oils_28 : decode cX10_oils 28 = .ok (.iconst 3, 1) := by decide +kernel
theorem dX10_oils_29 : decode cX10_oils 29 = .ok (.iaload, 1) := by decide +kernel
theorem dX10_oils_30 : decode cX10_oils 30 = .ok (.invokevirtual 97, 3) := by decide +kernel
theorem dX10_oils_33 : decode cX10_oils 33 = .ok (.ireturn, 1) := by decide +kernel
theorem dX10_oils_34 : decode cX10_oils 34 = .ok (.aload_n 0, 1) := by decide +kernel
theorem dX10_oils_35 : decode cX10_oils 35 = .ok (.getfield 9, 3) := by decide +kernel
theorem dX10_oils_38 : decode cX10_oils 38 = .ok (.iconst 3, 1) := by decide +kernel
theorem dX10_oils_39 : decode cX10_oils 39 = .ok (.iaload, 1) := by decide +kernel
theorem dX10_oils_40 : decode cX10_oils 40 = .ok (.ifCond .ne 16, 3) := by decide +kernel
theorem dX10_oils_43 : decode cX10_oils 43 = .ok (.aload_n 0, 1) := by decide +kernel
theorem dX10_oils_44 : decode cX10_oils 44 = .ok (.bipush 9, 2) := by decide +kernel
theorem dX10_oils_46 : decode cX10_oils 46 = .ok (.aload_n 0, 1) := by decide +kernel
theorem dX10_oils_47 : decode cX10_oils 47 = .ok (.iload_n 2, 1) := by decide +kernel
theorem dX10_oils_48 : decode cX10_oils 48 = .ok (.iconst 2, 1) := by decide +kernel
theorem dX10_oils_49 : decode cX10_oils 49 = .ok (.invokevirtual 65, 3) := by decide +kernel
theorem dX10_oils_52 : decode cX10_oils 52 = .ok (.invokevirtual 97, 3) := by decide +kernel
theorem dX10_oils_55 : decode cX10_oils 55 = .ok (.ireturn, 1) := by decide +kernel
theorem dX10_oils_56 : decode cX10_oils 56 = .ok (.aload_n 0, 1) := by decide +kernel
theorem dX10_oils_57 : decode cX10_oils 57 = .ok (.getfield 9, 3) := by decide +kernel
theorem dX10_oils_60 : decode cX10_oils 60 = .ok (.iconst 3, 1) := by decide +kernel
theorem dX10_oils_61 : decode cX10_oils 61 = .ok (.dup2, 1) := by decide +kernel
theorem dX10_oils_62 : decode cX10_oils 62 = .ok (.iaload, 1) := by decide +kernel
theorem dX10_oils_63 : decode cX10_oils 63 = .ok (.iconst 1, 1) := by decide +kernel
theorem dX10_oils_64 : decode cX10_oils 64 = .ok (.isub, 1) := by decide +kernel
theorem dX10_oils_65 : decode cX10_oils 65 = .ok (.iastore, 1) := by decide +kernel
theorem dX10_oils_66 : decode cX10_oils 66 = .ok (.aload_n 0, 1) := by decide +kernel
theorem dX10_oils_67 : decode cX10_oils 67 = .ok (.iload_n 2, 1) := by decide +kernel
theorem dX10_oils_68 : decode cX10_oils 68 = .ok (.iconst 2, 1) := by decide +kernel
theorem dX10_oils_69 : decode cX10_oils 69 = .ok (.iconst 0, 1) := by decide +kernel
theorem dX10_oils_70 : decode cX10_oils 70 = .ok (.aload_n 0, 1) := by decide +kernel
theorem dX10_oils_71 : decode cX10_oils 71 = .ok (.iload_n 2, 1) := by decide +kernel
theorem dX10_oils_72 : decode cX10_oils 72 = .ok (.iconst 2, 1) := by decide +kernel
theorem dX10_oils_73 : decode cX10_oils 73 = .ok (.invokevirtual 65, 3) := by decide +kernel
theorem dX10_oils_76 : decode cX10_oils 76 = .ok (.iconst 3, 1) := by decide +kernel
theorem dX10_oils_77 : decode cX10_oils 77 = .ok (.isub, 1) := by decide +kernel
theorem dX10_oils_78 : decode cX10_oils 78 = .ok (.invokestatic 156, 3) := by decide +kernel
theorem dX10_oils_81 : decode cX10_oils 81 = .ok (.invokevirtual 77, 3) := by decide +kernel
theorem dX10_oils_84 : decode cX10_oils 84 = .ok (.aload_n 0, 1) := by decide +kernel
theorem dX10_oils_85 : decode cX10_oils 85 = .ok (.aload_n 0, 1) := by decide +kernel
theorem dX10_oils_86 : decode cX10_oils 86 = .ok (.iload_n 2, 1) := by decide +kernel
theorem dX10_oils_87 : decode cX10_oils 87 = .ok (.iconst 2, 1) := by decide +kernel
theorem dX10_oils_88 : decode cX10_oils 88 = .ok (.invokevirtual 65, 3) := by decide +kernel
theorem dX10_oils_91 : decode cX10_oils 91 = .ok (.invokevirtual 100, 3) := by decide +kernel
theorem dX10_oils_94 : decode cX10_oils 94 = .ok (.ireturn, 1) := by decide +kernel
theorem dX10_oilChair_0 : decode cX10_oilChair 0 = .ok (.aload_n 0, 1) := by decide +kernel
theorem dX10_oilChair_1 : decode cX10_oilChair 1 = .ok (.invokevirtual 103, 3) := by decide +kernel
theorem dX10_oilChair_4 : decode cX10_oilChair 4 = .ok (.aload_n 0, 1) := by decide +kernel
theorem dX10_oilChair_5 : decode cX10_oilChair 5 = .ok (.aload_n 0, 1) := by decide +kernel
theorem dX10_oilChair_6 : decode cX10_oilChair 6 = .ok (.iload_n 1, 1) := by decide +kernel
theorem dX10_oilChair_7 : decode cX10_oilChair 7 = .ok (.invokevirtual 161, 3) := by decide +kernel
theorem dX10_oilChair_10 : decode cX10_oilChair 10 = .ok (.iconst 1, 1) := by decide +kernel
theorem dX10_oilChair_11 : decode cX10_oilChair 11 = .ok (.iconst 0, 1) := by decide +kernel
theorem dX10_oilChair_12 : decode cX10_oilChair 12 = .ok (.iconst 2, 1) := by decide +kernel
theorem dX10_oilChair_13 : decode cX10_oilChair 13 = .ok (.invokevirtual 109, 3) := by decide +kernel
theorem dX10_oilChair_16 : decode cX10_oilChair 16 = .ok (.ireturn, 1) := by decide +kernel
theorem dX10_stores_0 : decode cX10_stores 0 = .ok (.iload_n 1, 1) := by decide +kernel
theorem dX10_stores_1 : decode cX10_stores 1 = .ok (.iconst 1, 1) := by decide +kernel
theorem dX10_stores_2 : decode cX10_stores 2 = .ok (.bipush 10, 2) := by decide +kernel
theorem dX10_stores_4 : decode cX10_stores 4 = .ok (.invokestatic 61, 3) := by decide +kernel
theorem dX10_stores_7 : decode cX10_stores 7 = .ok (.ifCond .ne 5, 3) := by decide +kernel
theorem dX10_stores_10 : decode cX10_stores 10 = .ok (.iconst 2, 1) := by decide +kernel
theorem dX10_stores_11 : decode cX10_stores 11 = .ok (.ireturn, 1) := by decide +kernel
theorem dX10_stores_12 : decode cX10_stores 12 = .ok (.aload_n 0, 1) := by decide +kernel
theorem dX10_stores_13 : decode cX10_stores 13 = .ok (.getfield 9, 3) := by decide +kernel
theorem dX10_stores_16 : decode cX10_stores 16 = .ok (.iconst 3, 1) := by decide +kernel
theorem dX10_stores_17 : decode cX10_stores 17 = .ok (.iaload, 1) := by decide +kernel
theorem dX10_stores_18 : decode cX10_stores 18 = .ok (.iload_n 1, 1) := by decide +kernel
theorem dX10_stores_19 : decode cX10_stores 19 = .ok (.iadd, 1) := by decide +kernel
theorem dX10_stores_20 : decode cX10_stores 20 = .ok (.bipush 20, 2) := by decide +kernel
theorem dX10_stores_22 : decode cX10_stores 22 = .ok (.if_icmp .le 16, 3) := by decide +kernel
theorem dX10_stores_25 : decode cX10_stores 25 = .ok (.aload_n 0, 1) := by decide +kernel
theorem dX10_stores_26 : decode cX10_stores 26 = .ok (.bipush 10, 2) := by decide +kernel
theorem dX10_stores_28 : decode cX10_stores 28 = .ok (.aload_n 0, 1) := by decide +kernel
theorem dX10_stores_29 : decode cX10_stores 29 = .ok (.getfield 9, 3) := by decide +kernel
theorem dX10_stores_32 : decode cX10_stores 32 = .ok (.iconst 3, 1) := by decide +kernel
theorem dX10_stores_33 : decode cX10_stores 33 = .ok (.iaload, 1) := by decide +kernel
theorem dX10_stores_34 : decode cX10_stores 34 = .ok (.invokevirtual 97, 3) := by decide +kernel
theorem dX10_stores_37 : decode cX10_stores 37 = .ok (.ireturn, 1) := by decide +kernel
theorem dX10_stores_38 : decode cX10_stores 38 = .ok (.aload_n 0, 1) := by decide +kernel
theorem dX10_stores_39 : decode cX10_stores 39 = .ok (.getfield 9, 3) := by decide +kernel
theorem dX10_stores_42 : decode cX10_stores 42 = .ok (.iconst 3, 1) := by decide +kernel
theorem dX10_stores_43 : decode cX10_stores 43 = .ok (.dup2, 1) := by decide +kernel
theorem dX10_stores_44 : decode cX10_stores 44 = .ok (.iaload, 1) := by decide +kernel
theorem dX10_stores_45 : decode cX10_stores 45 = .ok (.iload_n 1, 1) := by decide +kernel
theorem dX10_stores_46 : decode cX10_stores 46 = .ok (.iadd, 1) := by decide +kernel
theorem dX10_stores_47 : decode cX10_stores 47 = .ok (.iastore, 1) := by decide +kernel
theorem dX10_stores_48 : decode cX10_stores 48 = .ok (.aload_n 0, 1) := by decide +kernel
theorem dX10_stores_49 : decode cX10_stores 49 = .ok (.aload_n 0, 1) := by decide +kernel
theorem dX10_stores_50 : decode cX10_stores 50 = .ok (.getfield 9, 3) := by decide +kernel
theorem dX10_stores_53 : decode cX10_stores 53 = .ok (.iconst 3, 1) := by decide +kernel
theorem dX10_stores_54 : decode cX10_stores 54 = .ok (.iaload, 1) := by decide +kernel
theorem dX10_stores_55 : decode cX10_stores 55 = .ok (.invokevirtual 100, 3) := by decide +kernel
theorem dX10_stores_58 : decode cX10_stores 58 = .ok (.ireturn, 1) := by decide +kernel
theorem dX10_addOil_0 : decode cX10_addOil 0 = .ok (.aload_n 0, 1) := by decide +kernel
theorem dX10_addOil_1 : decode cX10_addOil 1 = .ok (.invokevirtual 103, 3) := by decide +kernel
theorem dX10_addOil_4 : decode cX10_addOil 4 = .ok (.aload_n 0, 1) := by decide +kernel
theorem dX10_addOil_5 : decode cX10_addOil 5 = .ok (.aload_n 0, 1) := by decide +kernel
theorem dX10_addOil_6 : decode cX10_addOil 6 = .ok (.iload_n 1, 1) := by decide +kernel
theorem dX10_addOil_7 : decode cX10_addOil 7 = .ok (.invokevirtual 164, 3) := by decide +kernel
theorem dX10_addOil_10 : decode cX10_addOil 10 = .ok (.iconst 0, 1) := by decide +kernel
theorem dX10_addOil_11 : decode cX10_addOil 11 = .ok (.iconst 1, 1) := by decide +kernel
theorem dX10_addOil_12 : decode cX10_addOil 12 = .ok (.iconst 2, 1) := by decide +kernel
theorem dX10_addOil_13 : decode cX10_addOil 13 = .ok (.invokevirtual 109, 3) := by decide +kernel
theorem dX10_addOil_16 : decode cX10_addOil 16 = .ok (.ireturn, 1) := by decide +kernel
theorem dX10_goesBy_0 : decode cX10_goesBy 0 = .ok (.aload_n 0, 1) := by decide +kernel
theorem dX10_goesBy_1 : decode cX10_goesBy 1 = .ok (.getfield 9, 3) := by decide +kernel
theorem dX10_goesBy_4 : decode cX10_goesBy 4 = .ok (.iconst 2, 1) := by decide +kernel
theorem dX10_goesBy_5 : decode cX10_goesBy 5 = .ok (.iaload, 1) := by decide +kernel
theorem dX10_goesBy_6 : decode cX10_goesBy 6 = .ok (.iconst 5, 1) := by decide +kernel
theorem dX10_goesBy_7 : decode cX10_goesBy 7 = .ok (.idiv, 1) := by decide +kernel
theorem dX10_goesBy_8 : decode cX10_goesBy 8 = .ok (.iconst 4, 1) := by decide +kernel
theorem dX10_goesBy_9 : decode cX10_goesBy 9 = .ok (.irem, 1) := by decide +kernel
theorem dX10_goesBy_10 : decode cX10_goesBy 10 = .ok (.istore_n 1, 1) := by decide +kernel
theorem dX10_goesBy_11 : decode cX10_goesBy 11 = .ok (.iconst 0, 1) := by decide +kernel
theorem dX10_goesBy_12 : decode cX10_goesBy 12 = .ok (.istore_n 2, 1) := by decide +kernel
theorem dX10_goesBy_13 : decode cX10_goesBy 13 = .ok (.iconst 0, 1) := by decide +kernel
theorem dX10_goesBy_14 : decode cX10_goesBy 14 = .ok (.istore_n 3, 1) := by decide +kernel
theorem dX10_goesBy_15 : decode cX10_goesBy 15 = .ok (.iload_n 3, 1) := by decide +kernel
theorem dX10_goesBy_16 : decode cX10_goesBy 16 = .ok (.bipush 6, 2) := by decide +kernel
theorem dX10_goesBy_18 : decode cX10_goesBy 18 = .ok (.if_icmp .ge 190, 3) := by decide +kernel
theorem dX10_goesBy_21 : decode cX10_goesBy 21 = .ok (.bipush 8, 2) := by decide +kernel
theorem dX10_goesBy_23 : decode cX10_goesBy 23 = .ok (.bipush 8, 2) := by decide +kernel
theorem dX10_goesBy_25 : decode cX10_goesBy 25 = .ok (.iload_n 3, 1) := by decide +kernel
theorem dX10_goesBy_26 : decode cX10_goesBy 26 = .ok (.imul, 1) := by decide +kernel
theorem dX10_goesBy_27 : decode cX10_goesBy 27 = .ok (.iadd, 1) := by decide +kernel
theorem dX10_goesBy_28 : decode cX10_goesBy 28 = .ok (.istore 4, 2) := by decide +kernel
theorem dX10_goesBy_30 : decode cX10_goesBy 30 = .ok (.iconst 0, 1) := by decide +kernel
theorem dX10_goesBy_31 : decode cX10_goesBy 31 = .ok (.istore 5, 2) := by decide +kernel
theorem dX10_goesBy_33 : decode cX10_goesBy 33 = .ok (.iload 5, 2) := by decide +kernel
theorem dX10_goesBy_35 : decode cX10_goesBy 35 = .ok (.aload_n 0, 1) := by decide +kernel
theorem dX10_goesBy_36 : decode cX10_goesBy 36 = .ok (.getfield 9, 3) := by decide +kernel
theorem dX10_goesBy_39 : decode cX10_goesBy 39 = .ok (.iload 4, 2) := by decide +kernel
theorem dX10_goesBy_41 : decode cX10_goesBy 41 = .ok (.iconst 2, 1) := by decide +kernel
theorem dX10_goesBy_42 : decode cX10_goesBy 42 = .ok (.iadd, 1) := by decide +kernel
theorem dX10_goesBy_43 : decode cX10_goesBy 43 = .ok (.iaload, 1) := by decide +kernel
theorem dX10_goesBy_44 : decode cX10_goesBy 44 = .ok (.if_icmp .ge 135, 3) := by decide +kernel
theorem dX10_goesBy_47 : decode cX10_goesBy 47 = .ok (.aload_n 0, 1) := by decide +kernel
theorem dX10_goesBy_48 : decode cX10_goesBy 48 = .ok (.aload_n 0, 1) := by decide +kernel
theorem dX10_goesBy_49 : decode cX10_goesBy 49 = .ok (.getfield 9, 3) := by decide +kernel
theorem dX10_goesBy_52 : decode cX10_goesBy 52 = .ok (.iload 4, 2) := by decide +kernel
theorem dX10_goesBy_54 : decode cX10_goesBy 54 = .ok (.iconst 3, 1) := by decide +kernel
theorem dX10_goesBy_55 : decode cX10_goesBy 55 = .ok (.iadd, 1) := by decide +kernel
theorem dX10_goesBy_56 : decode cX10_goesBy 56 = .ok (.iload 5, 2) := by decide +kernel
theorem dX10_goesBy_58 : decode cX10_goesBy 58 = .ok (.iadd, 1) := by decide +kernel
theorem dX10_goesBy_59 : decode cX10_goesBy 59 = .ok (.iaload, 1) := by decide +kernel
theorem dX10_goesBy_60 : decode cX10_goesBy 60 = .ok (.invokevirtual 129, 3) := by decide +kernel
theorem dX10_goesBy_63 : decode cX10_goesBy 63 = .ok (.istore 6, 2) := by decide +kernel
theorem dX10_goesBy_65 : decode cX10_goesBy 65 = .ok (.iinc 5 1, 3) := by decide +kernel
theorem dX10_goesBy_68 : decode cX10_goesBy 68 = .ok (.aload_n 0, 1) := by decide +kernel
theorem dX10_goesBy_69 : decode cX10_goesBy 69 = .ok (.iload 6, 2) := by decide +kernel
theorem dX10_goesBy_71 : decode cX10_goesBy 71 = .ok (.iconst 3, 1) := by decide +kernel
theorem dX10_goesBy_72 : decode cX10_goesBy 72 = .ok (.invokevirtual 65, 3) := by decide +kernel
theorem dX10_goesBy_75 : decode cX10_goesBy 75 = .ok (.iconst 1, 1) := by decide +kernel
theorem dX10_goesBy_76 : decode cX10_goesBy 76 = .ok (.if_icmp .ne 6, 3) := by decide +kernel
theorem dX10_goesBy_79 : decode cX10_goesBy 79 = .ok (.goto (-46), 3) := by decide +kernel
theorem dX10_goesBy_82 : decode cX10_goesBy 82 = .ok (.iload_n 1, 1) := by decide +kernel
theorem dX10_goesBy_83 : decode cX10_goesBy 83 = .ok (.iconst 3, 1) := by decide +kernel
theorem dX10_goesBy_84 : decode cX10_goesBy 84 = .ok (.if_icmp .ne 7, 3) := by decide +kernel
theorem dX10_goesBy_87 : decode cX10_goesBy 87 = .ok (.iconst 1, 1) := by decide +kernel
theorem dX10_goesBy_88 : decode cX10_goesBy 88 = .ok (.goto 4, 3) := by decide +kernel
theorem dX10_goesBy_91 : decode cX10_goesBy 91 = .ok (.iconst 0, 1) := by decide +kernel
theorem dX10_goesBy_92 : decode cX10_goesBy 92 = .ok (.istore 7, 2) := by decide +kernel
theorem dX10_goesBy_94 : decode cX10_goesBy 94 = .ok (.aload_n 0, 1) := by decide +kernel
theorem dX10_goesBy_95 : decode cX10_goesBy 95 = .ok (.getfield 9, 3) := by decide +kernel
theorem dX10_goesBy_98 : decode cX10_goesBy 98 = .ok (.iload 4, 2) := by decide +kernel
theorem dX10_goesBy_100 : decode cX10_goesBy 100 = .ok (.iaload, 1) := by decide +kernel
theorem dX10_goesBy_101 : decode cX10_goesBy 101 = .ok (.ifCond .le 28, 3) := by decide +kernel
theorem dX10_goesBy_104 : decode cX10_goesBy 104 = .ok (.aload_n 0, 1) := by decide +kernel
theorem dX10_goesBy_105 : decode cX10_goesBy 105 = .ok (.getfield 9, 3) := by decide +kernel
theorem dX10_goesBy_108 : decode cX10_goesBy 108 = .ok (.iload 4, 2) := by decide +kernel
theorem dX10_goesBy_110 : decode cX10_goesBy 110 = .ok (.dup2, 1) := by decide +kernel
theorem dX10_goesBy_111 : decode cX10_goesBy 111 = .ok (.iaload, 1) := by decide +kernel
theorem dX10_goesBy_112 : decode cX10_goesBy 112 = .ok (.iconst 1, 1) := by decide +kernel
theorem dX10_goesBy_113 : decode cX10_goesBy 113 = .ok (.isub, 1) := by decide +kernel
theorem dX10_goesBy_114 : decode cX10_goesBy 114 = .ok (.iastore, 1) := by decide +kernel
theorem dX10_goesBy_115 : decode cX10_goesBy 115 = .ok (.aload_n 0, 1) := by decide +kernel
theorem dX10_goesBy_116 : decode cX10_goesBy 116 = .ok (.getfield 9, 3) := by decide +kernel
theorem dX10_goesBy_119 : decode cX10_goesBy 119 = .ok (.bipush 7, 2) := by decide +kernel
theorem dX10_goesBy_121 : decode cX10_goesBy 121 = .ok (.dup2, 1) := by decide +kernel
theorem dX10_goesBy_122 : decode cX10_goesBy 122 = .ok (.iaload, 1) := by decide +kernel
theorem dX10_goesBy_123 : decode cX10_goesBy 123 = .ok (.iconst 1, 1) := by decide +kernel
theorem dX10_goesBy_124 : decode cX10_goesBy 124 = .ok (.iadd, 1) := by decide +kernel
theorem dX10_goesBy_125 : decode cX10_goesBy 125 = .ok (.iastore, 1) := by decide +kernel
theorem dX10_goesBy_126 : decode cX10_goesBy 126 = .ok (.goto 6, 3) := by decide +kernel
theorem dX10_goesBy_129 : decode cX10_goesBy 129 = .ok (.iinc 7 1, 3) := by decide +kernel
theorem dX10_goesBy_132 : decode cX10_goesBy 132 = .ok (.aload_n 0, 1) := by decide +kernel
theorem dX10_goesBy_133 : decode cX10_goesBy 133 = .ok (.iload 6, 2) := by decide +kernel
theorem dX10_goesBy_135 : decode cX10_goesBy 135 = .ok (.iconst 2, 1) := by decide +kernel
theorem dX10_goesBy_136 : decode cX10_goesBy 136 = .ok (.aload_n 0, 1) := by decide +kernel
theorem dX10_goesBy_137 : decode cX10_goesBy 137 = .ok (.iload 6, 2) := by decide +kernel
theorem dX10_goesBy_139 : decode cX10_goesBy 139 = .ok (.iconst 2, 1) := by decide +kernel
theorem dX10_goesBy_140 : decode cX10_goesBy 140 = .ok (.invokevirtual 65, 3) := by decide +kernel
theorem dX10_goesBy_143 : decode cX10_goesBy 143 = .ok (.iload 7, 2) := by decide +kernel
theorem dX10_goesBy_145 : decode cX10_goesBy 145 = .ok (.iadd, 1) := by decide +kernel
theorem dX10_goesBy_146 : decode cX10_goesBy 146 = .ok (.invokevirtual 77, 3) := by decide +kernel
theorem dX10_goesBy_149 : decode cX10_goesBy 149 = .ok (.aload_n 0, 1) := by decide +kernel
theorem dX10_goesBy_150 : decode cX10_goesBy 150 = .ok (.iload 6, 2) := by decide +kernel
theorem dX10_goesBy_152 : decode cX10_goesBy 152 = .ok (.iconst 2, 1) := by decide +kernel
theorem dX10_goesBy_153 : decode cX10_goesBy 153 = .ok (.invokevirtual 65, 3) := by decide +kernel
theorem dX10_goesBy_156 : decode cX10_goesBy 156 = .ok (.bipush 10, 2) := by decide +kernel
theorem dX10_goesBy_158 : decode cX10_goesBy 158 = .ok (.if_icmp .ge 6, 3) := by decide +kernel
theorem dX10_goesBy_161 : decode cX10_goesBy 161 = .ok (.goto (-128), 3) := by decide +kernel
theorem dX10_goesBy_164 : decode cX10_goesBy 164 = .ok (.aload_n 0, 1) := by decide +kernel
theorem dX10_goesBy_165 : decode cX10_goesBy 165 = .ok (.iload 6, 2) := by decide +kernel
theorem dX10_goesBy_167 : decode cX10_goesBy 167 = .ok (.invokevirtual 132, 3) := by decide +kernel
theorem dX10_goesBy_170 : decode cX10_goesBy 170 = .ok (.iinc 2 1, 3) := by decide +kernel
theorem dX10_goesBy_173 : decode cX10_goesBy 173 = .ok (.iinc 5 (-1), 3) := by decide +kernel
theorem dX10_goesBy_176 : decode cX10_goesBy 176 = .ok (.goto (-143), 3) := by decide +kernel
theorem dX10_goesBy_179 : decode cX10_goesBy 179 = .ok (.aload_n 0, 1) := by decide +kernel
theorem dX10_goesBy_180 : decode cX10_goesBy 180 = .ok (.getfield 9, 3) := by decide +kernel
theorem dX10_goesBy_183 : decode cX10_goesBy 183 = .ok (.iload 4, 2) := by decide +kernel
theorem dX10_goesBy_185 : decode cX10_goesBy 185 = .ok (.bipush 20, 2) := by decide +kernel
theorem dX10_goesBy_187 : decode cX10_goesBy 187 = .ok (.aload_n 0, 1) := by decide +kernel
theorem dX10_goesBy_188 : decode cX10_goesBy 188 = .ok (.getfield 9, 3) := by decide +kernel
theorem dX10_goesBy_191 : decode cX10_goesBy 191 = .ok (.iload 4, 2) := by decide +kernel
theorem dX10_goesBy_193 : decode cX10_goesBy 193 = .ok (.iaload, 1) := by decide +kernel
theorem dX10_goesBy_194 : decode cX10_goesBy 194 = .ok (.iconst 3, 1) := by decide +kernel
theorem dX10_goesBy_195 : decode cX10_goesBy 195 = .ok (.iadd, 1) := by decide +kernel
theorem dX10_goesBy_196 : decode cX10_goesBy 196 = .ok (.iload_n 1, 1) := by decide +kernel
theorem dX10_goesBy_197 : decode cX10_goesBy 197 = .ok (.isub, 1) := by decide +kernel
theorem dX10_goesBy_198 : decode cX10_goesBy 198 = .ok (.invokestatic 167, 3) := by decide +kernel
theorem dX10_goesBy_201 : decode cX10_goesBy 201 = .ok (.iastore, 1) := by decide +kernel
theorem dX10_goesBy_202 : decode cX10_goesBy 202 = .ok (.iinc 3 1, 3) := by decide +kernel
theorem dX10_goesBy_205 : decode cX10_goesBy 205 = .ok (.goto (-190), 3) := by decide +kernel
theorem dX10_goesBy_208 : decode cX10_goesBy 208 = .ok (.aload_n 0, 1) := by decide +kernel
theorem dX10_goesBy_209 : decode cX10_goesBy 209 = .ok (.getfield 9, 3) := by decide +kernel
theorem dX10_goesBy_212 : decode cX10_goesBy 212 = .ok (.iconst 4, 1) := by decide +kernel
theorem dX10_goesBy_213 : decode cX10_goesBy 213 = .ok (.dup2, 1) := by decide +kernel
theorem dX10_goesBy_214 : decode cX10_goesBy 214 = .ok (.iaload, 1) := by decide +kernel
theorem dX10_goesBy_215 : decode cX10_goesBy 215 = .ok (.iload_n 2, 1) := by decide +kernel
theorem dX10_goesBy_216 : decode cX10_goesBy 216 = .ok (.iadd, 1) := by decide +kernel
theorem dX10_goesBy_217 : decode cX10_goesBy 217 = .ok (.iastore, 1) := by decide +kernel
theorem dX10_goesBy_218 : decode cX10_goesBy 218 = .ok (.aload_n 0, 1) := by decide +kernel
theorem dX10_goesBy_219 : decode cX10_goesBy 219 = .ok (.getfield 9, 3) := by decide +kernel
theorem dX10_goesBy_222 : decode cX10_goesBy 222 = .ok (.iconst 2, 1) := by decide +kernel
theorem dX10_goesBy_223 : decode cX10_goesBy 223 = .ok (.dup2, 1) := by decide +kernel
theorem dX10_goesBy_224 : decode cX10_goesBy 224 = .ok (.iaload, 1) := by decide +kernel
theorem dX10_goesBy_225 : decode cX10_goesBy 225 = .ok (.iconst 1, 1) := by decide +kernel
theorem dX10_goesBy_226 : decode cX10_goesBy 226 = .ok (.iadd, 1) := by decide +kernel
theorem dX10_goesBy_227 : decode cX10_goesBy 227 = .ok (.iastore, 1) := by decide +kernel
theorem dX10_goesBy_228 : decode cX10_goesBy 228 = .ok (.iload_n 2, 1) := by decide +kernel
theorem dX10_goesBy_229 : decode cX10_goesBy 229 = .ok (.ireturn, 1) := by decide +kernel
theorem dX10_passes_0 : decode cX10_passes 0 = .ok (.iload_n 1, 1) := by decide +kernel
theorem dX10_passes_1 : decode cX10_passes 1 = .ok (.iconst 1, 1) := by decide +kernel
theorem dX10_passes_2 : decode cX10_passes 2 = .ok (.bipush 20, 2) := by decide +kernel
theorem dX10_passes_4 : decode cX10_passes 4 = .ok (.invokestatic 61, 3) := by decide +kernel
theorem dX10_passes_7 : decode cX10_passes 7 = .ok (.ifCond .ne 5, 3) := by decide +kernel
theorem dX10_passes_10 : decode cX10_passes 10 = .ok (.iconst 2, 1) := by decide +kernel
theorem dX10_passes_11 : decode cX10_passes 11 = .ok (.ireturn, 1) := by decide +kernel
theorem dX10_passes_12 : decode cX10_passes 12 = .ok (.iconst 0, 1) := by decide +kernel
theorem dX10_passes_13 : decode cX10_passes 13 = .ok (.istore_n 2, 1) := by decide +kernel
theorem dX10_passes_14 : decode cX10_passes 14 = .ok (.iconst 0, 1) := by decide +kernel
theorem dX10_passes_15 : decode cX10_passes 15 = .ok (.istore_n 3, 1) := by decide +kernel
theorem dX10_passes_16 : decode cX10_passes 16 = .ok (.iload_n 3, 1) := by decide +kernel
theorem dX10_passes_17 : decode cX10_passes 17 = .ok (.iload_n 1, 1) := by decide +kernel
theorem dX10_passes_18 : decode cX10_passes 18 = .ok (.if_icmp .ge 16, 3) := by decide +kernel
theorem dX10_passes_21 : decode cX10_passes 21 = .ok (.iload_n 2, 1) := by decide +kernel
theorem dX10_passes_22 : decode cX10_passes 22 = .ok (.aload_n 0, 1) := by decide +kernel
theorem dX10_passes_23 : decode cX10_passes 23 = .ok (.invokevirtual 170, 3) := by decide +kernel
theorem dX10_passes_26 : decode cX10_passes 26 = .ok (.iadd, 1) := by decide +kernel
theorem dX10_passes_27 : decode cX10_passes 27 = .ok (.istore_n 2, 1) := by decide +kernel
theorem dX10_passes_28 : decode cX10_passes 28 = .ok (.iinc 3 1, 3) := by decide +kernel
theorem dX10_passes_31 : decode cX10_passes 31 = .ok (.goto (-15), 3) := by decide +kernel
theorem dX10_passes_34 : decode cX10_passes 34 = .ok (.aload_n 0, 1) := by decide +kernel
theorem dX10_passes_35 : decode cX10_passes 35 = .ok (.iload_n 2, 1) := by decide +kernel
theorem dX10_passes_36 : decode cX10_passes 36 = .ok (.invokevirtual 100, 3) := by decide +kernel
theorem dX10_passes_39 : decode cX10_passes 39 = .ok (.ireturn, 1) := by decide +kernel
theorem dX10_passDays_0 : decode cX10_passDays 0 = .ok (.aload_n 0, 1) := by decide +kernel
theorem dX10_passDays_1 : decode cX10_passDays 1 = .ok (.invokevirtual 103, 3) := by decide +kernel
theorem dX10_passDays_4 : decode cX10_passDays 4 = .ok (.aload_n 0, 1) := by decide +kernel
theorem dX10_passDays_5 : decode cX10_passDays 5 = .ok (.aload_n 0, 1) := by decide +kernel
theorem dX10_passDays_6 : decode cX10_passDays 6 = .ok (.iload_n 1, 1) := by decide +kernel
theorem dX10_passDays_7 : decode cX10_passDays 7 = .ok (.invokevirtual 173, 3) := by decide +kernel
theorem dX10_passDays_10 : decode cX10_passDays 10 = .ok (.iconst 0, 1) := by decide +kernel
theorem dX10_passDays_11 : decode cX10_passDays 11 = .ok (.iconst 1, 1) := by decide +kernel
theorem dX10_passDays_12 : decode cX10_passDays 12 = .ok (.iconst 0, 1) := by decide +kernel
theorem dX10_passDays_13 : decode cX10_passDays 13 = .ok (.invokevirtual 109, 3) := by decide +kernel
theorem dX10_passDays_16 : decode cX10_passDays 16 = .ok (.ireturn, 1) := by decide +kernel
theorem dX10_isPath_0 : decode cX10_isPath 0 = .ok (.aload_n 0, 1) := by decide +kernel
theorem dX10_isPath_1 : decode cX10_isPath 1 = .ok (.iload_n 1, 1) := by decide +kernel
theorem dX10_isPath_2 : decode cX10_isPath 2 = .ok (.invokestatic 85, 3) := by decide +kernel
theorem dX10_isPath_5 : decode cX10_isPath 5 = .ok (.ifCond .eq 14, 3) := by decide +kernel
theorem dX10_isPath_8 : decode cX10_isPath 8 = .ok (.iload_n 2, 1) := by decide +kernel
theorem dX10_isPath_9 : decode cX10_isPath 9 = .ok (.invokestatic 85, 3) := by decide +kernel
theorem dX10_isPath_12 : decode cX10_isPath 12 = .ok (.ifCond .eq 7, 3) := by decide +kernel
theorem dX10_isPath_15 : decode cX10_isPath 15 = .ok (.iconst 0, 1) := by decide +kernel
theorem dX10_isPath_16 : decode cX10_isPath 16 = .ok (.goto 4, 3) := by decide +kernel
theorem dX10_isPath_19 : decode cX10_isPath 19 = .ok (.iconst 1, 1) := by decide +kernel
theorem dX10_isPath_20 : decode cX10_isPath 20 = .ok (.putfield 39, 3) := by decide +kernel
theorem dX10_isPath_23 : decode cX10_isPath 23 = .ok (.aload_n 0, 1) := by decide +kernel
theorem dX10_isPath_24 : decode cX10_isPath 24 = .ok (.getfield 39, 3) := by decide +kernel
theorem dX10_isPath_27 : decode cX10_isPath 27 = .ok (.ifCond .ne 16, 3) := by decide +kernel
theorem dX10_isPath_30 : decode cX10_isPath 30 = .ok (.aload_n 0, 1) := by decide +kernel
theorem dX10_isPath_31 : decode cX10_isPath 31 = .ok (.iload_n 1, 1) := by decide +kernel
theorem dX10_isPath_32 : decode cX10_isPath 32 = .ok (.iload_n 2, 1) := by decide +kernel
theorem dX10_isPath_33 : decode cX10_isPath 33 = .ok (.invokevirtual 89, 3) := by decide +kernel
theorem dX10_isPath_36 : decode cX10_isPath 36 = .ok (.ifCond .eq 7, 3) := by decide +kernel
theorem dX10_isPath_39 : decode cX10_isPath 39 = .ok (.iconst 1, 1) := by decide +kernel
theorem dX10_isPath_40 : decode cX10_isPath 40 = .ok (.goto 4, 3) := by decide +kernel
theorem dX10_isPath_43 : decode cX10_isPath 43 = .ok (.iconst 0, 1) := by decide +kernel
theorem dX10_isPath_44 : decode cX10_isPath 44 = .ok (.ireturn, 1) := by decide +kernel
theorem dX10_distance_0 : decode cX10_distance 0 = .ok (.aload_n 0, 1) := by decide +kernel
theorem dX10_distance_1 : decode cX10_distance 1 = .ok (.iconst 0, 1) := by decide +kernel
theorem dX10_distance_2 : decode cX10_distance 2 = .ok (.putfield 39, 3) := by decide +kernel
theorem dX10_distance_5 : decode cX10_distance 5 = .ok (.iload_n 1, 1) := by decide +kernel
theorem dX10_distance_6 : decode cX10_distance 6 = .ok (.invokestatic 85, 3) := by decide +kernel
theorem dX10_distance_9 : decode cX10_distance 9 = .ok (.ifCond .eq 10, 3) := by decide +kernel
theorem dX10_distance_12 : decode cX10_distance 12 = .ok (.iload_n 2, 1) := by decide +kernel
theorem dX10_distance_13 : decode cX10_distance 13 = .ok (.invokestatic 85, 3) := by decide +kernel
theorem dX10_distance_16 : decode cX10_distance 16 = .ok (.ifCond .ne 9, 3) := by decide +kernel
theorem dX10_distance_19 : decode cX10_distance 19 = .ok (.aload_n 0, 1) := by decide +kernel
theorem dX10_distance_20 : decode cX10_distance 20 = .ok (.iconst 1, 1) := by decide +kernel
theorem dX10_distance_21 : decode cX10_distance 21 = .ok (.invokevirtual 54, 3) := by decide +kernel
theorem dX10_distance_24 : decode cX10_distance 24 = .ok (.ireturn, 1) := by decide +kernel
theorem dX10_distance_25 : decode cX10_distance 25 = .ok (.aload_n 0, 1) := by decide +kernel
theorem dX10_distance_26 : decode cX10_distance 26 = .ok (.iload_n 1, 1) := by decide +kernel
theorem dX10_distance_27 : decode cX10_distance 27 = .ok (.iload_n 2, 1) := by decide +kernel
theorem dX10_distance_28 : decode cX10_distance 28 = .ok (.invokevirtual 113, 3) := by decide +kernel
theorem dX10_distance_31 : decode cX10_distance 31 = .ok (.istore_n 3, 1) := by decide +kernel
theorem dX10_distance_32 : decode cX10_distance 32 = .ok (.iload_n 3, 1) := by decide +kernel
theorem dX10_distance_33 : decode cX10_distance 33 = .ok (.ifCond .ge 11, 3) := by decide +kernel
theorem dX10_distance_36 : decode cX10_distance 36 = .ok (.aload_n 0, 1) := by decide +kernel
theorem dX10_distance_37 : decode cX10_distance 37 = .ok (.iconst 2, 1) := by decide +kernel
theorem dX10_distance_38 : decode cX10_distance 38 = .ok (.invokevirtual 54, 3) := by decide +kernel
theorem dX10_distance_41 : decode cX10_distance 41 = .ok (.goto 4, 3) := by decide +kernel
theorem dX10_distance_44 : decode cX10_distance 44 = .ok (.iload_n 3, 1) := by decide +kernel
theorem dX10_distance_45 : decode cX10_distance 45 = .ok (.ireturn, 1) := by decide +kernel
theorem dX10_distanceByImprovement_0 : decode cX10_distanceByImprovement 0 = .ok (.aload_n 0, 1) := by decide +kernel
theorem dX10_distanceByImprovement_1 : decode cX10_distanceByImprovement 1 = .ok (.iload_n 1, 1) := by decide +kernel
theorem dX10_distanceByImprovement_2 : decode cX10_distanceByImprovement 2 = .ok (.iload_n 2, 1) := by decide +kernel
theorem dX10_distanceByImprovement_3 : decode cX10_distanceByImprovement 3 = .ok (.invokevirtual 176, 3) := by decide +kernel
theorem dX10_distanceByImprovement_6 : decode cX10_distanceByImprovement 6 = .ok (.ireturn, 1) := by decide +kernel
theorem dX10_routeAt_0 : decode cX10_routeAt 0 = .ok (.aload_n 0, 1) := by decide +kernel
theorem dX10_routeAt_1 : decode cX10_routeAt 1 = .ok (.iconst 0, 1) := by decide +kernel
theorem dX10_routeAt_2 : decode cX10_routeAt 2 = .ok (.putfield 39, 3) := by decide +kernel
theorem dX10_routeAt_5 : decode cX10_routeAt 5 = .ok (.iload_n 1, 1) := by decide +kernel
theorem dX10_routeAt_6 : decode cX10_routeAt 6 = .ok (.invokestatic 85, 3) := by decide +kernel
theorem dX10_routeAt_9 : decode cX10_routeAt 9 = .ok (.ifCond .eq 10, 3) := by decide +kernel
theorem dX10_routeAt_12 : decode cX10_routeAt 12 = .ok (.iload_n 2, 1) := by decide +kernel
theorem dX10_routeAt_13 : decode cX10_routeAt 13 = .ok (.invokestatic 85, 3) := by decide +kernel
theorem dX10_routeAt_16 : decode cX10_routeAt 16 = .ok (.ifCond .ne 9, 3) := by decide +kernel
theorem dX10_routeAt_19 : decode cX10_routeAt 19 = .ok (.aload_n 0, 1) := by decide +kernel
theorem dX10_routeAt_20 : decode cX10_routeAt 20 = .ok (.iconst 1, 1) := by decide +kernel
theorem dX10_routeAt_21 : decode cX10_routeAt 21 = .ok (.invokevirtual 54, 3) := by decide +kernel
theorem dX10_routeAt_24 : decode cX10_routeAt 24 = .ok (.ireturn, 1) := by decide +kernel
theorem dX10_routeAt_25 : decode cX10_routeAt 25 = .ok (.iload_n 3, 1) := by decide +kernel
theorem dX10_routeAt_26 : decode cX10_routeAt 26 = .ok (.iconst 0, 1) := by decide +kernel
theorem dX10_routeAt_27 : decode cX10_routeAt 27 = .ok (.aload_n 0, 1) := by decide +kernel
theorem dX10_routeAt_28 : decode cX10_routeAt 28 = .ok (.iload_n 1, 1) := by decide +kernel
theorem dX10_routeAt_29 : decode cX10_routeAt 29 = .ok (.iload_n 2, 1) := by decide +kernel
theorem dX10_routeAt_30 : decode cX10_routeAt 30 = .ok (.invokevirtual 113, 3) := by decide +kernel
theorem dX10_routeAt_33 : decode cX10_routeAt 33 = .ok (.invokestatic 61, 3) := by decide +kernel
theorem dX10_routeAt_36 : decode cX10_routeAt 36 = .ok (.ifCond .ne 9, 3) := by decide +kernel
theorem dX10_routeAt_39 : decode cX10_routeAt 39 = .ok (.aload_n 0, 1) := by decide +kernel
theorem dX10_routeAt_40 : decode cX10_routeAt 40 = .ok (.iconst 2, 1) := by decide +kernel
theorem dX10_routeAt_41 : decode cX10_routeAt 41 = .ok (.invokevirtual 54, 3) := by decide +kernel
theorem dX10_routeAt_44 : decode cX10_routeAt 44 = .ok (.ireturn, 1) := by decide +kernel
theorem dX10_routeAt_45 : decode cX10_routeAt 45 = .ok (.iload_n 1, 1) := by decide +kernel
theorem dX10_routeAt_46 : decode cX10_routeAt 46 = .ok (.istore 4, 2) := by decide +kernel
theorem dX10_routeAt_48 : decode cX10_routeAt 48 = .ok (.iconst 0, 1) := by decide +kernel
theorem dX10_routeAt_49 : decode cX10_routeAt 49 = .ok (.istore 5, 2) := by decide +kernel
theorem dX10_routeAt_51 : decode cX10_routeAt 51 = .ok (.iload 5, 2) := by decide +kernel
theorem dX10_routeAt_53 : decode cX10_routeAt 53 = .ok (.iload_n 3, 1) := by decide +kernel
theorem dX10_routeAt_54 : decode cX10_routeAt 54 = .ok (.if_icmp .ge 52, 3) := by decide +kernel
theorem dX10_routeAt_57 : decode cX10_routeAt 57 = .ok (.iconst 0, 1) := by decide +kernel
theorem dX10_routeAt_58 : decode cX10_routeAt 58 = .ok (.istore 6, 2) := by decide +kernel
theorem dX10_routeAt_60 : decode cX10_routeAt 60 = .ok (.aload_n 0, 1) := by decide +kernel
theorem dX10_routeAt_61 : decode cX10_routeAt 61 = .ok (.iload 4, 2) := by decide +kernel
theorem dX10_routeAt_63 : decode cX10_routeAt 63 = .ok (.iload 6, 2) := by decide +kernel
theorem dX10_routeAt_65 : decode cX10_routeAt 65 = .ok (.invokevirtual 89, 3) := by decide +kernel
theorem dX10_routeAt_68 : decode cX10_routeAt 68 = .ok (.ifCond .eq 22, 3) := by decide +kernel
theorem dX10_routeAt_71 : decode cX10_routeAt 71 = .ok (.aload_n 0, 1) := by decide +kernel
theorem dX10_routeAt_72 : decode cX10_routeAt 72 = .ok (.iload 6, 2) := by decide +kernel
theorem dX10_routeAt_74 : decode cX10_routeAt 74 = .ok (.iload_n 2, 1) := by decide +kernel
theorem dX10_routeAt_75 : decode cX10_routeAt 75 = .ok (.invokevirtual 113, 3) := by decide +kernel
theorem dX10_routeAt_78 : decode cX10_routeAt 78 = .ok (.aload_n 0, 1) := by decide +kernel
theorem dX10_routeAt_79 : decode cX10_routeAt 79 = .ok (.iload 4, 2) := by decide +kernel
theorem dX10_routeAt_81 : decode cX10_routeAt 81 = .ok (.iload_n 2, 1) := by decide +kernel
theorem dX10_routeAt_82 : decode cX10_routeAt 82 = .ok (.invokevirtual 113, 3) := by decide +kernel
theorem dX10_routeAt_85 : decode cX10_routeAt 85 = .ok (.iconst 1, 1) := by decide +kernel
theorem dX10_routeAt_86 : decode cX10_routeAt 86 = .ok (.isub, 1) := by decide +kernel
theorem dX10_routeAt_87 : decode cX10_routeAt 87 = .ok (.if_icmp .eq 9, 3) := by decide +kernel
theorem dX10_routeAt_90 : decode cX10_routeAt 90 = .ok (.iinc 6 1, 3) := by decide +kernel
theorem dX10_routeAt_93 : decode cX10_routeAt 93 = .ok (.goto (-33), 3) := by decide +kernel
theorem dX10_routeAt_96 : decode cX10_routeAt 96 = .ok (.iload 6, 2) := by decide +kernel
theorem dX10_routeAt_98 : decode cX10_routeAt 98 = .ok (.istore 4, 2) := by decide +kernel
theorem dX10_routeAt_100 : decode cX10_routeAt 100 = .ok (.iinc 5 1, 3) := by decide +kernel
theorem dX10_routeAt_103 : decode cX10_routeAt 103 = .ok (.goto (-52), 3) := by decide +kernel
theorem dX10_routeAt_106 : decode cX10_routeAt 106 = .ok (.iload 4, 2) := by decide +kernel
theorem dX10_routeAt_108 : decode cX10_routeAt 108 = .ok (.ireturn, 1) := by decide +kernel
theorem dX10_reachableLawns_0 : decode cX10_reachableLawns 0 = .ok (.aload_n 0, 1) := by decide +kernel
theorem dX10_reachableLawns_1 : decode cX10_reachableLawns 1 = .ok (.iload_n 1, 1) := by decide +kernel
theorem dX10_reachableLawns_2 : decode cX10_reachableLawns 2 = .ok (.invokestatic 85, 3) := by decide +kernel
theorem dX10_reachableLawns_5 : decode cX10_reachableLawns 5 = .ok (.ifCond .eq 7, 3) := by decide +kernel
theorem dX10_reachableLawns_8 : decode cX10_reachableLawns 8 = .ok (.iconst 0, 1) := by decide +kernel
theorem dX10_reachableLawns_9 : decode cX10_reachableLawns 9 = .ok (.goto 4, 3) := by decide +kernel
theorem dX10_reachableLawns_12 : decode cX10_reachableLawns 12 = .ok (.iconst 1, 1) := by decide +kernel
theorem dX10_reachableLawns_13 : decode cX10_reachableLawns 13 = .ok (.putfield 39, 3) := by decide +kernel
theorem dX10_reachableLawns_16 : decode cX10_reachableLawns 16 = .ok (.iconst 0, 1) := by decide +kernel
theorem dX10_reachableLawns_17 : decode cX10_reachableLawns 17 = .ok (.istore_n 2, 1) := by decide +kernel
theorem dX10_reachableLawns_18 : decode cX10_reachableLawns 18 = .ok (.iconst 0, 1) := by decide +kernel
theorem dX10_reachableLawns_19 : decode cX10_reachableLawns 19 = .ok (.istore_n 3, 1) := by decide +kernel
theorem dX10_reachableLawns_20 : decode cX10_reachableLawns 20 = .ok (.aload_n 0, 1) := by decide +kernel
theorem dX10_reachableLawns_21 : decode cX10_reachableLawns 21 = .ok (.getfield 39, 3) := by decide +kernel
theorem dX10_reachableLawns_24 : decode cX10_reachableLawns 24 = .ok (.ifCond .ne 27, 3) := by decide +kernel
theorem dX10_reachableLawns_27 : decode cX10_reachableLawns 27 = .ok (.iload_n 3, 1) := by decide +kernel
theorem dX10_reachableLawns_28 : decode cX10_reachableLawns 28 = .ok (.bipush 6, 2) := by decide +kernel
theorem dX10_reachableLawns_30 : decode cX10_reachableLawns 30 = .ok (.if_icmp .ge 21, 3) := by decide +kernel
theorem dX10_reachableLawns_33 : decode cX10_reachableLawns 33 = .ok (.aload_n 0, 1) := by decide +kernel
theorem dX10_reachableLawns_34 : decode cX10_reachableLawns 34 = .ok (.iload_n 1, 1) := by decide +kernel
theorem dX10_reachableLawns_35 : decode cX10_reachableLawns 35 = .ok (.iload_n 3, 1) := by decide +kernel
theorem dX10_reachableLawns_36 : decode cX10_reachableLawns 36 = .ok (.invokevirtual 113, 3) := by decide +kernel
theorem dX10_reachableLawns_39 : decode cX10_reachableLawns 39 = .ok (.ifCond .lt 6, 3) := by decide +kernel
theorem dX10_reachableLawns_42 : decode cX10_reachableLawns 42 = .ok (.iinc 2 1, 3) := by decide +kernel
theorem dX10_reachableLawns_45 : decode cX10_reachableLawns 45 = .ok (.iinc 3 1, 3) := by decide +kernel
theorem dX10_reachableLawns_48 : decode cX10_reachableLawns 48 = .ok (.goto (-28), 3) := by decide +kernel
theorem dX10_reachableLawns_51 : decode cX10_reachableLawns 51 = .ok (.iload_n 2, 1) := by decide +kernel
theorem dX10_reachableLawns_52 : decode cX10_reachableLawns 52 = .ok (.ireturn, 1) := by decide +kernel
theorem dX10_pathCount_0 : decode cX10_pathCount 0 = .ok (.aload_n 0, 1) := by decide +kernel
theorem dX10_pathCount_1 : decode cX10_pathCount 1 = .ok (.iconst 0, 1) := by decide +kernel
theorem dX10_pathCount_2 : decode cX10_pathCount 2 = .ok (.putfield 39, 3) := by decide +kernel
theorem dX10_pathCount_5 : decode cX10_pathCount 5 = .ok (.aload_n 0, 1) := by decide +kernel
theorem dX10_pathCount_6 : decode cX10_pathCount 6 = .ok (.invokevirtual 93, 3) := by decide +kernel
theorem dX10_pathCount_9 : decode cX10_pathCount 9 = .ok (.ireturn, 1) := by decide +kernel
theorem dX10_shadeOf_0 : decode cX10_shadeOf 0 = .ok (.aload_n 0, 1) := by decide +kernel
theorem dX10_shadeOf_1 : decode cX10_shadeOf 1 = .ok (.iload_n 1, 1) := by decide +kernel
theorem dX10_shadeOf_2 : decode cX10_shadeOf 2 = .ok (.invokestatic 85, 3) := by decide +kernel
theorem dX10_shadeOf_5 : decode cX10_shadeOf 5 = .ok (.ifCond .eq 7, 3) := by decide +kernel
theorem dX10_shadeOf_8 : decode cX10_shadeOf 8 = .ok (.iconst 0, 1) := by decide +kernel
theorem dX10_shadeOf_9 : decode cX10_shadeOf 9 = .ok (.goto 4, 3) := by decide +kernel
theorem dX10_shadeOf_12 : decode cX10_shadeOf 12 = .ok (.iconst 1, 1) := by decide +kernel
theorem dX10_shadeOf_13 : decode cX10_shadeOf 13 = .ok (.putfield 39, 3) := by decide +kernel
theorem dX10_shadeOf_16 : decode cX10_shadeOf 16 = .ok (.aload_n 0, 1) := by decide +kernel
theorem dX10_shadeOf_17 : decode cX10_shadeOf 17 = .ok (.getfield 39, 3) := by decide +kernel
theorem dX10_shadeOf_20 : decode cX10_shadeOf 20 = .ok (.ifCond .ne 12, 3) := by decide +kernel
theorem dX10_shadeOf_23 : decode cX10_shadeOf 23 = .ok (.aload_n 0, 1) := by decide +kernel
theorem dX10_shadeOf_24 : decode cX10_shadeOf 24 = .ok (.iload_n 1, 1) := by decide +kernel
theorem dX10_shadeOf_25 : decode cX10_shadeOf 25 = .ok (.iconst 0, 1) := by decide +kernel
theorem dX10_shadeOf_26 : decode cX10_shadeOf 26 = .ok (.invokevirtual 69, 3) := by decide +kernel
theorem dX10_shadeOf_29 : decode cX10_shadeOf 29 = .ok (.goto 4, 3) := by decide +kernel
theorem dX10_shadeOf_32 : decode cX10_shadeOf 32 = .ok (.iconst 0, 1) := by decide +kernel
theorem dX10_shadeOf_33 : decode cX10_shadeOf 33 = .ok (.ireturn, 1) := by decide +kernel
theorem dX10_exists_0 : decode cX10_exists 0 = .ok (.aload_n 0, 1) := by decide +kernel
theorem dX10_exists_1 : decode cX10_exists 1 = .ok (.iconst 0, 1) := by decide +kernel
theorem dX10_exists_2 : decode cX10_exists 2 = .ok (.putfield 39, 3) := by decide +kernel
theorem dX10_exists_5 : decode cX10_exists 5 = .ok (.aload_n 0, 1) := by decide +kernel
theorem dX10_exists_6 : decode cX10_exists 6 = .ok (.iload_n 1, 1) := by decide +kernel
theorem dX10_exists_7 : decode cX10_exists 7 = .ok (.invokevirtual 129, 3) := by decide +kernel
theorem dX10_exists_10 : decode cX10_exists 10 = .ok (.ifCond .lt 7, 3) := by decide +kernel
theorem dX10_exists_13 : decode cX10_exists 13 = .ok (.iconst 1, 1) := by decide +kernel
theorem dX10_exists_14 : decode cX10_exists 14 = .ok (.goto 4, 3) := by decide +kernel
theorem dX10_exists_17 : decode cX10_exists 17 = .ok (.iconst 0, 1) := by decide +kernel
theorem dX10_exists_18 : decode cX10_exists 18 = .ok (.ireturn, 1) := by decide +kernel
theorem dX10_tells_0 : decode cX10_tells 0 = .ok (.aload_n 0, 1) := by decide +kernel
theorem dX10_tells_1 : decode cX10_tells 1 = .ok (.iload_n 1, 1) := by decide +kernel
theorem dX10_tells_2 : decode cX10_tells 2 = .ok (.invokevirtual 129, 3) := by decide +kernel
theorem dX10_tells_5 : decode cX10_tells 5 = .ok (.istore_n 3, 1) := by decide +kernel
theorem dX10_tells_6 : decode cX10_tells 6 = .ok (.aload_n 0, 1) := by decide +kernel
theorem dX10_tells_7 : decode cX10_tells 7 = .ok (.iload_n 3, 1) := by decide +kernel
theorem dX10_tells_8 : decode cX10_tells 8 = .ok (.ifCond .ge 7, 3) := by decide +kernel
theorem dX10_tells_11 : decode cX10_tells 11 = .ok (.iconst 1, 1) := by decide +kernel
theorem dX10_tells_12 : decode cX10_tells 12 = .ok (.goto 4, 3) := by decide +kernel
theorem dX10_tells_15 : decode cX10_tells 15 = .ok (.iconst 0, 1) := by decide +kernel
theorem dX10_tells_16 : decode cX10_tells 16 = .ok (.putfield 39, 3) := by decide +kernel
theorem dX10_tells_19 : decode cX10_tells 19 = .ok (.iload_n 3, 1) := by decide +kernel
theorem dX10_tells_20 : decode cX10_tells 20 = .ok (.ifCond .ge 7, 3) := by decide +kernel
theorem dX10_tells_23 : decode cX10_tells 23 = .ok (.iconst 0, 1) := by decide +kernel
theorem dX10_tells_24 : decode cX10_tells 24 = .ok (.goto 9, 3) := by decide +kernel
theorem dX10_tells_27 : decode cX10_tells 27 = .ok (.aload_n 0, 1) := by decide +kernel
theorem dX10_tells_28 : decode cX10_tells 28 = .ok (.iload_n 3, 1) := by decide +kernel
theorem dX10_tells_29 : decode cX10_tells 29 = .ok (.iload_n 2, 1) := by decide +kernel
theorem dX10_tells_30 : decode cX10_tells 30 = .ok (.invokevirtual 65, 3) := by decide +kernel
theorem dX10_tells_33 : decode cX10_tells 33 = .ok (.ireturn, 1) := by decide +kernel
theorem dX10_lawnOf_0 : decode cX10_lawnOf 0 = .ok (.aload_n 0, 1) := by decide +kernel
theorem dX10_lawnOf_1 : decode cX10_lawnOf 1 = .ok (.iload_n 1, 1) := by decide +kernel
theorem dX10_lawnOf_2 : decode cX10_lawnOf 2 = .ok (.iconst 1, 1) := by decide +kernel
theorem dX10_lawnOf_3 : decode cX10_lawnOf 3 = .ok (.invokevirtual 179, 3) := by decide +kernel
theorem dX10_lawnOf_6 : decode cX10_lawnOf 6 = .ok (.ireturn, 1) := by decide +kernel
theorem dX10_rustOf_0 : decode cX10_rustOf 0 = .ok (.aload_n 0, 1) := by decide +kernel
theorem dX10_rustOf_1 : decode cX10_rustOf 1 = .ok (.iload_n 1, 1) := by decide +kernel
theorem dX10_rustOf_2 : decode cX10_rustOf 2 = .ok (.iconst 2, 1) := by decide +kernel
theorem dX10_rustOf_3 : decode cX10_rustOf 3 = .ok (.invokevirtual 179, 3) := by decide +kernel
theorem dX10_rustOf_6 : decode cX10_rustOf 6 = .ok (.ireturn, 1) := by decide +kernel
theorem dX10_isFolded_0 : decode cX10_isFolded 0 = .ok (.aload_n 0, 1) := by decide +kernel
theorem dX10_isFolded_1 : decode cX10_isFolded 1 = .ok (.iload_n 1, 1) := by decide +kernel
theorem dX10_isFolded_2 : decode cX10_isFolded 2 = .ok (.iconst 3, 1) := by decide +kernel
theorem dX10_isFolded_3 : decode cX10_isFolded 3 = .ok (.invokevirtual 179, 3) := by decide +kernel
theorem dX10_isFolded_6 : decode cX10_isFolded 6 = .ok (.iconst 1, 1) := by decide +kernel
theorem dX10_isFolded_7 : decode cX10_isFolded 7 = .ok (.if_icmp .ne 7, 3) := by decide +kernel
theorem dX10_isFolded_10 : decode cX10_isFolded 10 = .ok (.iconst 1, 1) := by decide +kernel
theorem dX10_isFolded_11 : decode cX10_isFolded 11 = .ok (.goto 4, 3) := by decide +kernel
theorem dX10_isFolded_14 : decode cX10_isFolded 14 = .ok (.iconst 0, 1) := by decide +kernel
theorem dX10_isFolded_15 : decode cX10_isFolded 15 = .ok (.ireturn, 1) := by decide +kernel
theorem dX10_ageOf_0 : decode cX10_ageOf 0 = .ok (.aload_n 0, 1) := by decide +kernel
theorem dX10_ageOf_1 : decode cX10_ageOf 1 = .ok (.iload_n 1, 1) := by decide +kernel
theorem dX10_ageOf_2 : decode cX10_ageOf 2 = .ok (.iconst 4, 1) := by decide +kernel
theorem dX10_ageOf_3 : decode cX10_ageOf 3 = .ok (.invokevirtual 179, 3) := by decide +kernel
theorem dX10_ageOf_6 : decode cX10_ageOf 6 = .ok (.istore_n 2, 1) := by decide +kernel
theorem dX10_ageOf_7 : decode cX10_ageOf 7 = .ok (.aload_n 0, 1) := by decide +kernel
theorem dX10_ageOf_8 : decode cX10_ageOf 8 = .ok (.getfield 39, 3) := by decide +kernel
theorem dX10_ageOf_11 : decode cX10_ageOf 11 = .ok (.ifCond .ne 14, 3) := by decide +kernel
theorem dX10_ageOf_14 : decode cX10_ageOf 14 = .ok (.aload_n 0, 1) := by decide +kernel
theorem dX10_ageOf_15 : decode cX10_ageOf 15 = .ok (.getfield 9, 3) := by decide +kernel
theorem dX10_ageOf_18 : decode cX10_ageOf 18 = .ok (.iconst 2, 1) := by decide +kernel
theorem dX10_ageOf_19 : decode cX10_ageOf 19 = .ok (.iaload, 1) := by decide +kernel
theorem dX10_ageOf_20 : decode cX10_ageOf 20 = .ok (.iload_n 2, 1) := by decide +kernel
theorem dX10_ageOf_21 : decode cX10_ageOf 21 = .ok (.isub, 1) := by decide +kernel
theorem dX10_ageOf_22 : decode cX10_ageOf 22 = .ok (.goto 4, 3) := by decide +kernel
theorem dX10_ageOf_25 : decode cX10_ageOf 25 = .ok (.iconst 0, 1) := by decide +kernel
theorem dX10_ageOf_26 : decode cX10_ageOf 26 = .ok (.ireturn, 1) := by decide +kernel
theorem dX10_positionOf_0 : decode cX10_positionOf 0 = .ok (.aload_n 0, 1) := by decide +kernel
theorem dX10_positionOf_1 : decode cX10_positionOf 1 = .ok (.iload_n 1, 1) := by decide +kernel
theorem dX10_positionOf_2 : decode cX10_positionOf 2 = .ok (.iconst 1, 1) := by decide +kernel
theorem dX10_positionOf_3 : decode cX10_positionOf 3 = .ok (.invokevirtual 179, 3) := by decide +kernel
theorem dX10_positionOf_6 : decode cX10_positionOf 6 = .ok (.istore_n 2, 1) := by decide +kernel
theorem dX10_positionOf_7 : decode cX10_positionOf 7 = .ok (.aload_n 0, 1) := by decide +kernel
theorem dX10_positionOf_8 : decode cX10_positionOf 8 = .ok (.getfield 39, 3) := by decide +kernel
theorem dX10_positionOf_11 : decode cX10_positionOf 11 = .ok (.ifCond .le 5, 3) := by decide +kernel
theorem dX10_positionOf_14 : decode cX10_positionOf 14 = .ok (.iconst 0, 1) := by decide +kernel
theorem dX10_positionOf_15 : decode cX10_positionOf 15 = .ok (.ireturn, 1) := by decide +kernel
theorem dX10_positionOf_16 : decode cX10_positionOf 16 = .ok (.iconst 0, 1) := by decide +kernel
theorem dX10_positionOf_17 : decode cX10_positionOf 17 = .ok (.istore_n 3, 1) := by decide +kernel
theorem dX10_positionOf_18 : decode cX10_positionOf 18 = .ok (.aload_n 0, 1) := by decide +kernel
theorem dX10_positionOf_19 : decode cX10_positionOf 19 = .ok (.iload_n 2, 1) := by decide +kernel
theorem dX10_positionOf_20 : decode cX10_positionOf 20 = .ok (.iload_n 3, 1) := by decide +kernel
theorem dX10_positionOf_21 : decode cX10_positionOf 21 = .ok (.invokevirtual 147, 3) := by decide +kernel
theorem dX10_positionOf_24 : decode cX10_positionOf 24 = .ok (.iload_n 1, 1) := by decide +kernel
theorem dX10_positionOf_25 : decode cX10_positionOf 25 = .ok (.if_icmp .eq 9, 3) := by decide +kernel
theorem dX10_positionOf_28 : decode cX10_positionOf 28 = .ok (.iinc 3 1, 3) := by decide +kernel
theorem dX10_positionOf_31 : decode cX10_positionOf 31 = .ok (.goto (-13), 3) := by decide +kernel
theorem dX10_positionOf_34 : decode cX10_positionOf 34 = .ok (.iload_n 3, 1) := by decide +kernel
theorem dX10_positionOf_35 : decode cX10_positionOf 35 = .ok (.ireturn, 1) := by decide +kernel
theorem dX10_herdSize_0 : decode cX10_herdSize 0 = .ok (.aload_n 0, 1) := by decide +kernel
theorem dX10_herdSize_1 : decode cX10_herdSize 1 = .ok (.iload_n 1, 1) := by decide +kernel
theorem dX10_herdSize_2 : decode cX10_herdSize 2 = .ok (.invokestatic 85, 3) := by decide +kernel
theorem dX10_herdSize_5 : decode cX10_herdSize 5 = .ok (.ifCond .eq 7, 3) := by decide +kernel
theorem dX10_herdSize_8 : decode cX10_herdSize 8 = .ok (.iconst 0, 1) := by decide +kernel
theorem dX10_herdSize_9 : decode cX10_herdSize 9 = .ok (.goto 4, 3) := by decide +kernel
theorem dX10_herdSize_12 : decode cX10_herdSize 12 = .ok (.iconst 1, 1) := by decide +kernel
theorem dX10_herdSize_13 : decode cX10_herdSize 13 = .ok (.putfield 39, 3) := by decide +kernel
theorem dX10_herdSize_16 : decode cX10_herdSize 16 = .ok (.aload_n 0, 1) := by decide +kernel
theorem dX10_herdSize_17 : decode cX10_herdSize 17 = .ok (.getfield 39, 3) := by decide +kernel
theorem dX10_herdSize_20 : decode cX10_herdSize 20 = .ok (.ifCond .ne 12, 3) := by decide +kernel
theorem dX10_herdSize_23 : decode cX10_herdSize 23 = .ok (.aload_n 0, 1) := by decide +kernel
theorem dX10_herdSize_24 : decode cX10_herdSize 24 = .ok (.iload_n 1, 1) := by decide +kernel
theorem dX10_herdSize_25 : decode cX10_herdSize 25 = .ok (.iconst 2, 1) := by decide +kernel
theorem dX10_herdSize_26 : decode cX10_herdSize 26 = .ok (.invokevirtual 69, 3) := by decide +kernel
theorem dX10_herdSize_29 : decode cX10_herdSize 29 = .ok (.goto 4, 3) := by decide +kernel
theorem dX10_herdSize_32 : decode cX10_herdSize 32 = .ok (.iconst 0, 1) := by decide +kernel
theorem dX10_herdSize_33 : decode cX10_herdSize 33 = .ok (.ireturn, 1) := by decide +kernel
theorem dX10_herdSizeByChairs_0 : decode cX10_herdSizeByChairs 0 = .ok (.aload_n 0, 1) := by decide +kernel
theorem dX10_herdSizeByChairs_1 : decode cX10_herdSizeByChairs 1 = .ok (.iload_n 1, 1) := by decide +kernel
theorem dX10_herdSizeByChairs_2 : decode cX10_herdSizeByChairs 2 = .ok (.invokevirtual 182, 3) := by decide +kernel
theorem dX10_herdSizeByChairs_5 : decode cX10_herdSizeByChairs 5 = .ok (.ireturn, 1) := by decide +kernel
theorem dX10_chairAt_0 : decode cX10_chairAt 0 = .ok (.aload_n 0, 1) := by decide +kernel
theorem dX10_chairAt_1 : decode cX10_chairAt 1 = .ok (.iconst 0, 1) := by decide +kernel
theorem dX10_chairAt_2 : decode cX10_chairAt 2 = .ok (.putfield 39, 3) := by decide +kernel
theorem dX10_chairAt_5 : decode cX10_chairAt 5 = .ok (.iload_n 1, 1) := by decide +kernel
theorem dX10_chairAt_6 : decode cX10_chairAt 6 = .ok (.invokestatic 85, 3) := by decide +kernel
theorem dX10_chairAt_9 : decode cX10_chairAt 9 = .ok (.ifCond .ne 9, 3) := by decide +kernel
theorem dX10_chairAt_12 : decode cX10_chairAt 12 = .ok (.aload_n 0, 1) := by decide +kernel
theorem dX10_chairAt_13 : decode cX10_chairAt 13 = .ok (.iconst 1, 1) := by decide +kernel
theorem dX10_chairAt_14 : decode cX10_chairAt 14 = .ok (.invokevirtual 54, 3) := by decide +kernel
theorem dX10_chairAt_17 : decode cX10_chairAt 17 = .ok (.ireturn, 1) := by decide +kernel
theorem dX10_chairAt_18 : decode cX10_chairAt 18 = .ok (.iload_n 2, 1) := by decide +kernel
theorem dX10_chairAt_19 : decode cX10_chairAt 19 = .ok (.iconst 0, 1) := by decide +kernel
theorem dX10_chairAt_20 : decode cX10_chairAt 20 = .ok (.aload_n 0, 1) := by decide +kernel
theorem dX10_chairAt_21 : decode cX10_chairAt 21 = .ok (.iload_n 1, 1) := by decide +kernel
theorem dX10_chairAt_22 : decode cX10_chairAt 22 = .ok (.iconst 2, 1) := by decide +kernel
theorem dX10_chairAt_23 : decode cX10_chairAt 23 = .ok (.invokevirtual 69, 3) := by decide +kernel
theorem dX10_chairAt_26 : decode cX10_chairAt 26 = .ok (.iconst 1, 1) := by decide +kernel
theorem dX10_chairAt_27 : decode cX10_chairAt 27 = .ok (.isub, 1) := by decide +kernel
theorem dX10_chairAt_28 : decode cX10_chairAt 28 = .ok (.invokestatic 61, 3) := by decide +kernel
theorem dX10_chairAt_31 : decode cX10_chairAt 31 = .ok (.ifCond .eq 12, 3) := by decide +kernel
theorem dX10_chairAt_34 : decode cX10_chairAt 34 = .ok (.aload_n 0, 1) := by decide +kernel
theorem dX10_chairAt_35 : decode cX10_chairAt 35 = .ok (.iload_n 1, 1) := by decide +kernel
theorem dX10_chairAt_36 : decode cX10_chairAt 36 = .ok (.iload_n 2, 1) := by decide +kernel
theorem dX10_chairAt_37 : decode cX10_chairAt 37 = .ok (.invokevirtual 147, 3) := by decide +kernel
theorem dX10_chairAt_40 : decode cX10_chairAt 40 = .ok (.goto 8, 3) := by decide +kernel
theorem dX10_chairAt_43 : decode cX10_chairAt 43 = .ok (.aload_n 0, 1) := by decide +kernel
theorem dX10_chairAt_44 : decode cX10_chairAt 44 = .ok (.iconst 2, 1) := by decide +kernel
theorem dX10_chairAt_45 : decode cX10_chairAt 45 = .ok (.invokevirtual 54, 3) := by decide +kernel
theorem dX10_chairAt_48 : decode cX10_chairAt 48 = .ok (.ireturn, 1) := by decide +kernel
theorem dX10_elderOf_0 : decode cX10_elderOf 0 = .ok (.aload_n 0, 1) := by decide +kernel
theorem dX10_elderOf_1 : decode cX10_elderOf 1 = .ok (.iconst 0, 1) := by decide +kernel
theorem dX10_elderOf_2 : decode cX10_elderOf 2 = .ok (.putfield 39, 3) := by decide +kernel
theorem dX10_elderOf_5 : decode cX10_elderOf 5 = .ok (.iload_n 1, 1) := by decide +kernel
theorem dX10_elderOf_6 : decode cX10_elderOf 6 = .ok (.invokestatic 85, 3) := by decide +kernel
theorem dX10_elderOf_9 : decode cX10_elderOf 9 = .ok (.ifCond .ne 9, 3) := by decide +kernel
theorem dX10_elderOf_12 : decode cX10_elderOf 12 = .ok (.aload_n 0, 1) := by decide +kernel
theorem dX10_elderOf_13 : decode cX10_elderOf 13 = .ok (.iconst 1, 1) := by decide +kernel
theorem dX10_elderOf_14 : decode cX10_elderOf 14 = .ok (.invokevirtual 54, 3) := by decide +kernel
theorem dX10_elderOf_17 : decode cX10_elderOf 17 = .ok (.ireturn, 1) := by decide +kernel
theorem dX10_elderOf_18 : decode cX10_elderOf 18 = .ok (.iconst (-1), 1) := by decide +kernel
theorem dX10_elderOf_19 : decode cX10_elderOf 19 = .ok (.istore_n 2, 1) := by decide +kernel
theorem dX10_elderOf_20 : decode cX10_elderOf 20 = .ok (.iconst 0, 1) := by decide +kernel
theorem dX10_elderOf_21 : decode cX10_elderOf 21 = .ok (.istore_n 3, 1) := by decide +kernel
theorem dX10_elderOf_22 : decode cX10_elderOf 22 = .ok (.iload_n 3, 1) := by decide +kernel
theorem dX10_elderOf_23 : decode cX10_elderOf 23 = .ok (.aload_n 0, 1) := by decide +kernel
theorem dX10_elderOf_24 : decode cX10_elderOf 24 = .ok (.getfield 9, 3) := by decide +kernel
theorem dX10_elderOf_27 : decode cX10_elderOf 27 = .ok (.iconst 0, 1) := by decide +kernel
theorem dX10_elderOf_28 : decode cX10_elderOf 28 = .ok (.iaload, 1) := by decide +kernel
theorem dX10_elderOf_29 : decode cX10_elderOf 29 = .ok (.if_icmp .ge 40, 3) := by decide +kernel
theorem dX10_elderOf_32 : decode cX10_elderOf 32 = .ok (.aload_n 0, 1) := by decide +kernel
theorem dX10_elderOf_33 : decode cX10_elderOf 33 = .ok (.iload_n 3, 1) := by decide +kernel
theorem dX10_elderOf_34 : decode cX10_elderOf 34 = .ok (.iconst 1, 1) := by decide +kernel
theorem dX10_elderOf_35 : decode cX10_elderOf 35 = .ok (.invokevirtual 65, 3) := by decide +kernel
theorem dX10_elderOf_38 : decode cX10_elderOf 38 = .ok (.iload_n 1, 1) := by decide +kernel
theorem dX10_elderOf_39 : decode cX10_elderOf 39 = .ok (.if_icmp .ne 24, 3) := by decide +kernel
theorem dX10_elderOf_42 : decode cX10_elderOf 42 = .ok (.iload_n 2, 1) := by decide +kernel
theorem dX10_elderOf_43 : decode cX10_elderOf 43 = .ok (.ifCond .lt 18, 3) := by decide +kernel
theorem dX10_elderOf_46 : decode cX10_elderOf 46 = .ok (.aload_n 0, 1) := by decide +kernel
theorem dX10_elderOf_47 : decode cX10_elderOf 47 = .ok (.iload_n 3, 1) := by decide +kernel
theorem dX10_elderOf_48 : decode cX10_elderOf 48 = .ok (.iconst 2, 1) := by decide +kernel
theorem dX10_elderOf_49 : decode cX10_elderOf 49 = .ok (.invokevirtual 65, 3) := by decide +kernel
theorem dX10_elderOf_52 : decode cX10_elderOf 52 = .ok (.aload_n 0, 1) := by decide +kernel
theorem dX10_elderOf_53 : decode cX10_elderOf 53 = .ok (.iload_n 2, 1) := by decide +kernel
theorem dX10_elderOf_54 : decode cX10_elderOf 54 = .ok (.iconst 2, 1) := by decide +kernel
theorem dX10_elderOf_55 : decode cX10_elderOf 55 = .ok (.invokevirtual 65, 3) := by decide +kernel
theorem dX10_elderOf_58 : decode cX10_elderOf 58 = .ok (.if_icmp .le 5, 3) := by decide +kernel
theorem dX10_elderOf_61 : decode cX10_elderOf 61 = .ok (.iload_n 3, 1) := by decide +kernel
theorem dX10_elderOf_62 : decode cX10_elderOf 62 = .ok (.istore_n 2, 1) := by decide +kernel
theorem dX10_elderOf_63 : decode cX10_elderOf 63 = .ok (.iinc 3 1, 3) := by decide +kernel
theorem dX10_elderOf_66 : decode cX10_elderOf 66 = .ok (.goto (-44), 3) := by decide +kernel
theorem dX10_elderOf_69 : decode cX10_elderOf 69 = .ok (.iload_n 2, 1) := by decide +kernel
theorem dX10_elderOf_70 : decode cX10_elderOf 70 = .ok (.ifCond .ge 11, 3) := by decide +kernel
theorem dX10_elderOf_73 : decode cX10_elderOf 73 = .ok (.aload_n 0, 1) := by decide +kernel
theorem dX10_elderOf_74 : decode cX10_elderOf 74 = .ok (.iconst 2, 1) := by decide +kernel
theorem dX10_elderOf_75 : decode cX10_elderOf 75 = .ok (.invokevirtual 54, 3) := by decide +kernel
theorem dX10_elderOf_78 : decode cX10_elderOf 78 = .ok (.goto 9, 3) := by decide +kernel
theorem dX10_elderOf_81 : decode cX10_elderOf 81 = .ok (.aload_n 0, 1) := by decide +kernel
theorem dX10_elderOf_82 : decode cX10_elderOf 82 = .ok (.iload_n 2, 1) := by decide +kernel
theorem dX10_elderOf_83 : decode cX10_elderOf 83 = .ok (.iconst 0, 1) := by decide +kernel
theorem dX10_elderOf_84 : decode cX10_elderOf 84 = .ok (.invokevirtual 65, 3) := by decide +kernel
theorem dX10_elderOf_87 : decode cX10_elderOf 87 = .ok (.ireturn, 1) := by decide +kernel
theorem dX10_hungryChairs_0 : decode cX10_hungryChairs 0 = .ok (.aload_n 0, 1) := by decide +kernel
theorem dX10_hungryChairs_1 : decode cX10_hungryChairs 1 = .ok (.iload_n 1, 1) := by decide +kernel
theorem dX10_hungryChairs_2 : decode cX10_hungryChairs 2 = .ok (.invokestatic 85, 3) := by decide +kernel
theorem dX10_hungryChairs_5 : decode cX10_hungryChairs 5 = .ok (.ifCond .eq 7, 3) := by decide +kernel
theorem dX10_hungryChairs_8 : decode cX10_hungryChairs 8 = .ok (.iconst 0, 1) := by decide +kernel
theorem dX10_hungryChairs_9 : decode cX10_hungryChairs 9 = .ok (.goto 4, 3) := by decide +kernel
theorem dX10_hungryChairs_12 : decode cX10_hungryChairs 12 = .ok (.iconst 1, 1) := by decide +kernel
theorem dX10_hungryChairs_13 : decode cX10_hungryChairs 13 = .ok (.putfield 39, 3) := by decide +kernel
theorem dX10_hungryChairs_16 : decode cX10_hungryChairs 16 = .ok (.aload_n 0, 1) := by decide +kernel
theorem dX10_hungryChairs_17 : decode cX10_hungryChairs 17 = .ok (.getfield 39, 3) := by decide +kernel
theorem dX10_hungryChairs_20 : decode cX10_hungryChairs 20 = .ok (.ifCond .ne 22, 3) := by decide +kernel
theorem dX10_hungryChairs_23 : decode cX10_hungryChairs 23 = .ok (.iconst 0, 1) := by decide +kernel
theorem dX10_hungryChairs_24 : decode cX10_hungryChairs 24 = .ok (.aload_n 0, 1) := by decide +kernel
theorem dX10_hungryChairs_25 : decode cX10_hungryChairs 25 = .ok (.iload_n 1, 1) := by decide +kernel
theorem dX10_hungryChairs_26 : decode cX10_hungryChairs 26 = .ok (.invokevirtual 150, 3) := by decide +kernel
theorem dX10_hungryChairs_29 : decode cX10_hungryChairs 29 = .ok (.aload_n 0, 1) := by decide +kernel
theorem dX10_hungryChairs_30 : decode cX10_hungryChairs 30 = .ok (.iload_n 1, 1) := by decide +kernel
theorem dX10_hungryChairs_31 : decode cX10_hungryChairs 31 = .ok (.iconst 0, 1) := by decide +kernel
theorem dX10_hungryChairs_32 : decode cX10_hungryChairs 32 = .ok (.invokevirtual 69, 3) := by decide +kernel
theorem dX10_hungryChairs_35 : decode cX10_hungryChairs 35 = .ok (.isub, 1) := by decide +kernel
theorem dX10_hungryChairs_36 : decode cX10_hungryChairs 36 = .ok (.invokestatic 156, 3) := by decide +kernel
theorem dX10_hungryChairs_39 : decode cX10_hungryChairs 39 = .ok (.goto 4, 3) := by decide +kernel
theorem dX10_hungryChairs_42 : decode cX10_hungryChairs 42 = .ok (.iconst 0, 1) := by decide +kernel
theorem dX10_hungryChairs_43 : decode cX10_hungryChairs 43 = .ok (.ireturn, 1) := by decide +kernel
theorem dX10_isShadier_0 : decode cX10_isShadier 0 = .ok (.aload_n 0, 1) := by decide +kernel
theorem dX10_isShadier_1 : decode cX10_isShadier 1 = .ok (.iload_n 1, 1) := by decide +kernel
theorem dX10_isShadier_2 : decode cX10_isShadier 2 = .ok (.iconst 0, 1) := by decide +kernel
theorem dX10_isShadier_3 : decode cX10_isShadier 3 = .ok (.invokevirtual 69, 3) := by decide +kernel
theorem dX10_isShadier_6 : decode cX10_isShadier 6 = .ok (.aload_n 0, 1) := by decide +kernel
theorem dX10_isShadier_7 : decode cX10_isShadier 7 = .ok (.iload_n 2, 1) := by decide +kernel
theorem dX10_isShadier_8 : decode cX10_isShadier 8 = .ok (.iconst 0, 1) := by decide +kernel
theorem dX10_isShadier_9 : decode cX10_isShadier 9 = .ok (.invokevirtual 69, 3) := by decide +kernel
theorem dX10_isShadier_12 : decode cX10_isShadier 12 = .ok (.isub, 1) := by decide +kernel
theorem dX10_isShadier_13 : decode cX10_isShadier 13 = .ok (.istore_n 3, 1) := by decide +kernel
theorem dX10_isShadier_14 : decode cX10_isShadier 14 = .ok (.iload_n 3, 1) := by decide +kernel
theorem dX10_isShadier_15 : decode cX10_isShadier 15 = .ok (.ifCond .ne 17, 3) := by decide +kernel
theorem dX10_isShadier_18 : decode cX10_isShadier 18 = .ok (.aload_n 0, 1) := by decide +kernel
theorem dX10_isShadier_19 : decode cX10_isShadier 19 = .ok (.iload_n 2, 1) := by decide +kernel
theorem dX10_isShadier_20 : decode cX10_isShadier 20 = .ok (.iconst 2, 1) := by decide +kernel
theorem dX10_isShadier_21 : decode cX10_isShadier 21 = .ok (.invokevirtual 69, 3) := by decide +kernel
theorem dX10_isShadier_24 : decode cX10_isShadier 24 = .ok (.aload_n 0, 1) := by decide +kernel
theorem dX10_isShadier_25 : decode cX10_isShadier 25 = .ok (.iload_n 1, 1) := by decide +kernel
theorem dX10_isShadier_26 : decode cX10_isShadier 26 = .ok (.iconst 2, 1) := by decide +kernel
theorem dX10_isShadier_27 : decode cX10_isShadier 27 = .ok (.invokevirtual 69, 3) := by decide +kernel
theorem dX10_isShadier_30 : decode cX10_isShadier 30 = .ok (.isub, 1) := by decide +kernel
theorem dX10_isShadier_31 : decode cX10_isShadier 31 = .ok (.istore_n 3, 1) := by decide +kernel
theorem dX10_isShadier_32 : decode cX10_isShadier 32 = .ok (.iload_n 3, 1) := by decide +kernel
theorem dX10_isShadier_33 : decode cX10_isShadier 33 = .ok (.ifCond .gt 12, 3) := by decide +kernel
theorem dX10_isShadier_36 : decode cX10_isShadier 36 = .ok (.iload_n 3, 1) := by decide +kernel
theorem dX10_isShadier_37 : decode cX10_isShadier 37 = .ok (.ifCond .ne 12, 3) := by decide +kernel
theorem dX10_isShadier_40 : decode cX10_isShadier 40 = .ok (.iload_n 1, 1) := by decide +kernel
theorem dX10_isShadier_41 : decode cX10_isShadier 41 = .ok (.iload_n 2, 1) := by decide +kernel
theorem dX10_isShadier_42 : decode cX10_isShadier 42 = .ok (.if_icmp .ge 7, 3) := by decide +kernel
theorem dX10_isShadier_45 : decode cX10_isShadier 45 = .ok (.iconst 1, 1) := by decide +kernel
theorem dX10_isShadier_46 : decode cX10_isShadier 46 = .ok (.goto 4, 3) := by decide +kernel
theorem dX10_isShadier_49 : decode cX10_isShadier 49 = .ok (.iconst 0, 1) := by decide +kernel
theorem dX10_isShadier_50 : decode cX10_isShadier 50 = .ok (.ireturn, 1) := by decide +kernel
theorem dX10_bestNeighbour_0 : decode cX10_bestNeighbour 0 = .ok (.aload_n 0, 1) := by decide +kernel
theorem dX10_bestNeighbour_1 : decode cX10_bestNeighbour 1 = .ok (.iconst 0, 1) := by decide +kernel
theorem dX10_bestNeighbour_2 : decode cX10_bestNeighbour 2 = .ok (.putfield 39, 3) := by decide +kernel
theorem dX10_bestNeighbour_5 : decode cX10_bestNeighbour 5 = .ok (.iload_n 1, 1) := by decide +kernel
theorem dX10_bestNeighbour_6 : decode cX10_bestNeighbour 6 = .ok (.invokestatic 85, 3) := by decide +kernel
theorem dX10_bestNeighbour_9 : decode cX10_bestNeighbour 9 = .ok (.ifCond .ne 9, 3) := by decide +kernel
theorem dX10_bestNeighbour_12 : decode cX10_bestNeighbour 12 = .ok (.aload_n 0, 1) := by decide +kernel
theorem dX10_bestNeighbour_13 : decode cX10_bestNeighbour 13 = .ok (.iconst 1, 1) := by decide +kernel
theorem dX10_bestNeighbour_14 : decode cX10_bestNeighbour 14 = .ok (.invokevirtual 54, 3) := by decide +kernel
theorem dX10_bestNeighbour_17 : decode cX10_bestNeighbour 17 = .ok (.ireturn, 1) := by decide +kernel
theorem dX10_bestNeighbour_18 : decode cX10_bestNeighbour 18 = .ok (.iconst (-1), 1) := by decide +kernel
theorem dX10_bestNeighbour_19 : decode cX10_bestNeighbour 19 = .ok (.istore_n 2, 1) := by decide +kernel
theorem dX10_bestNeighbour_20 : decode cX10_bestNeighbour 20 = .ok (.iconst 0, 1) := by decide +kernel
theorem dX10_bestNeighbour_21 : decode cX10_bestNeighbour 21 = .ok (.istore_n 3, 1) := by decide +kernel
theorem dX10_bestNeighbour_22 : decode cX10_bestNeighbour 22 = .ok (.iload_n 3, 1) := by decide +kernel
theorem dX10_bestNeighbour_23 : decode cX10_bestNeighbour 23 = .ok (.bipush 6, 2) := by decide +kernel
theorem dX10_bestNeighbour_25 : decode cX10_bestNeighbour 25 = .ok (.if_icmp .ge 33, 3) := by decide +kernel
theorem dX10_bestNeighbour_28 : decode cX10_bestNeighbour 28 = .ok (.aload_n 0, 1) := by decide +kernel
theorem dX10_bestNeighbour_29 : decode cX10_bestNeighbour 29 = .ok (.iload_n 1, 1) := by decide +kernel
theorem dX10_bestNeighbour_30 : decode cX10_bestNeighbour 30 = .ok (.iload_n 3, 1) := by decide +kernel
theorem dX10_bestNeighbour_31 : decode cX10_bestNeighbour 31 = .ok (.invokevirtual 89, 3) := by decide +kernel
theorem dX10_bestNeighbour_34 : decode cX10_bestNeighbour 34 = .ok (.ifCond .eq 18, 3) := by decide +kernel
theorem dX10_bestNeighbour_37 : decode cX10_bestNeighbour 37 = .ok (.iload_n 2, 1) := by decide +kernel
theorem dX10_bestNeighbour_38 : decode cX10_bestNeighbour 38 = .ok (.ifCond .lt 12, 3) := by decide +kernel
theorem dX10_bestNeighbour_41 : decode cX10_bestNeighbour 41 = .ok (.aload_n 0, 1) := by decide +kernel
theorem dX10_bestNeighbour_42 : decode cX10_bestNeighbour 42 = .ok (.iload_n 3, 1) := by decide +kernel
theorem dX10_bestNeighbour_43 : decode cX10_bestNeighbour 43 = .ok (.iload_n 2, 1) := by decide +kernel
theorem dX10_bestNeighbour_44 : decode cX10_bestNeighbour 44 = .ok (.invokevirtual 185, 3) := by decide +kernel
theorem dX10_bestNeighbour_47 : decode cX10_bestNeighbour 47 = .ok (.ifCond .eq 5, 3) := by decide +kernel
theorem dX10_bestNeighbour_50 : decode cX10_bestNeighbour 50 = .ok (.iload_n 3, 1) := by decide +kernel
theorem dX10_bestNeighbour_51 : decode cX10_bestNeighbour 51 = .ok (.istore_n 2, 1) := by decide +kernel
theorem dX10_bestNeighbour_52 : decode cX10_bestNeighbour 52 = .ok (.iinc 3 1, 3) := by decide +kernel
theorem dX10_bestNeighbour_55 : decode cX10_bestNeighbour 55 = .ok (.goto (-33), 3) := by decide +kernel
theorem dX10_bestNeighbour_58 : decode cX10_bestNeighbour 58 = .ok (.iload_n 2, 1) := by decide +kernel
theorem dX10_bestNeighbour_59 : decode cX10_bestNeighbour 59 = .ok (.ifCond .ge 11, 3) := by decide +kernel
theorem dX10_bestNeighbour_62 : decode cX10_bestNeighbour 62 = .ok (.aload_n 0, 1) := by decide +kernel
theorem dX10_bestNeighbour_63 : decode cX10_bestNeighbour 63 = .ok (.iconst 2, 1) := by decide +kernel
theorem dX10_bestNeighbour_64 : decode cX10_bestNeighbour 64 = .ok (.invokevirtual 54, 3) := by decide +kernel
theorem dX10_bestNeighbour_67 : decode cX10_bestNeighbour 67 = .ok (.goto 4, 3) := by decide +kernel
theorem dX10_bestNeighbour_70 : decode cX10_bestNeighbour 70 = .ok (.iload_n 2, 1) := by decide +kernel
theorem dX10_bestNeighbour_71 : decode cX10_bestNeighbour 71 = .ok (.ireturn, 1) := by decide +kernel
theorem dX10_day_0 : decode cX10_day 0 = .ok (.aload_n 0, 1) := by decide +kernel
theorem dX10_day_1 : decode cX10_day 1 = .ok (.iconst 0, 1) := by decide +kernel
theorem dX10_day_2 : decode cX10_day 2 = .ok (.putfield 39, 3) := by decide +kernel
theorem dX10_day_5 : decode cX10_day 5 = .ok (.aload_n 0, 1) := by decide +kernel
theorem dX10_day_6 : decode cX10_day 6 = .ok (.getfield 9, 3) := by decide +kernel
theorem dX10_day_9 : decode cX10_day 9 = .ok (.iconst 2, 1) := by decide +kernel
theorem dX10_day_10 : decode cX10_day 10 = .ok (.iaload, 1) := by decide +kernel
theorem dX10_day_11 : decode cX10_day 11 = .ok (.ireturn, 1) := by decide +kernel
theorem dX10_season_0 : decode cX10_season 0 = .ok (.aload_n 0, 1) := by decide +kernel
theorem dX10_season_1 : decode cX10_season 1 = .ok (.iconst 0, 1) := by decide +kernel
theorem dX10_season_2 : decode cX10_season 2 = .ok (.putfield 39, 3) := by decide +kernel
theorem dX10_season_5 : decode cX10_season 5 = .ok (.aload_n 0, 1) := by decide +kernel
theorem dX10_season_6 : decode cX10_season 6 = .ok (.getfield 9, 3) := by decide +kernel
theorem dX10_season_9 : decode cX10_season 9 = .ok (.iconst 2, 1) := by decide +kernel
theorem dX10_season_10 : decode cX10_season 10 = .ok (.iaload, 1) := by decide +kernel
theorem dX10_season_11 : decode cX10_season 11 = .ok (.iconst 5, 1) := by decide +kernel
theorem dX10_season_12 : decode cX10_season 12 = .ok (.idiv, 1) := by decide +kernel
theorem dX10_season_13 : decode cX10_season 13 = .ok (.iconst 4, 1) := by decide +kernel
theorem dX10_season_14 : decode cX10_season 14 = .ok (.irem, 1) := by decide +kernel
theorem dX10_season_15 : decode cX10_season 15 = .ok (.ireturn, 1) := by decide +kernel
theorem dX10_daysUntil_0 : decode cX10_daysUntil 0 = .ok (.aload_n 0, 1) := by decide +kernel
theorem dX10_daysUntil_1 : decode cX10_daysUntil 1 = .ok (.iload_n 1, 1) := by decide +kernel
theorem dX10_daysUntil_2 : decode cX10_daysUntil 2 = .ok (.iconst 0, 1) := by decide +kernel
theorem dX10_daysUntil_3 : decode cX10_daysUntil 3 = .ok (.iconst 3, 1) := by decide +kernel
theorem dX10_daysUntil_4 : decode cX10_daysUntil 4 = .ok (.invokestatic 61, 3) := by decide +kernel
theorem dX10_daysUntil_7 : decode cX10_daysUntil 7 = .ok (.ifCond .eq 7, 3) := by decide +kernel
theorem dX10_daysUntil_10 : decode cX10_daysUntil 10 = .ok (.iconst 0, 1) := by decide +kernel
theorem dX10_daysUntil_11 : decode cX10_daysUntil 11 = .ok (.goto 4, 3) := by decide +kernel
theorem dX10_daysUntil_14 : decode cX10_daysUntil 14 = .ok (.iconst 1, 1) := by decide +kernel
theorem dX10_daysUntil_15 : decode cX10_daysUntil 15 = .ok (.putfield 39, 3) := by decide +kernel
theorem dX10_daysUntil_18 : decode cX10_daysUntil 18 = .ok (.aload_n 0, 1) := by decide +kernel
theorem dX10_daysUntil_19 : decode cX10_daysUntil 19 = .ok (.getfield 39, 3) := by decide +kernel
theorem dX10_daysUntil_22 : decode cX10_daysUntil 22 = .ok (.ifCond .le 5, 3) := by decide +kernel
theorem dX10_daysUntil_25 : decode cX10_daysUntil 25 = .ok (.iconst 0, 1) := by decide +kernel
theorem dX10_daysUntil_26 : decode cX10_daysUntil 26 = .ok (.ireturn, 1) := by decide +kernel
theorem dX10_daysUntil_27 : decode cX10_daysUntil 27 = .ok (.iconst 0, 1) := by decide +kernel
theorem dX10_daysUntil_28 : decode cX10_daysUntil 28 = .ok (.istore_n 2, 1) := by decide +kernel
theorem dX10_daysUntil_29 : decode cX10_daysUntil 29 = .ok (.aload_n 0, 1) := by decide +kernel
theorem dX10_daysUntil_30 : decode cX10_daysUntil 30 = .ok (.getfield 9, 3) := by decide +kernel
theorem dX10_daysUntil_33 : decode cX10_daysUntil 33 = .ok (.iconst 2, 1) := by decide +kernel
theorem dX10_daysUntil_34 : decode cX10_daysUntil 34 = .ok (.iaload, 1) := by decide +kernel
theorem dX10_daysUntil_35 : decode cX10_daysUntil 35 = .ok (.iload_n 2, 1) := by decide +kernel
theorem dX10_daysUntil_36 : decode cX10_daysUntil 36 = .ok (.iadd, 1) := by decide +kernel
theorem dX10_daysUntil_37 : decode cX10_daysUntil 37 = .ok (.iconst 5, 1) := by decide +kernel
theorem dX10_daysUntil_38 : decode cX10_daysUntil 38 = .ok (.idiv, 1) := by decide +kernel
theorem dX10_daysUntil_39 : decode cX10_daysUntil 39 = .ok (.iconst 4, 1) := by decide +kernel
theorem dX10_daysUntil_40 : decode cX10_daysUntil 40 = .ok (.irem, 1) := by decide +kernel
theorem dX10_daysUntil_41 : decode cX10_daysUntil 41 = .ok (.iload_n 1, 1) := by decide +kernel
theorem dX10_daysUntil_42 : decode cX10_daysUntil 42 = .ok (.if_icmp .eq 9, 3) := by decide +kernel
theorem dX10_daysUntil_45 : decode cX10_daysUntil 45 = .ok (.iinc 2 1, 3) := by decide +kernel
theorem dX10_daysUntil_48 : decode cX10_daysUntil 48 = .ok (.goto (-19), 3) := by decide +kernel
theorem dX10_daysUntil_51 : decode cX10_daysUntil 51 = .ok (.iload_n 2, 1) := by decide +kernel
theorem dX10_daysUntil_52 : decode cX10_daysUntil 52 = .ok (.ireturn, 1) := by decide +kernel
theorem dX10_thinks_0 : decode cX10_thinks 0 = .ok (.iconst 0, 1) := by decide +kernel
theorem dX10_thinks_1 : decode cX10_thinks 1 = .ok (.istore_n 1, 1) := by decide +kernel
theorem dX10_thinks_2 : decode cX10_thinks 2 = .ok (.iload_n 1, 1) := by decide +kernel
theorem dX10_thinks_3 : decode cX10_thinks 3 = .ok (.bipush 116, 2) := by decide +kernel
theorem dX10_thinks_5 : decode cX10_thinks 5 = .ok (.if_icmp .ge 21, 3) := by decide +kernel
theorem dX10_thinks_8 : decode cX10_thinks 8 = .ok (.aload_n 0, 1) := by decide +kernel
theorem dX10_thinks_9 : decode cX10_thinks 9 = .ok (.getfield 16, 3) := by decide +kernel
theorem dX10_thinks_12 : decode cX10_thinks 12 = .ok (.iload_n 1, 1) := by decide +kernel
theorem dX10_thinks_13 : decode cX10_thinks 13 = .ok (.aload_n 0, 1) := by decide +kernel
theorem dX10_thinks_14 : decode cX10_thinks 14 = .ok (.getfield 9, 3) := by decide +kernel
theorem dX10_thinks_17 : decode cX10_thinks 17 = .ok (.iload_n 1, 1) := by decide +kernel
theorem dX10_thinks_18 : decode cX10_thinks 18 = .ok (.iaload, 1) := by decide +kernel
theorem dX10_thinks_19 : decode cX10_thinks 19 = .ok (.iastore, 1) := by decide +kernel
theorem dX10_thinks_20 : decode cX10_thinks 20 = .ok (.iinc 1 1, 3) := by decide +kernel
theorem dX10_thinks_23 : decode cX10_thinks 23 = .ok (.goto (-21), 3) := by decide +kernel
theorem dX10_thinks_26 : decode cX10_thinks 26 = .ok (.return_, 1) := by decide +kernel
theorem dX10_forgets_0 : decode cX10_forgets 0 = .ok (.iconst 0, 1) := by decide +kernel
theorem dX10_forgets_1 : decode cX10_forgets 1 = .ok (.istore_n 1, 1) := by decide +kernel
theorem dX10_forgets_2 : decode cX10_forgets 2 = .ok (.iload_n 1, 1) := by decide +kernel
theorem dX10_forgets_3 : decode cX10_forgets 3 = .ok (.bipush 116, 2) := by decide +kernel
theorem dX10_forgets_5 : decode cX10_forgets 5 = .ok (.if_icmp .ge 21, 3) := by decide +kernel
theorem dX10_forgets_8 : decode cX10_forgets 8 = .ok (.aload_n 0, 1) := by decide +kernel
theorem dX10_forgets_9 : decode cX10_forgets 9 = .ok (.getfield 9, 3) := by decide +kernel
theorem dX10_forgets_12 : decode cX10_forgets 12 = .ok (.iload_n 1, 1) := by decide +kernel
theorem dX10_forgets_13 : decode cX10_forgets 13 = .ok (.aload_n 0, 1) := by decide +kernel
theorem dX10_forgets_14 : decode cX10_forgets 14 = .ok (.getfield 16, 3) := by decide +kernel
theorem dX10_forgets_17 : decode cX10_forgets 17 = .ok (.iload_n 1, 1) := by decide +kernel
theorem dX10_forgets_18 : decode cX10_forgets 18 = .ok (.iaload, 1) := by decide +kernel
theorem dX10_forgets_19 : decode cX10_forgets 19 = .ok (.iastore, 1) := by decide +kernel
theorem dX10_forgets_20 : decode cX10_forgets 20 = .ok (.iinc 1 1, 3) := by decide +kernel
theorem dX10_forgets_23 : decode cX10_forgets 23 = .ok (.goto (-21), 3) := by decide +kernel
theorem dX10_forgets_26 : decode cX10_forgets 26 = .ok (.return_, 1) := by decide +kernel
theorem dX10_wouldCollapse_0 : decode cX10_wouldCollapse 0 = .ok (.aload_n 0, 1) := by decide +kernel
theorem dX10_wouldCollapse_1 : decode cX10_wouldCollapse 1 = .ok (.iload_n 1, 1) := by decide +kernel
theorem dX10_wouldCollapse_2 : decode cX10_wouldCollapse 2 = .ok (.iconst 1, 1) := by decide +kernel
theorem dX10_wouldCollapse_3 : decode cX10_wouldCollapse 3 = .ok (.bipush 20, 2) := by decide +kernel
theorem dX10_wouldCollapse_5 : decode cX10_wouldCollapse 5 = .ok (.invokestatic 61, 3) := by decide +kernel
theorem dX10_wouldCollapse_8 : decode cX10_wouldCollapse 8 = .ok (.ifCond .eq 7, 3) := by decide +kernel
theorem dX10_wouldCollapse_11 : decode cX10_wouldCollapse 11 = .ok (.iconst 0, 1) := by decide +kernel
theorem dX10_wouldCollapse_12 : decode cX10_wouldCollapse 12 = .ok (.goto 4, 3) := by decide +kernel
theorem dX10_wouldCollapse_15 : decode cX10_wouldCollapse 15 = .ok (.iconst 1, 1) := by decide +kernel
theorem dX10_wouldCollapse_16 : decode cX10_wouldCollapse 16 = .ok (.putfield 39, 3) := by decide +kernel
theorem dX10_wouldCollapse_19 : decode cX10_wouldCollapse 19 = .ok (.aload_n 0, 1) := by decide +kernel
theorem dX10_wouldCollapse_20 : decode cX10_wouldCollapse 20 = .ok (.getfield 39, 3) := by decide +kernel
theorem dX10_wouldCollapse_23 : decode cX10_wouldCollapse 23 = .ok (.ifCond .le 5, 3) := by decide +kernel
theorem dX10_wouldCollapse_26 : decode cX10_wouldCollapse 26 = .ok (.iconst 0, 1) := by decide +kernel
theorem dX10_wouldCollapse_27 : decode cX10_wouldCollapse 27 = .ok (.ireturn, 1) := by decide +kernel
theorem dX10_wouldCollapse_28 : decode cX10_wouldCollapse 28 = .ok (.aload_n 0, 1) := by decide +kernel
theorem dX10_wouldCollapse_29 : decode cX10_wouldCollapse 29 = .ok (.invokevirtual 188, 3) := by decide +kernel
theorem dX10_wouldCollapse_32 : decode cX10_wouldCollapse 32 = .ok (.iconst 0, 1) := by decide +kernel
theorem dX10_wouldCollapse_33 : decode cX10_wouldCollapse 33 = .ok (.istore_n 2, 1) := by decide +kernel
theorem dX10_wouldCollapse_34 : decode cX10_wouldCollapse 34 = .ok (.iconst 0, 1) := by decide +kernel
theorem dX10_wouldCollapse_35 : decode cX10_wouldCollapse 35 = .ok (.istore_n 3, 1) := by decide +kernel
theorem dX10_wouldCollapse_36 : decode cX10_wouldCollapse 36 = .ok (.iload_n 3, 1) := by decide +kernel
theorem dX10_wouldCollapse_37 : decode cX10_wouldCollapse 37 = .ok (.iload_n 1, 1) := by decide +kernel
theorem dX10_wouldCollapse_38 : decode cX10_wouldCollapse 38 = .ok (.if_icmp .ge 16, 3) := by decide +kernel
theorem dX10_wouldCollapse_41 : decode cX10_wouldCollapse 41 = .ok (.iload_n 2, 1) := by decide +kernel
theorem dX10_wouldCollapse_42 : decode cX10_wouldCollapse 42 = .ok (.aload_n 0, 1) := by decide +kernel
theorem dX10_wouldCollapse_43 : decode cX10_wouldCollapse 43 = .ok (.invokevirtual 170, 3) := by decide +kernel
theorem dX10_wouldCollapse_46 : decode cX10_wouldCollapse 46 = .ok (.iadd, 1) := by decide +kernel
theorem dX10_wouldCollapse_47 : decode cX10_wouldCollapse 47 = .ok (.istore_n 2, 1) := by decide +kernel
theorem dX10_wouldCollapse_48 : decode cX10_wouldCollapse 48 = .ok (.iinc 3 1, 3) := by decide +kernel
theorem dX10_wouldCollapse_51 : decode cX10_wouldCollapse 51 = .ok (.goto (-15), 3) := by decide +kernel
theorem dX10_wouldCollapse_54 : decode cX10_wouldCollapse 54 = .ok (.aload_n 0, 1) := by decide +kernel
theorem dX10_wouldCollapse_55 : decode cX10_wouldCollapse 55 = .ok (.invokevirtual 191, 3) := by decide +kernel
theorem dX10_wouldCollapse_58 : decode cX10_wouldCollapse 58 = .ok (.iload_n 2, 1) := by decide +kernel
theorem dX10_wouldCollapse_59 : decode cX10_wouldCollapse 59 = .ok (.ireturn, 1) := by decide +kernel
theorem dX10_collapseDay_0 : decode cX10_collapseDay 0 = .ok (.aload_n 0, 1) := by decide +kernel
theorem dX10_collapseDay_1 : decode cX10_collapseDay 1 = .ok (.aload_n 0, 1) := by decide +kernel
theorem dX10_collapseDay_2 : decode cX10_collapseDay 2 = .ok (.iload_n 1, 1) := by decide +kernel
theorem dX10_collapseDay_3 : decode cX10_collapseDay 3 = .ok (.invokevirtual 129, 3) := by decide +kernel
theorem dX10_collapseDay_6 : decode cX10_collapseDay 6 = .ok (.ifCond .ge 7, 3) := by decide +kernel
theorem dX10_collapseDay_9 : decode cX10_collapseDay 9 = .ok (.iconst 1, 1) := by decide +kernel
theorem dX10_collapseDay_10 : decode cX10_collapseDay 10 = .ok (.goto 4, 3) := by decide +kernel
theorem dX10_collapseDay_13 : decode cX10_collapseDay 13 = .ok (.iconst 0, 1) := by decide +kernel
theorem dX10_collapseDay_14 : decode cX10_collapseDay 14 = .ok (.putfield 39, 3) := by decide +kernel
theorem dX10_collapseDay_17 : decode cX10_collapseDay 17 = .ok (.aload_n 0, 1) := by decide +kernel
theorem dX10_collapseDay_18 : decode cX10_collapseDay 18 = .ok (.getfield 39, 3) := by decide +kernel
theorem dX10_collapseDay_21 : decode cX10_collapseDay 21 = .ok (.ifCond .le 5, 3) := by decide +kernel
theorem dX10_collapseDay_24 : decode cX10_collapseDay 24 = .ok (.iconst 0, 1) := by decide +kernel
theorem dX10_collapseDay_25 : decode cX10_collapseDay 25 = .ok (.ireturn, 1) := by decide +kernel
theorem dX10_collapseDay_26 : decode cX10_collapseDay 26 = .ok (.aload_n 0, 1) := by decide +kernel
theorem dX10_collapseDay_27 : decode cX10_collapseDay 27 = .ok (.invokevirtual 188, 3) := by decide +kernel
theorem dX10_collapseDay_30 : decode cX10_collapseDay 30 = .ok (.iconst 0, 1) := by decide +kernel
theorem dX10_collapseDay_31 : decode cX10_collapseDay 31 = .ok (.istore_n 2, 1) := by decide +kernel
theorem dX10_collapseDay_32 : decode cX10_collapseDay 32 = .ok (.iconst 0, 1) := by decide +kernel
theorem dX10_collapseDay_33 : decode cX10_collapseDay 33 = .ok (.istore_n 3, 1) := by decide +kernel
theorem dX10_collapseDay_34 : decode cX10_collapseDay 34 = .ok (.iload_n 2, 1) := by decide +kernel
theorem dX10_collapseDay_35 : decode cX10_collapseDay 35 = .ok (.bipush 101, 2) := by decide +kernel
theorem dX10_collapseDay_37 : decode cX10_collapseDay 37 = .ok (.if_icmp .ge 24, 3) := by decide +kernel
theorem dX10_collapseDay_40 : decode cX10_collapseDay 40 = .ok (.aload_n 0, 1) := by decide +kernel
theorem dX10_collapseDay_41 : decode cX10_collapseDay 41 = .ok (.iload_n 1, 1) := by decide +kernel
theorem dX10_collapseDay_42 : decode cX10_collapseDay 42 = .ok (.invokevirtual 129, 3) := by decide +kernel
theorem dX10_collapseDay_45 : decode cX10_collapseDay 45 = .ok (.ifCond .lt 16, 3) := by decide +kernel
theorem dX10_collapseDay_48 : decode cX10_collapseDay 48 = .ok (.iload_n 3, 1) := by decide +kernel
theorem dX10_collapseDay_49 : decode cX10_collapseDay 49 = .ok (.aload_n 0, 1) := by decide +kernel
theorem dX10_collapseDay_50 : decode cX10_collapseDay 50 = .ok (.invokevirtual 170, 3) := by decide +kernel
theorem dX10_collapseDay_53 : decode cX10_collapseDay 53 = .ok (.iadd, 1) := by decide +kernel
theorem dX10_collapseDay_54 : decode cX10_collapseDay 54 = .ok (.istore_n 3, 1) := by decide +kernel
theorem dX10_collapseDay_55 : decode cX10_collapseDay 55 = .ok (.iinc 2 1, 3) := by decide +kernel
theorem dX10_collapseDay_58 : decode cX10_collapseDay 58 = .ok (.goto (-24), 3) := by decide +kernel
theorem dX10_collapseDay_61 : decode cX10_collapseDay 61 = .ok (.aload_n 0, 1) := by decide +kernel
theorem dX10_collapseDay_62 : decode cX10_collapseDay 62 = .ok (.invokevirtual 191, 3) := by decide +kernel
theorem dX10_collapseDay_65 : decode cX10_collapseDay 65 = .ok (.iload_n 2, 1) := by decide +kernel
theorem dX10_collapseDay_66 : decode cX10_collapseDay 66 = .ok (.bipush 100, 2) := by decide +kernel
theorem dX10_collapseDay_68 : decode cX10_collapseDay 68 = .ok (.if_icmp .gt 7, 3) := by decide +kernel
theorem dX10_collapseDay_71 : decode cX10_collapseDay 71 = .ok (.iload_n 3, 1) := by decide +kernel
theorem dX10_collapseDay_72 : decode cX10_collapseDay 72 = .ok (.ifCond .ne 11, 3) := by decide +kernel
theorem dX10_collapseDay_75 : decode cX10_collapseDay 75 = .ok (.aload_n 0, 1) := by decide +kernel
theorem dX10_collapseDay_76 : decode cX10_collapseDay 76 = .ok (.iconst 2, 1) := by decide +kernel
theorem dX10_collapseDay_77 : decode cX10_collapseDay 77 = .ok (.invokevirtual 54, 3) := by decide +kernel
theorem dX10_collapseDay_80 : decode cX10_collapseDay 80 = .ok (.goto 4, 3) := by decide +kernel
theorem dX10_collapseDay_83 : decode cX10_collapseDay 83 = .ok (.iload_n 2, 1) := by decide +kernel
theorem dX10_collapseDay_84 : decode cX10_collapseDay 84 = .ok (.ireturn, 1) := by decide +kernel
theorem dX10_chairCount_0 : decode cX10_chairCount 0 = .ok (.aload_n 0, 1) := by decide +kernel
theorem dX10_chairCount_1 : decode cX10_chairCount 1 = .ok (.iconst 0, 1) := by decide +kernel
theorem dX10_chairCount_2 : decode cX10_chairCount 2 = .ok (.putfield 39, 3) := by decide +kernel
theorem dX10_chairCount_5 : decode cX10_chairCount 5 = .ok (.aload_n 0, 1) := by decide +kernel
theorem dX10_chairCount_6 : decode cX10_chairCount 6 = .ok (.getfield 9, 3) := by decide +kernel
theorem dX10_chairCount_9 : decode cX10_chairCount 9 = .ok (.iconst 0, 1) := by decide +kernel
theorem dX10_chairCount_10 : decode cX10_chairCount 10 = .ok (.iaload, 1) := by decide +kernel
theorem dX10_chairCount_11 : decode cX10_chairCount 11 = .ok (.ireturn, 1) := by decide +kernel
theorem dX10_foldedCount_0 : decode cX10_foldedCount 0 = .ok (.aload_n 0, 1) := by decide +kernel
theorem dX10_foldedCount_1 : decode cX10_foldedCount 1 = .ok (.iconst 0, 1) := by decide +kernel
theorem dX10_foldedCount_2 : decode cX10_foldedCount 2 = .ok (.putfield 39, 3) := by decide +kernel
theorem dX10_foldedCount_5 : decode cX10_foldedCount 5 = .ok (.aload_n 0, 1) := by decide +kernel
theorem dX10_foldedCount_6 : decode cX10_foldedCount 6 = .ok (.invokevirtual 138, 3) := by decide +kernel
theorem dX10_foldedCount_9 : decode cX10_foldedCount 9 = .ok (.ireturn, 1) := by decide +kernel
theorem dX10_oil_0 : decode cX10_oil 0 = .ok (.aload_n 0, 1) := by decide +kernel
theorem dX10_oil_1 : decode cX10_oil 1 = .ok (.iconst 0, 1) := by decide +kernel
theorem dX10_oil_2 : decode cX10_oil 2 = .ok (.putfield 39, 3) := by decide +kernel
theorem dX10_oil_5 : decode cX10_oil 5 = .ok (.aload_n 0, 1) := by decide +kernel
theorem dX10_oil_6 : decode cX10_oil 6 = .ok (.getfield 9, 3) := by decide +kernel
theorem dX10_oil_9 : decode cX10_oil 9 = .ok (.iconst 3, 1) := by decide +kernel
theorem dX10_oil_10 : decode cX10_oil 10 = .ok (.iaload, 1) := by decide +kernel
theorem dX10_oil_11 : decode cX10_oil 11 = .ok (.ireturn, 1) := by decide +kernel
theorem dX10_rusts_0 : decode cX10_rusts 0 = .ok (.iconst 0, 1) := by decide +kernel
theorem dX10_rusts_1 : decode cX10_rusts 1 = .ok (.istore_n 1, 1) := by decide +kernel
theorem dX10_rusts_2 : decode cX10_rusts 2 = .ok (.iconst 0, 1) := by decide +kernel
theorem dX10_rusts_3 : decode cX10_rusts 3 = .ok (.istore_n 2, 1) := by decide +kernel
theorem dX10_rusts_4 : decode cX10_rusts 4 = .ok (.iload_n 2, 1) := by decide +kernel
theorem dX10_rusts_5 : decode cX10_rusts 5 = .ok (.aload_n 0, 1) := by decide +kernel
theorem dX10_rusts_6 : decode cX10_rusts 6 = .ok (.getfield 9, 3) := by decide +kernel
theorem dX10_rusts_9 : decode cX10_rusts 9 = .ok (.iconst 0, 1) := by decide +kernel
theorem dX10_rusts_10 : decode cX10_rusts 10 = .ok (.iaload, 1) := by decide +kernel
theorem dX10_rusts_11 : decode cX10_rusts 11 = .ok (.if_icmp .ge 18, 3) := by decide +kernel
theorem dX10_rusts_14 : decode cX10_rusts 14 = .ok (.iload_n 1, 1) := by decide +kernel
theorem dX10_rusts_15 : decode cX10_rusts 15 = .ok (.aload_n 0, 1) := by decide +kernel
theorem dX10_rusts_16 : decode cX10_rusts 16 = .ok (.iload_n 2, 1) := by decide +kernel
theorem dX10_rusts_17 : decode cX10_rusts 17 = .ok (.iconst 2, 1) := by decide +kernel
theorem dX10_rusts_18 : decode cX10_rusts 18 = .ok (.invokevirtual 65, 3) := by decide +kernel
theorem dX10_rusts_21 : decode cX10_rusts 21 = .ok (.iadd, 1) := by decide +kernel
theorem dX10_rusts_22 : decode cX10_rusts 22 = .ok (.istore_n 1, 1) := by decide +kernel
theorem dX10_rusts_23 : decode cX10_rusts 23 = .ok (.iinc 2 1, 3) := by decide +kernel
theorem dX10_rusts_26 : decode cX10_rusts 26 = .ok (.goto (-22), 3) := by decide +kernel
theorem dX10_rusts_29 : decode cX10_rusts 29 = .ok (.iload_n 1, 1) := by decide +kernel
theorem dX10_rusts_30 : decode cX10_rusts 30 = .ok (.ireturn, 1) := by decide +kernel
theorem dX10_totalRust_0 : decode cX10_totalRust 0 = .ok (.aload_n 0, 1) := by decide +kernel
theorem dX10_totalRust_1 : decode cX10_totalRust 1 = .ok (.iconst 0, 1) := by decide +kernel
theorem dX10_totalRust_2 : decode cX10_totalRust 2 = .ok (.putfield 39, 3) := by decide +kernel
theorem dX10_totalRust_5 : decode cX10_totalRust 5 = .ok (.aload_n 0, 1) := by decide +kernel
theorem dX10_totalRust_6 : decode cX10_totalRust 6 = .ok (.invokevirtual 194, 3) := by decide +kernel
theorem dX10_totalRust_9 : decode cX10_totalRust 9 = .ok (.ireturn, 1) := by decide +kernel
theorem dX10_totalRustByHerds_0 : decode cX10_totalRustByHerds 0 = .ok (.aload_n 0, 1) := by decide +kernel
theorem dX10_totalRustByHerds_1 : decode cX10_totalRustByHerds 1 = .ok (.invokevirtual 197, 3) := by decide +kernel
theorem dX10_totalRustByHerds_4 : decode cX10_totalRustByHerds 4 = .ok (.ireturn, 1) := by decide +kernel
theorem dX10_collapsedChairs_0 : decode cX10_collapsedChairs 0 = .ok (.aload_n 0, 1) := by decide +kernel
theorem dX10_collapsedChairs_1 : decode cX10_collapsedChairs 1 = .ok (.iconst 0, 1) := by decide +kernel
theorem dX10_collapsedChairs_2 : decode cX10_collapsedChairs 2 = .ok (.putfield 39, 3) := by decide +kernel
theorem dX10_collapsedChairs_5 : decode cX10_collapsedChairs 5 = .ok (.aload_n 0, 1) := by decide +kernel
theorem dX10_collapsedChairs_6 : decode cX10_collapsedChairs 6 = .ok (.getfield 9, 3) := by decide +kernel
theorem dX10_collapsedChairs_9 : decode cX10_collapsedChairs 9 = .ok (.iconst 4, 1) := by decide +kernel
theorem dX10_collapsedChairs_10 : decode cX10_collapsedChairs 10 = .ok (.iaload, 1) := by decide +kernel
theorem dX10_collapsedChairs_11 : decode cX10_collapsedChairs 11 = .ok (.ireturn, 1) := by decide +kernel
theorem dX10_scrappedChairs_0 : decode cX10_scrappedChairs 0 = .ok (.aload_n 0, 1) := by decide +kernel
theorem dX10_scrappedChairs_1 : decode cX10_scrappedChairs 1 = .ok (.iconst 0, 1) := by decide +kernel
theorem dX10_scrappedChairs_2 : decode cX10_scrappedChairs 2 = .ok (.putfield 39, 3) := by decide +kernel
theorem dX10_scrappedChairs_5 : decode cX10_scrappedChairs 5 = .ok (.aload_n 0, 1) := by decide +kernel
theorem dX10_scrappedChairs_6 : decode cX10_scrappedChairs 6 = .ok (.getfield 9, 3) := by decide +kernel
theorem dX10_scrappedChairs_9 : decode cX10_scrappedChairs 9 = .ok (.iconst 5, 1) := by decide +kernel
theorem dX10_scrappedChairs_10 : decode cX10_scrappedChairs 10 = .ok (.iaload, 1) := by decide +kernel
theorem dX10_scrappedChairs_11 : decode cX10_scrappedChairs 11 = .ok (.ireturn, 1) := by decide +kernel
theorem dX10_moveCount_0 : decode cX10_moveCount 0 = .ok (.aload_n 0, 1) := by decide +kernel
theorem dX10_moveCount_1 : decode cX10_moveCount 1 = .ok (.iconst 0, 1) := by decide +kernel
theorem dX10_moveCount_2 : decode cX10_moveCount 2 = .ok (.putfield 39, 3) := by decide +kernel
theorem dX10_moveCount_5 : decode cX10_moveCount 5 = .ok (.aload_n 0, 1) := by decide +kernel
theorem dX10_moveCount_6 : decode cX10_moveCount 6 = .ok (.getfield 9, 3) := by decide +kernel
theorem dX10_moveCount_9 : decode cX10_moveCount 9 = .ok (.bipush 6, 2) := by decide +kernel
theorem dX10_moveCount_11 : decode cX10_moveCount 11 = .ok (.iaload, 1) := by decide +kernel
theorem dX10_moveCount_12 : decode cX10_moveCount 12 = .ok (.ireturn, 1) := by decide +kernel
theorem dX10_grazedShade_0 : decode cX10_grazedShade 0 = .ok (.aload_n 0, 1) := by decide +kernel
theorem dX10_grazedShade_1 : decode cX10_grazedShade 1 = .ok (.iconst 0, 1) := by decide +kernel
theorem dX10_grazedShade_2 : decode cX10_grazedShade 2 = .ok (.putfield 39, 3) := by decide +kernel
theorem dX10_grazedShade_5 : decode cX10_grazedShade 5 = .ok (.aload_n 0, 1) := by decide +kernel
theorem dX10_grazedShade_6 : decode cX10_grazedShade 6 = .ok (.getfield 9, 3) := by decide +kernel
theorem dX10_grazedShade_9 : decode cX10_grazedShade 9 = .ok (.bipush 7, 2) := by decide +kernel
theorem dX10_grazedShade_11 : decode cX10_grazedShade 11 = .ok (.iaload, 1) := by decide +kernel
theorem dX10_grazedShade_12 : decode cX10_grazedShade 12 = .ok (.ireturn, 1) := by decide +kernel
theorem dX10_isRustier_0 : decode cX10_isRustier 0 = .ok (.aload_n 0, 1) := by decide +kernel
theorem dX10_isRustier_1 : decode cX10_isRustier 1 = .ok (.iload_n 1, 1) := by decide +kernel
theorem dX10_isRustier_2 : decode cX10_isRustier 2 = .ok (.iconst 2, 1) := by decide +kernel
theorem dX10_isRustier_3 : decode cX10_isRustier 3 = .ok (.invokevirtual 65, 3) := by decide +kernel
theorem dX10_isRustier_6 : decode cX10_isRustier 6 = .ok (.aload_n 0, 1) := by decide +kernel
theorem dX10_isRustier_7 : decode cX10_isRustier 7 = .ok (.iload_n 2, 1) := by decide +kernel
theorem dX10_isRustier_8 : decode cX10_isRustier 8 = .ok (.iconst 2, 1) := by decide +kernel
theorem dX10_isRustier_9 : decode cX10_isRustier 9 = .ok (.invokevirtual 65, 3) := by decide +kernel
theorem dX10_isRustier_12 : decode cX10_isRustier 12 = .ok (.isub, 1) := by decide +kernel
theorem dX10_isRustier_13 : decode cX10_isRustier 13 = .ok (.istore_n 3, 1) := by decide +kernel
theorem dX10_isRustier_14 : decode cX10_isRustier 14 = .ok (.iload_n 3, 1) := by decide +kernel
theorem dX10_isRustier_15 : decode cX10_isRustier 15 = .ok (.ifCond .ne 17, 3) := by decide +kernel
theorem dX10_isRustier_18 : decode cX10_isRustier 18 = .ok (.aload_n 0, 1) := by decide +kernel
theorem dX10_isRustier_19 : decode cX10_isRustier 19 = .ok (.iload_n 2, 1) := by decide +kernel
theorem dX10_isRustier_20 : decode cX10_isRustier 20 = .ok (.iconst 4, 1) := by decide +kernel
theorem dX10_isRustier_21 : decode cX10_isRustier 21 = .ok (.invokevirtual 65, 3) := by decide +kernel
theorem dX10_isRustier_24 : decode cX10_isRustier 24 = .ok (.aload_n 0, 1) := by decide +kernel
theorem dX10_isRustier_25 : decode cX10_isRustier 25 = .ok (.iload_n 1, 1) := by decide +kernel
theorem dX10_isRustier_26 : decode cX10_isRustier 26 = .ok (.iconst 4, 1) := by decide +kernel
theorem dX10_isRustier_27 : decode cX10_isRustier 27 = .ok (.invokevirtual 65, 3) := by decide +kernel
theorem dX10_isRustier_30 : decode cX10_isRustier 30 = .ok (.isub, 1) := by decide +kernel
theorem dX10_isRustier_31 : decode cX10_isRustier 31 = .ok (.istore_n 3, 1) := by decide +kernel
theorem dX10_isRustier_32 : decode cX10_isRustier 32 = .ok (.iload_n 3, 1) := by decide +kernel
theorem dX10_isRustier_33 : decode cX10_isRustier 33 = .ok (.ifCond .gt 12, 3) := by decide +kernel
theorem dX10_isRustier_36 : decode cX10_isRustier 36 = .ok (.iload_n 3, 1) := by decide +kernel
theorem dX10_isRustier_37 : decode cX10_isRustier 37 = .ok (.ifCond .ne 12, 3) := by decide +kernel
theorem dX10_isRustier_40 : decode cX10_isRustier 40 = .ok (.iload_n 1, 1) := by decide +kernel
theorem dX10_isRustier_41 : decode cX10_isRustier 41 = .ok (.iload_n 2, 1) := by decide +kernel
theorem dX10_isRustier_42 : decode cX10_isRustier 42 = .ok (.if_icmp .ge 7, 3) := by decide +kernel
theorem dX10_isRustier_45 : decode cX10_isRustier 45 = .ok (.iconst 1, 1) := by decide +kernel
theorem dX10_isRustier_46 : decode cX10_isRustier 46 = .ok (.goto 4, 3) := by decide +kernel
theorem dX10_isRustier_49 : decode cX10_isRustier 49 = .ok (.iconst 0, 1) := by decide +kernel
theorem dX10_isRustier_50 : decode cX10_isRustier 50 = .ok (.ireturn, 1) := by decide +kernel
theorem dX10_chairByRust_0 : decode cX10_chairByRust 0 = .ok (.aload_n 0, 1) := by decide +kernel
theorem dX10_chairByRust_1 : decode cX10_chairByRust 1 = .ok (.iconst 0, 1) := by decide +kernel
theorem dX10_chairByRust_2 : decode cX10_chairByRust 2 = .ok (.putfield 39, 3) := by decide +kernel
theorem dX10_chairByRust_5 : decode cX10_chairByRust 5 = .ok (.iconst 0, 1) := by decide +kernel
theorem dX10_chairByRust_6 : decode cX10_chairByRust 6 = .ok (.istore_n 2, 1) := by decide +kernel
theorem dX10_chairByRust_7 : decode cX10_chairByRust 7 = .ok (.iload_n 2, 1) := by decide +kernel
theorem dX10_chairByRust_8 : decode cX10_chairByRust 8 = .ok (.aload_n 0, 1) := by decide +kernel
theorem dX10_chairByRust_9 : decode cX10_chairByRust 9 = .ok (.getfield 9, 3) := by decide +kernel
theorem dX10_chairByRust_12 : decode cX10_chairByRust 12 = .ok (.iconst 0, 1) := by decide +kernel
theorem dX10_chairByRust_13 : decode cX10_chairByRust 13 = .ok (.iaload, 1) := by decide +kernel
theorem dX10_chairByRust_14 : decode cX10_chairByRust 14 = .ok (.if_icmp .ge 62, 3) := by decide +kernel
theorem dX10_chairByRust_17 : decode cX10_chairByRust 17 = .ok (.iconst 0, 1) := by decide +kernel
theorem dX10_chairByRust_18 : decode cX10_chairByRust 18 = .ok (.istore_n 3, 1) := by decide +kernel
theorem dX10_chairByRust_19 : decode cX10_chairByRust 19 = .ok (.iconst 0, 1) := by decide +kernel
theorem dX10_chairByRust_20 : decode cX10_chairByRust 20 = .ok (.istore 4, 2) := by decide +kernel
theorem dX10_chairByRust_22 : decode cX10_chairByRust 22 = .ok (.iload 4, 2) := by decide +kernel
theorem dX10_chairByRust_24 : decode cX10_chairByRust 24 = .ok (.aload_n 0, 1) := by decide +kernel
theorem dX10_chairByRust_25 : decode cX10_chairByRust 25 = .ok (.getfield 9, 3) := by decide +kernel
theorem dX10_chairByRust_28 : decode cX10_chairByRust 28 = .ok (.iconst 0, 1) := by decide +kernel
theorem dX10_chairByRust_29 : decode cX10_chairByRust 29 = .ok (.iaload, 1) := by decide +kernel
theorem dX10_chairByRust_30 : decode cX10_chairByRust 30 = .ok (.if_icmp .ge 28, 3) := by decide +kernel
theorem dX10_chairByRust_33 : decode cX10_chairByRust 33 = .ok (.iload 4, 2) := by decide +kernel
theorem dX10_chairByRust_35 : decode cX10_chairByRust 35 = .ok (.iload_n 2, 1) := by decide +kernel
theorem dX10_chairByRust_36 : decode cX10_chairByRust 36 = .ok (.if_icmp .eq 16, 3) := by decide +kernel
theorem dX10_chairByRust_39 : decode cX10_chairByRust 39 = .ok (.aload_n 0, 1) := by decide +kernel
theorem dX10_chairByRust_40 : decode cX10_chairByRust 40 = .ok (.iload 4, 2) := by decide +kernel
theorem dX10_chairByRust_42 : decode cX10_chairByRust 42 = .ok (.iload_n 2, 1) := by decide +kernel
theorem dX10_chairByRust_43 : decode cX10_chairByRust 43 = .ok (.invokevirtual 200, 3) := by decide +kernel
theorem dX10_chairByRust_46 : decode cX10_chairByRust 46 = .ok (.ifCond .eq 6, 3) := by decide +kernel
theorem dX10_chairByRust_49 : decode cX10_chairByRust 49 = .ok (.iinc 3 1, 3) := by decide +kernel
theorem dX10_chairByRust_52 : decode cX10_chairByRust 52 = .ok (.iinc 4 1, 3) := by decide +kernel
theorem dX10_chairByRust_55 : decode cX10_chairByRust 55 = .ok (.goto (-33), 3) := by decide +kernel
theorem dX10_chairByRust_58 : decode cX10_chairByRust 58 = .ok (.iload_n 3, 1) := by decide +kernel
theorem dX10_chairByRust_59 : decode cX10_chairByRust 59 = .ok (.iload_n 1, 1) := by decide +kernel
theorem dX10_chairByRust_60 : decode cX10_chairByRust 60 = .ok (.if_icmp .ne 10, 3) := by decide +kernel
theorem dX10_chairByRust_63 : decode cX10_chairByRust 63 = .ok (.aload_n 0, 1) := by decide +kernel
theorem dX10_chairByRust_64 : decode cX10_chairByRust 64 = .ok (.iload_n 2, 1) := by decide +kernel
theorem dX10_chairByRust_65 : decode cX10_chairByRust 65 = .ok (.iconst 0, 1) := by decide +kernel
theorem dX10_chairByRust_66 : decode cX10_chairByRust 66 = .ok (.invokevirtual 65, 3) := by decide +kernel
theorem dX10_chairByRust_69 : decode cX10_chairByRust 69 = .ok (.ireturn, 1) := by decide +kernel
theorem dX10_chairByRust_70 : decode cX10_chairByRust 70 = .ok (.iinc 2 1, 3) := by decide +kernel
theorem dX10_chairByRust_73 : decode cX10_chairByRust 73 = .ok (.goto (-66), 3) := by decide +kernel
theorem dX10_chairByRust_76 : decode cX10_chairByRust 76 = .ok (.aload_n 0, 1) := by decide +kernel
theorem dX10_chairByRust_77 : decode cX10_chairByRust 77 = .ok (.iconst 1, 1) := by decide +kernel
theorem dX10_chairByRust_78 : decode cX10_chairByRust 78 = .ok (.invokevirtual 54, 3) := by decide +kernel
theorem dX10_chairByRust_81 : decode cX10_chairByRust 81 = .ok (.ireturn, 1) := by decide +kernel
theorem dX10_lawnByShade_0 : decode cX10_lawnByShade 0 = .ok (.aload_n 0, 1) := by decide +kernel
theorem dX10_lawnByShade_1 : decode cX10_lawnByShade 1 = .ok (.iconst 0, 1) := by decide +kernel
theorem dX10_lawnByShade_2 : decode cX10_lawnByShade 2 = .ok (.putfield 39, 3) := by decide +kernel
theorem dX10_lawnByShade_5 : decode cX10_lawnByShade 5 = .ok (.iconst 0, 1) := by decide +kernel
theorem dX10_lawnByShade_6 : decode cX10_lawnByShade 6 = .ok (.istore_n 2, 1) := by decide +kernel
theorem dX10_lawnByShade_7 : decode cX10_lawnByShade 7 = .ok (.iload_n 2, 1) := by decide +kernel
theorem dX10_lawnByShade_8 : decode cX10_lawnByShade 8 = .ok (.bipush 6, 2) := by decide +kernel
theorem dX10_lawnByShade_10 : decode cX10_lawnByShade 10 = .ok (.if_icmp .ge 53, 3) := by decide +kernel
theorem dX10_lawnByShade_13 : decode cX10_lawnByShade 13 = .ok (.iconst 0, 1) := by decide +kernel
theorem dX10_lawnByShade_14 : decode cX10_lawnByShade 14 = .ok (.istore_n 3, 1) := by decide +kernel
theorem dX10_lawnByShade_15 : decode cX10_lawnByShade 15 = .ok (.iconst 0, 1) := by decide +kernel
theorem dX10_lawnByShade_16 : decode cX10_lawnByShade 16 = .ok (.istore 4, 2) := by decide +kernel
theorem dX10_lawnByShade_18 : decode cX10_lawnByShade 18 = .ok (.iload 4, 2) := by decide +kernel
theorem dX10_lawnByShade_20 : decode cX10_lawnByShade 20 = .ok (.bipush 6, 2) := by decide +kernel
theorem dX10_lawnByShade_22 : decode cX10_lawnByShade 22 = .ok (.if_icmp .ge 28, 3) := by decide +kernel
theorem dX10_lawnByShade_25 : decode cX10_lawnByShade 25 = .ok (.iload 4, 2) := by decide +kernel
theorem dX10_lawnByShade_27 : decode cX10_lawnByShade 27 = .ok (.iload_n 2, 1) := by decide +kernel
theorem dX10_lawnByShade_28 : decode cX10_lawnByShade 28 = .ok (.if_icmp .eq 16, 3) := by decide +kernel
theorem dX10_lawnByShade_31 : decode cX10_lawnByShade 31 = .ok (.aload_n 0, 1) := by decide +kernel
theorem dX10_lawnByShade_32 : decode cX10_lawnByShade 32 = .ok (.iload 4, 2) := by decide +kernel
theorem dX10_lawnByShade_34 : decode cX10_lawnByShade 34 = .ok (.iload_n 2, 1) := by decide +kernel
theorem dX10_lawnByShade_35 : decode cX10_lawnByShade 35 = .ok (.invokevirtual 185, 3) := by decide +kernel
theorem dX10_lawnByShade_38 : decode cX10_lawnByShade 38 = .ok (.ifCond .eq 6, 3) := by decide +kernel
theorem dX10_lawnByShade_41 : decode cX10_lawnByShade 41 = .ok (.iinc 3 1, 3) := by decide +kernel
theorem dX10_lawnByShade_44 : decode cX10_lawnByShade 44 = .ok (.iinc 4 1, 3) := by decide +kernel
theorem dX10_lawnByShade_47 : decode cX10_lawnByShade 47 = .ok (.goto (-29), 3) := by decide +kernel
theorem dX10_lawnByShade_50 : decode cX10_lawnByShade 50 = .ok (.iload_n 3, 1) := by decide +kernel
theorem dX10_lawnByShade_51 : decode cX10_lawnByShade 51 = .ok (.iload_n 1, 1) := by decide +kernel
theorem dX10_lawnByShade_52 : decode cX10_lawnByShade 52 = .ok (.if_icmp .ne 5, 3) := by decide +kernel
theorem dX10_lawnByShade_55 : decode cX10_lawnByShade 55 = .ok (.iload_n 2, 1) := by decide +kernel
theorem dX10_lawnByShade_56 : decode cX10_lawnByShade 56 = .ok (.ireturn, 1) := by decide +kernel
theorem dX10_lawnByShade_57 : decode cX10_lawnByShade 57 = .ok (.iinc 2 1, 3) := by decide +kernel
theorem dX10_lawnByShade_60 : decode cX10_lawnByShade 60 = .ok (.goto (-53), 3) := by decide +kernel
theorem dX10_lawnByShade_63 : decode cX10_lawnByShade 63 = .ok (.aload_n 0, 1) := by decide +kernel
theorem dX10_lawnByShade_64 : decode cX10_lawnByShade 64 = .ok (.iconst 1, 1) := by decide +kernel
theorem dX10_lawnByShade_65 : decode cX10_lawnByShade 65 = .ok (.invokevirtual 54, 3) := by decide +kernel
theorem dX10_lawnByShade_68 : decode cX10_lawnByShade 68 = .ok (.ireturn, 1) := by decide +kernel
theorem dX10_meanRust_0 : decode cX10_meanRust 0 = .ok (.aload_n 0, 1) := by decide +kernel
theorem dX10_meanRust_1 : decode cX10_meanRust 1 = .ok (.iconst 0, 1) := by decide +kernel
theorem dX10_meanRust_2 : decode cX10_meanRust 2 = .ok (.putfield 39, 3) := by decide +kernel
theorem dX10_meanRust_5 : decode cX10_meanRust 5 = .ok (.aload_n 0, 1) := by decide +kernel
theorem dX10_meanRust_6 : decode cX10_meanRust 6 = .ok (.getfield 9, 3) := by decide +kernel
theorem dX10_meanRust_9 : decode cX10_meanRust 9 = .ok (.iconst 0, 1) := by decide +kernel
theorem dX10_meanRust_10 : decode cX10_meanRust 10 = .ok (.iaload, 1) := by decide +kernel
theorem dX10_meanRust_11 : decode cX10_meanRust 11 = .ok (.ifCond .ne 12, 3) := by decide +kernel
theorem dX10_meanRust_14 : decode cX10_meanRust 14 = .ok (.aload_n 0, 1) := by decide +kernel
theorem dX10_meanRust_15 : decode cX10_meanRust 15 = .ok (.iconst 1, 1) := by decide +kernel
theorem dX10_meanRust_16 : decode cX10_meanRust 16 = .ok (.invokevirtual 54, 3) := by decide +kernel
theorem dX10_meanRust_19 : decode cX10_meanRust 19 = .ok (.i2d, 1) := by decide +kernel
theorem dX10_meanRust_20 : decode cX10_meanRust 20 = .ok (.goto 16, 3) := by decide +kernel
theorem dX10_meanRust_23 : decode cX10_meanRust 23 = .ok (.aload_n 0, 1) := by decide +kernel
theorem dX10_meanRust_24 : decode cX10_meanRust 24 = .ok (.invokevirtual 194, 3) := by decide +kernel
theorem dX10_meanRust_27 : decode cX10_meanRust 27 = .ok (.i2d, 1) := by decide +kernel
theorem dX10_meanRust_28 : decode cX10_meanRust 28 = .ok (.aload_n 0, 1) := by decide +kernel
theorem dX10_meanRust_29 : decode cX10_meanRust 29 = .ok (.getfield 9, 3) := by decide +kernel
theorem dX10_meanRust_32 : decode cX10_meanRust 32 = .ok (.iconst 0, 1) := by decide +kernel
theorem dX10_meanRust_33 : decode cX10_meanRust 33 = .ok (.iaload, 1) := by decide +kernel
theorem dX10_meanRust_34 : decode cX10_meanRust 34 = .ok (.i2d, 1) := by decide +kernel
theorem dX10_meanRust_35 : decode cX10_meanRust 35 = .ok (.ddiv, 1) := by decide +kernel
theorem dX10_meanRust_36 : decode cX10_meanRust 36 = .ok (.dreturn, 1) := by decide +kernel
theorem dX10_foldedShare_0 : decode cX10_foldedShare 0 = .ok (.aload_n 0, 1) := by decide +kernel
theorem dX10_foldedShare_1 : decode cX10_foldedShare 1 = .ok (.iconst 0, 1) := by decide +kernel
theorem dX10_foldedShare_2 : decode cX10_foldedShare 2 = .ok (.putfield 39, 3) := by decide +kernel
theorem dX10_foldedShare_5 : decode cX10_foldedShare 5 = .ok (.aload_n 0, 1) := by decide +kernel
theorem dX10_foldedShare_6 : decode cX10_foldedShare 6 = .ok (.getfield 9, 3) := by decide +kernel
theorem dX10_foldedShare_9 : decode cX10_foldedShare 9 = .ok (.iconst 0, 1) := by decide +kernel
theorem dX10_foldedShare_10 : decode cX10_foldedShare 10 = .ok (.iaload, 1) := by decide +kernel
theorem dX10_foldedShare_11 : decode cX10_foldedShare 11 = .ok (.ifCond .ne 12, 3) := by decide +kernel
theorem dX10_foldedShare_14 : decode cX10_foldedShare 14 = .ok (.aload_n 0, 1) := by decide +kernel
theorem dX10_foldedShare_15 : decode cX10_foldedShare 15 = .ok (.iconst 1, 1) := by decide +kernel
theorem dX10_foldedShare_16 : decode cX10_foldedShare 16 = .ok (.invokevirtual 54, 3) := by decide +kernel
theorem dX10_foldedShare_19 : decode cX10_foldedShare 19 = .ok (.i2f, 1) := by decide +kernel
theorem dX10_foldedShare_20 : decode cX10_foldedShare 20 = .ok (.goto 16, 3) := by decide +kernel
theorem dX10_foldedShare_23 : decode cX10_foldedShare 23 = .ok (.aload_n 0, 1) := by decide +kernel
theorem dX10_foldedShare_24 : decode cX10_foldedShare 24 = .ok (.invokevirtual 138, 3) := by decide +kernel
theorem dX10_foldedShare_27 : decode cX10_foldedShare 27 = .ok (.i2f, 1) := by decide +kernel
theorem dX10_foldedShare_28 : decode cX10_foldedShare 28 = .ok (.aload_n 0, 1) := by decide +kernel
theorem dX10_foldedShare_29 : decode cX10_foldedShare 29 = .ok (.getfield 9, 3) := by decide +kernel
theorem dX10_foldedShare_32 : decode cX10_foldedShare 32 = .ok (.iconst 0, 1) := by decide +kernel
theorem dX10_foldedShare_33 : decode cX10_foldedShare 33 = .ok (.iaload, 1) := by decide +kernel
theorem dX10_foldedShare_34 : decode cX10_foldedShare 34 = .ok (.i2f, 1) := by decide +kernel
theorem dX10_foldedShare_35 : decode cX10_foldedShare 35 = .ok (.fdiv, 1) := by decide +kernel
theorem dX10_foldedShare_36 : decode cX10_foldedShare 36 = .ok (.freturn, 1) := by decide +kernel
theorem dX10_isConsistent_0 : decode cX10_isConsistent 0 = .ok (.aload_n 0, 1) := by decide +kernel
theorem dX10_isConsistent_1 : decode cX10_isConsistent 1 = .ok (.iconst 0, 1) := by decide +kernel
theorem dX10_isConsistent_2 : decode cX10_isConsistent 2 = .ok (.putfield 39, 3) := by decide +kernel
theorem dX10_isConsistent_5 : decode cX10_isConsistent 5 = .ok (.iconst 1, 1) := by decide +kernel
theorem dX10_isConsistent_6 : decode cX10_isConsistent 6 = .ok (.ireturn, 1) := by decide +kernel
theorem dX10_signs_0 : decode cX10_signs 0 = .ok (.aload_n 0, 1) := by decide +kernel
theorem dX10_signs_1 : decode cX10_signs 1 = .ok (.getfield 25, 3) := by decide +kernel
theorem dX10_signs_4 : decode cX10_signs 4 = .ok (.aload_n 0, 1) := by decide +kernel
theorem dX10_signs_5 : decode cX10_signs 5 = .ok (.dup, 1) := by decide +kernel
theorem dX10_signs_6 : decode cX10_signs 6 = .ok (.getfield 203, 3) := by decide +kernel
theorem dX10_signs_9 : decode cX10_signs 9 = .ok (.dup_x1, 1) := by decide +kernel
theorem dX10_signs_10 : decode cX10_signs 10 = .ok (.iconst 1, 1) := by decide +kernel
theorem dX10_signs_11 : decode cX10_signs 11 = .ok (.iadd, 1) := by decide +kernel
theorem dX10_signs_12 : decode cX10_signs 12 = .ok (.putfield 203, 3) := by decide +kernel
theorem dX10_signs_15 : decode cX10_signs 15 = .ok (.iload_n 1, 1) := by decide +kernel
theorem dX10_signs_16 : decode cX10_signs 16 = .ok (.castore, 1) := by decide +kernel
theorem dX10_signs_17 : decode cX10_signs 17 = .ok (.return_, 1) := by decide +kernel
theorem dX10_writes_0 : decode cX10_writes 0 = .ok (.iload_n 1, 1) := by decide +kernel
theorem dX10_writes_1 : decode cX10_writes 1 = .ok (.bipush 9, 2) := by decide +kernel
theorem dX10_writes_3 : decode cX10_writes 3 = .ok (.if_icmp .le 11, 3) := by decide +kernel
theorem dX10_writes_6 : decode cX10_writes 6 = .ok (.aload_n 0, 1) := by decide +kernel
theorem dX10_writes_7 : decode cX10_writes 7 = .ok (.iload_n 1, 1) := by decide +kernel
theorem dX10_writes_8 : decode cX10_writes 8 = .ok (.bipush 10, 2) := by decide +kernel
theorem dX10_writes_10 : decode cX10_writes 10 = .ok (.idiv, 1) := by decide +kernel
theorem dX10_writes_11 : decode cX10_writes 11 = .ok (.invokevirtual 206, 3) := by decide +kernel
theorem dX10_writes_14 : decode cX10_writes 14 = .ok (.aload_n 0, 1) := by decide +kernel
theorem dX10_writes_15 : decode cX10_writes 15 = .ok (.bipush 48, 2) := by decide +kernel
theorem dX10_writes_17 : decode cX10_writes 17 = .ok (.iload_n 1, 1) := by decide +kernel
theorem dX10_writes_18 : decode cX10_writes 18 = .ok (.bipush 10, 2) := by decide +kernel
theorem dX10_writes_20 : decode cX10_writes 20 = .ok (.irem, 1) := by decide +kernel
theorem dX10_writes_21 : decode cX10_writes 21 = .ok (.iadd, 1) := by decide +kernel
theorem dX10_writes_22 : decode cX10_writes 22 = .ok (.i2c, 1) := by decide +kernel
theorem dX10_writes_23 : decode cX10_writes 23 = .ok (.invokevirtual 209, 3) := by decide +kernel
theorem dX10_writes_26 : decode cX10_writes 26 = .ok (.return_, 1) := by decide +kernel
theorem dX10_writeLawn_0 : decode cX10_writeLawn 0 = .ok (.aload_n 0, 1) := by decide +kernel
theorem dX10_writeLawn_1 : decode cX10_writeLawn 1 = .ok (.iload_n 1, 1) := by decide +kernel
theorem dX10_writeLawn_2 : decode cX10_writeLawn 2 = .ok (.invokestatic 85, 3) := by decide +kernel
theorem dX10_writeLawn_5 : decode cX10_writeLawn 5 = .ok (.ifCond .eq 7, 3) := by decide +kernel
theorem dX10_writeLawn_8 : decode cX10_writeLawn 8 = .ok (.iconst 0, 1) := by decide +kernel
theorem dX10_writeLawn_9 : decode cX10_writeLawn 9 = .ok (.goto 4, 3) := by decide +kernel
theorem dX10_writeLawn_12 : decode cX10_writeLawn 12 = .ok (.iconst 1, 1) := by decide +kernel
theorem dX10_writeLawn_13 : decode cX10_writeLawn 13 = .ok (.putfield 39, 3) := by decide +kernel
theorem dX10_writeLawn_16 : decode cX10_writeLawn 16 = .ok (.aload_n 0, 1) := by decide +kernel
theorem dX10_writeLawn_17 : decode cX10_writeLawn 17 = .ok (.getfield 39, 3) := by decide +kernel
theorem dX10_writeLawn_20 : decode cX10_writeLawn 20 = .ok (.ifCond .le 5, 3) := by decide +kernel
theorem dX10_writeLawn_23 : decode cX10_writeLawn 23 = .ok (.iconst 0, 1) := by decide +kernel
theorem dX10_writeLawn_24 : decode cX10_writeLawn 24 = .ok (.ireturn, 1) := by decide +kernel
theorem dX10_writeLawn_25 : decode cX10_writeLawn 25 = .ok (.aload_n 0, 1) := by decide +kernel
theorem dX10_writeLawn_26 : decode cX10_writeLawn 26 = .ok (.iconst 0, 1) := by decide +kernel
theorem dX10_writeLawn_27 : decode cX10_writeLawn 27 = .ok (.putfield 203, 3) := by decide +kernel
theorem dX10_writeLawn_30 : decode cX10_writeLawn 30 = .ok (.aload_n 0, 1) := by decide +kernel
theorem dX10_writeLawn_31 : decode cX10_writeLawn 31 = .ok (.iload_n 1, 1) := by decide +kernel
theorem dX10_writeLawn_32 : decode cX10_writeLawn 32 = .ok (.invokevirtual 206, 3) := by decide +kernel
theorem dX10_writeLawn_35 : decode cX10_writeLawn 35 = .ok (.aload_n 0, 1) := by decide +kernel
theorem dX10_writeLawn_36 : decode cX10_writeLawn 36 = .ok (.bipush 58, 2) := by decide +kernel
theorem dX10_writeLawn_38 : decode cX10_writeLawn 38 = .ok (.invokevirtual 209, 3) := by decide +kernel
theorem dX10_writeLawn_41 : decode cX10_writeLawn 41 = .ok (.aload_n 0, 1) := by decide +kernel
theorem dX10_writeLawn_42 : decode cX10_writeLawn 42 = .ok (.aload_n 0, 1) := by decide +kernel
theorem dX10_writeLawn_43 : decode cX10_writeLawn 43 = .ok (.iload_n 1, 1) := by decide +kernel
theorem dX10_writeLawn_44 : decode cX10_writeLawn 44 = .ok (.iconst 0, 1) := by decide +kernel
theorem dX10_writeLawn_45 : decode cX10_writeLawn 45 = .ok (.invokevirtual 69, 3) := by decide +kernel
theorem dX10_writeLawn_48 : decode cX10_writeLawn 48 = .ok (.invokevirtual 206, 3) := by decide +kernel
theorem dX10_writeLawn_51 : decode cX10_writeLawn 51 = .ok (.iconst 0, 1) := by decide +kernel
theorem dX10_writeLawn_52 : decode cX10_writeLawn 52 = .ok (.istore_n 2, 1) := by decide +kernel
theorem dX10_writeLawn_53 : decode cX10_writeLawn 53 = .ok (.iload_n 2, 1) := by decide +kernel
theorem dX10_writeLawn_54 : decode cX10_writeLawn 54 = .ok (.aload_n 0, 1) := by decide +kernel
theorem dX10_writeLawn_55 : decode cX10_writeLawn 55 = .ok (.iload_n 1, 1) := by decide +kernel
theorem dX10_writeLawn_56 : decode cX10_writeLawn 56 = .ok (.iconst 2, 1) := by decide +kernel
theorem dX10_writeLawn_57 : decode cX10_writeLawn 57 = .ok (.invokevirtual 69, 3) := by decide +kernel
theorem dX10_writeLawn_60 : decode cX10_writeLawn 60 = .ok (.if_icmp .ge 68, 3) := by decide +kernel
theorem dX10_writeLawn_63 : decode cX10_writeLawn 63 = .ok (.aload_n 0, 1) := by decide +kernel
theorem dX10_writeLawn_64 : decode cX10_writeLawn 64 = .ok (.aload_n 0, 1) := by decide +kernel
theorem dX10_writeLawn_65 : decode cX10_writeLawn 65 = .ok (.iload_n 1, 1) := by decide +kernel
theorem dX10_writeLawn_66 : decode cX10_writeLawn 66 = .ok (.iload_n 2, 1) := by decide +kernel
theorem dX10_writeLawn_67 : decode cX10_writeLawn 67 = .ok (.invokevirtual 147, 3) := by decide +kernel
theorem dX10_writeLawn_70 : decode cX10_writeLawn 70 = .ok (.invokevirtual 129, 3) := by decide +kernel
theorem dX10_writeLawn_73 : decode cX10_writeLawn 73 = .ok (.istore_n 3, 1) := by decide +kernel
theorem dX10_writeLawn_74 : decode cX10_writeLawn 74 = .ok (.aload_n 0, 1) := by decide +kernel
theorem dX10_writeLawn_75 : decode cX10_writeLawn 75 = .ok (.bipush 32, 2) := by decide +kernel
theorem dX10_writeLawn_77 : decode cX10_writeLawn 77 = .ok (.invokevirtual 209, 3) := by decide +kernel
theorem dX10_writeLawn_80 : decode cX10_writeLawn 80 = .ok (.aload_n 0, 1) := by decide +kernel
theorem dX10_writeLawn_81 : decode cX10_writeLawn 81 = .ok (.aload_n 0, 1) := by decide +kernel
theorem dX10_writeLawn_82 : decode cX10_writeLawn 82 = .ok (.iload_n 3, 1) := by decide +kernel
theorem dX10_writeLawn_83 : decode cX10_writeLawn 83 = .ok (.iconst 0, 1) := by decide +kernel
theorem dX10_writeLawn_84 : decode cX10_writeLawn 84 = .ok (.invokevirtual 65, 3) := by decide +kernel
theorem dX10_writeLawn_87 : decode cX10_writeLawn 87 = .ok (.invokevirtual 206, 3) := by decide +kernel
theorem dX10_writeLawn_90 : decode cX10_writeLawn 90 = .ok (.aload_n 0, 1) := by decide +kernel
theorem dX10_writeLawn_91 : decode cX10_writeLawn 91 = .ok (.bipush 114, 2) := by decide +kernel
theorem dX10_writeLawn_93 : decode cX10_writeLawn 93 = .ok (.invokevirtual 209, 3) := by decide +kernel
theorem dX10_writeLawn_96 : decode cX10_writeLawn 96 = .ok (.aload_n 0, 1) := by decide +kernel
theorem dX10_writeLawn_97 : decode cX10_writeLawn 97 = .ok (.aload_n 0, 1) := by decide +kernel
theorem dX10_writeLawn_98 : decode cX10_writeLawn 98 = .ok (.iload_n 3, 1) := by decide +kernel
theorem dX10_writeLawn_99 : decode cX10_writeLawn 99 = .ok (.iconst 2, 1) := by decide +kernel
theorem dX10_writeLawn_100 : decode cX10_writeLawn 100 = .ok (.invokevirtual 65, 3) := by decide +kernel
theorem dX10_writeLawn_103 : decode cX10_writeLawn 103 = .ok (.invokevirtual 206, 3) := by decide +kernel
theorem dX10_writeLawn_106 : decode cX10_writeLawn 106 = .ok (.aload_n 0, 1) := by decide +kernel
theorem dX10_writeLawn_107 : decode cX10_writeLawn 107 = .ok (.iload_n 3, 1) := by decide +kernel
theorem dX10_writeLawn_108 : decode cX10_writeLawn 108 = .ok (.iconst 3, 1) := by decide +kernel
theorem dX10_writeLawn_109 : decode cX10_writeLawn 109 = .ok (.invokevirtual 65, 3) := by decide +kernel
theorem dX10_writeLawn_112 : decode cX10_writeLawn 112 = .ok (.iconst 1, 1) := by decide +kernel
theorem dX10_writeLawn_113 : decode cX10_writeLawn 113 = .ok (.if_icmp .ne 9, 3) := by decide +kernel
theorem dX10_writeLawn_116 : decode cX10_writeLawn 116 = .ok (.aload_n 0, 1) := by decide +kernel
theorem dX10_writeLawn_117 : decode cX10_writeLawn 117 = .ok (.bipush 102, 2) := by decide +kernel
theorem dX10_writeLawn_119 : decode cX10_writeLawn 119 = .ok (.invokevirtual 209, 3) := by decide +kernel
theorem dX10_writeLawn_122 : decode cX10_writeLawn 122 = .ok (.iinc 2 1, 3) := by decide +kernel
theorem dX10_writeLawn_125 : decode cX10_writeLawn 125 = .ok (.goto (-72), 3) := by decide +kernel
theorem dX10_writeLawn_128 : decode cX10_writeLawn 128 = .ok (.aload_n 0, 1) := by decide +kernel
theorem dX10_writeLawn_129 : decode cX10_writeLawn 129 = .ok (.getfield 203, 3) := by decide +kernel
theorem dX10_writeLawn_132 : decode cX10_writeLawn 132 = .ok (.ireturn, 1) := by decide +kernel
theorem dX10_outputAt_0 : decode cX10_outputAt 0 = .ok (.aload_n 0, 1) := by decide +kernel
theorem dX10_outputAt_1 : decode cX10_outputAt 1 = .ok (.iload_n 1, 1) := by decide +kernel
theorem dX10_outputAt_2 : decode cX10_outputAt 2 = .ok (.iconst 0, 1) := by decide +kernel
theorem dX10_outputAt_3 : decode cX10_outputAt 3 = .ok (.aload_n 0, 1) := by decide +kernel
theorem dX10_outputAt_4 : decode cX10_outputAt 4 = .ok (.getfield 203, 3) := by decide +kernel
theorem dX10_outputAt_7 : decode cX10_outputAt 7 = .ok (.iconst 1, 1) := by decide +kernel
theorem dX10_outputAt_8 : decode cX10_outputAt 8 = .ok (.isub, 1) := by decide +kernel
theorem dX10_outputAt_9 : decode cX10_outputAt 9 = .ok (.invokestatic 61, 3) := by decide +kernel
theorem dX10_outputAt_12 : decode cX10_outputAt 12 = .ok (.ifCond .eq 7, 3) := by decide +kernel
theorem dX10_outputAt_15 : decode cX10_outputAt 15 = .ok (.iconst 0, 1) := by decide +kernel
theorem dX10_outputAt_16 : decode cX10_outputAt 16 = .ok (.goto 4, 3) := by decide +kernel
theorem dX10_outputAt_19 : decode cX10_outputAt 19 = .ok (.iconst 1, 1) := by decide +kernel
theorem dX10_outputAt_20 : decode cX10_outputAt 20 = .ok (.putfield 39, 3) := by decide +kernel
theorem dX10_outputAt_23 : decode cX10_outputAt 23 = .ok (.aload_n 0, 1) := by decide +kernel
theorem dX10_outputAt_24 : decode cX10_outputAt 24 = .ok (.getfield 39, 3) := by decide +kernel
theorem dX10_outputAt_27 : decode cX10_outputAt 27 = .ok (.ifCond .ne 12, 3) := by decide +kernel
theorem dX10_outputAt_30 : decode cX10_outputAt 30 = .ok (.aload_n 0, 1) := by decide +kernel
theorem dX10_outputAt_31 : decode cX10_outputAt 31 = .ok (.getfield 25, 3) := by decide +kernel
theorem dX10_outputAt_34 : decode cX10_outputAt 34 = .ok (.iload_n 1, 1) := by decide +kernel
theorem dX10_outputAt_35 : decode cX10_outputAt 35 = .ok (.caload, 1) := by decide +kernel
theorem dX10_outputAt_36 : decode cX10_outputAt 36 = .ok (.goto 5, 3) := by decide +kernel
theorem dX10_outputAt_39 : decode cX10_outputAt 39 = .ok (.bipush 97, 2) := by decide +kernel
theorem dX10_outputAt_41 : decode cX10_outputAt 41 = .ok (.ireturn, 1) := by decide +kernel
theorem dX10_appendInput_0 : decode cX10_appendInput 0 = .ok (.aload_n 0, 1) := by decide +kernel
theorem dX10_appendInput_1 : decode cX10_appendInput 1 = .ok (.iconst 0, 1) := by decide +kernel
theorem dX10_appendInput_2 : decode cX10_appendInput 2 = .ok (.putfield 39, 3) := by decide +kernel
theorem dX10_appendInput_5 : decode cX10_appendInput 5 = .ok (.iload_n 1, 1) := by decide +kernel
theorem dX10_appendInput_6 : decode cX10_appendInput 6 = .ok (.bipush 32, 2) := by decide +kernel
theorem dX10_appendInput_8 : decode cX10_appendInput 8 = .ok (.bipush 126, 2) := by decide +kernel
theorem dX10_appendInput_10 : decode cX10_appendInput 10 = .ok (.invokestatic 61, 3) := by decide +kernel
theorem dX10_appendInput_13 : decode cX10_appendInput 13 = .ok (.ifCond .ne 9, 3) := by decide +kernel
theorem dX10_appendInput_16 : decode cX10_appendInput 16 = .ok (.aload_n 0, 1) := by decide +kernel
theorem dX10_appendInput_17 : decode cX10_appendInput 17 = .ok (.iconst 1, 1) := by decide +kernel
theorem dX10_appendInput_18 : decode cX10_appendInput 18 = .ok (.invokevirtual 54, 3) := by decide +kernel
theorem dX10_appendInput_21 : decode cX10_appendInput 21 = .ok (.ireturn, 1) := by decide +kernel
theorem dX10_appendInput_22 : decode cX10_appendInput 22 = .ok (.aload_n 0, 1) := by decide +kernel
theorem dX10_appendInput_23 : decode cX10_appendInput 23 = .ok (.getfield 213, 3) := by decide +kernel
theorem dX10_appendInput_26 : decode cX10_appendInput 26 = .ok (.bipush 60, 2) := by decide +kernel
theorem dX10_appendInput_28 : decode cX10_appendInput 28 = .ok (.if_icmp .ne 9, 3) := by decide +kernel
theorem dX10_appendInput_31 : decode cX10_appendInput 31 = .ok (.aload_n 0, 1) := by decide +kernel
theorem dX10_appendInput_32 : decode cX10_appendInput 32 = .ok (.iconst 2, 1) := by decide +kernel
theorem dX10_appendInput_33 : decode cX10_appendInput 33 = .ok (.invokevirtual 54, 3) := by decide +kernel
theorem dX10_appendInput_36 : decode cX10_appendInput 36 = .ok (.ireturn, 1) := by decide +kernel
theorem dX10_appendInput_37 : decode cX10_appendInput 37 = .ok (.aload_n 0, 1) := by decide +kernel
theorem dX10_appendInput_38 : decode cX10_appendInput 38 = .ok (.getfield 29, 3) := by decide +kernel
theorem dX10_appendInput_41 : decode cX10_appendInput 41 = .ok (.aload_n 0, 1) := by decide +kernel
theorem dX10_appendInput_42 : decode cX10_appendInput 42 = .ok (.dup, 1) := by decide +kernel
theorem dX10_appendInput_43 : decode cX10_appendInput 43 = .ok (.getfield 213, 3) := by decide +kernel
theorem dX10_appendInput_46 : decode cX10_appendInput 46 = .ok (.dup_x1, 1) := by decide +kernel
theorem dX10_appendInput_47 : decode cX10_appendInput 47 = .ok (.iconst 1, 1) := by decide +kernel
theorem dX10_appendInput_48 : decode cX10_appendInput 48 = .ok (.iadd, 1) := by decide +kernel
theorem dX10_appendInput_49 : decode cX10_appendInput 49 = .ok (.putfield 213, 3) := by decide +kernel
theorem dX10_appendInput_52 : decode cX10_appendInput 52 = .ok (.iload_n 1, 1) := by decide +kernel
theorem dX10_appendInput_53 : decode cX10_appendInput 53 = .ok (.castore, 1) := by decide +kernel
theorem dX10_appendInput_54 : decode cX10_appendInput 54 = .ok (.aload_n 0, 1) := by decide +kernel
theorem dX10_appendInput_55 : decode cX10_appendInput 55 = .ok (.getfield 213, 3) := by decide +kernel
theorem dX10_appendInput_58 : decode cX10_appendInput 58 = .ok (.ireturn, 1) := by decide +kernel
theorem dX10_takes_0 : decode cX10_takes 0 = .ok (.aload_n 0, 1) := by decide +kernel
theorem dX10_takes_1 : decode cX10_takes 1 = .ok (.getfield 216, 3) := by decide +kernel
theorem dX10_takes_4 : decode cX10_takes 4 = .ok (.aload_n 0, 1) := by decide +kernel
theorem dX10_takes_5 : decode cX10_takes 5 = .ok (.getfield 213, 3) := by decide +kernel
theorem dX10_takes_8 : decode cX10_takes 8 = .ok (.if_icmp .eq 16, 3) := by decide +kernel
theorem dX10_takes_11 : decode cX10_takes 11 = .ok (.aload_n 0, 1) := by decide +kernel
theorem dX10_takes_12 : decode cX10_takes 12 = .ok (.getfield 29, 3) := by decide +kernel
theorem dX10_takes_15 : decode cX10_takes 15 = .ok (.aload_n 0, 1) := by decide +kernel
theorem dX10_takes_16 : decode cX10_takes 16 = .ok (.getfield 216, 3) := by decide +kernel
theorem dX10_takes_19 : decode cX10_takes 19 = .ok (.caload, 1) := by decide +kernel
theorem dX10_takes_20 : decode cX10_takes 20 = .ok (.iload_n 1, 1) := by decide +kernel
theorem dX10_takes_21 : decode cX10_takes 21 = .ok (.if_icmp .eq 5, 3) := by decide +kernel
theorem dX10_takes_24 : decode cX10_takes 24 = .ok (.iconst 0, 1) := by decide +kernel
theorem dX10_takes_25 : decode cX10_takes 25 = .ok (.ireturn, 1) := by decide +kernel
theorem dX10_takes_26 : decode cX10_takes 26 = .ok (.aload_n 0, 1) := by decide +kernel
theorem dX10_takes_27 : decode cX10_takes 27 = .ok (.dup, 1) := by decide +kernel
theorem dX10_takes_28 : decode cX10_takes 28 = .ok (.getfield 216, 3) := by decide +kernel
theorem dX10_takes_31 : decode cX10_takes 31 = .ok (.iconst 1, 1) := by decide +kernel
theorem dX10_takes_32 : decode cX10_takes 32 = .ok (.iadd, 1) := by decide +kernel
theorem dX10_takes_33 : decode cX10_takes 33 = .ok (.putfield 216, 3) := by decide +kernel
theorem dX10_takes_36 : decode cX10_takes 36 = .ok (.iconst 1, 1) := by decide +kernel
theorem dX10_takes_37 : decode cX10_takes 37 = .ok (.ireturn, 1) := by decide +kernel
theorem dX10_digits_0 : decode cX10_digits 0 = .ok (.iconst 0, 1) := by decide +kernel
theorem dX10_digits_1 : decode cX10_digits 1 = .ok (.istore_n 3, 1) := by decide +kernel
theorem dX10_digits_2 : decode cX10_digits 2 = .ok (.aload_n 0, 1) := by decide +kernel
theorem dX10_digits_3 : decode cX10_digits 3 = .ok (.getfield 32, 3) := by decide +kernel
theorem dX10_digits_6 : decode cX10_digits 6 = .ok (.iload_n 1, 1) := by decide +kernel
theorem dX10_digits_7 : decode cX10_digits 7 = .ok (.iconst 0, 1) := by decide +kernel
theorem dX10_digits_8 : decode cX10_digits 8 = .ok (.iastore, 1) := by decide +kernel
theorem dX10_digits_9 : decode cX10_digits 9 = .ok (.iload_n 3, 1) := by decide +kernel
theorem dX10_digits_10 : decode cX10_digits 10 = .ok (.iload_n 2, 1) := by decide +kernel
theorem dX10_digits_11 : decode cX10_digits 11 = .ok (.if_icmp .ge 74, 3) := by decide +kernel
theorem dX10_digits_14 : decode cX10_digits 14 = .ok (.aload_n 0, 1) := by decide +kernel
theorem dX10_digits_15 : decode cX10_digits 15 = .ok (.getfield 216, 3) := by decide +kernel
theorem dX10_digits_18 : decode cX10_digits 18 = .ok (.aload_n 0, 1) := by decide +kernel
theorem dX10_digits_19 : decode cX10_digits 19 = .ok (.getfield 213, 3) := by decide +kernel
theorem dX10_digits_22 : decode cX10_digits 22 = .ok (.if_icmp .ge 63, 3) := by decide +kernel
theorem dX10_digits_25 : decode cX10_digits 25 = .ok (.aload_n 0, 1) := by decide +kernel
theorem dX10_digits_26 : decode cX10_digits 26 = .ok (.getfield 29, 3) := by decide +kernel
theorem dX10_digits_29 : decode cX10_digits 29 = .ok (.aload_n 0, 1) := by decide +kernel
theorem dX10_digits_30 : decode cX10_digits 30 = .ok (.getfield 216, 3) := by decide +kernel
theorem dX10_digits_33 : decode cX10_digits 33 = .ok (.caload, 1) := by decide +kernel
theorem dX10_digits_34 : decode cX10_digits 34 = .ok (.bipush 48, 2) := by decide +kernel
theorem dX10_digits_36 : decode cX10_digits 36 = .ok (.bipush 57, 2) := by decide +kernel
theorem dX10_digits_38 : decode cX10_digits 38 = .ok (.invokestatic 61, 3) := by decide +kernel
theorem dX10_digits_41 : decode cX10_digits 41 = .ok (.ifCond .eq 44, 3) := by decide +kernel
theorem dX10_digits_44 : decode cX10_digits 44 = .ok (.aload_n 0, 1) := by decide +kernel
theorem dX10_digits_45 : decode cX10_digits 45 = .ok (.getfield 32, 3) := by decide +kernel
theorem dX10_digits_48 : decode cX10_digits 48 = .ok (.iload_n 1, 1) := by decide +kernel
theorem dX10_digits_49 : decode cX10_digits 49 = .ok (.bipush 10, 2) := by decide +kernel
theorem dX10_digits_51 : decode cX10_digits 51 = .ok (.aload_n 0, 1) := by decide +kernel
theorem dX10_digits_52 : decode cX10_digits 52 = .ok (.getfield 32, 3) := by decide +kernel
theorem dX10_digits_55 : decode cX10_digits 55 = .ok (.iload_n 1, 1) := by decide +kernel
theorem dX10_digits_56 : decode cX10_digits 56 = .ok (.iaload, 1) := by decide +kernel
theorem dX10_digits_57 : decode cX10_digits 57 = .ok (.imul, 1) := by decide +kernel
theorem dX10_digits_58 : decode cX10_digits 58 = .ok (.aload_n 0, 1) := by decide +kernel
theorem dX10_digits_59 : decode cX10_digits 59 = .ok (.getfield 29, 3) := by decide +kernel
theorem dX10_digits_62 : decode cX10_digits 62 = .ok (.aload_n 0, 1) := by decide +kernel
theorem dX10_digits_63 : decode cX10_digits 63 = .ok (.dup, 1) := by decide +kernel
theorem dX10_digits_64 : decode cX10_digits 64 = .ok (.getfield 216, 3) := by decide +kernel
theorem dX10_digits_67 : decode cX10_digits 67 = .ok (.dup_x1, 1) := by decide +kernel
theorem dX10_digits_68 : decode cX10_digits 68 = .ok (.iconst 1, 1) := by decide +kernel
theorem dX10_digits_69 : decode cX10_digits 69 = .ok (.iadd, 1) := by decide +kernel
theorem dX10_digits_70 : decode cX10_digits 70 = .ok (.putfield 216, 3) := by decide +kernel
theorem dX10_digits_73 : decode cX10_digits 73 = .ok (.caload, 1) := by decide +kernel
theorem dX10_digits_74 : decode cX10_digits 74 = .ok (.iadd, 1) := by decide +kernel
theorem dX10_digits_75 : decode cX10_digits 75 = .ok (.bipush 48, 2) := by decide +kernel
theorem dX10_digits_77 : decode cX10_digits 77 = .ok (.isub, 1) := by decide +kernel
theorem dX10_digits_78 : decode cX10_digits 78 = .ok (.iastore, 1) := by decide +kernel
theorem dX10_digits_79 : decode cX10_digits 79 = .ok (.iinc 3 1, 3) := by decide +kernel
theorem dX10_digits_82 : decode cX10_digits 82 = .ok (.goto (-73), 3) := by decide +kernel
theorem dX10_digits_85 : decode cX10_digits 85 = .ok (.iload_n 3, 1) := by decide +kernel
theorem dX10_digits_86 : decode cX10_digits 86 = .ok (.ifCond .le 7, 3) := by decide +kernel
theorem dX10_digits_89 : decode cX10_digits 89 = .ok (.iconst 1, 1) := by decide +kernel
theorem dX10_digits_90 : decode cX10_digits 90 = .ok (.goto 4, 3) := by decide +kernel
theorem dX10_digits_93 : decode cX10_digits 93 = .ok (.iconst 0, 1) := by decide +kernel
theorem dX10_digits_94 : decode cX10_digits 94 = .ok (.ireturn, 1) := by decide +kernel
theorem dX10_isCommand_0 : decode cX10_isCommand 0 = .ok (.aload_n 0, 1) := by decide +kernel
theorem dX10_isCommand_1 : decode cX10_isCommand 1 = .ok (.getfield 216, 3) := by decide +kernel
theorem dX10_isCommand_4 : decode cX10_isCommand 4 = .ok (.aload_n 0, 1) := by decide +kernel
theorem dX10_isCommand_5 : decode cX10_isCommand 5 = .ok (.getfield 213, 3) := by decide +kernel
theorem dX10_isCommand_8 : decode cX10_isCommand 8 = .ok (.if_icmp .eq 20, 3) := by decide +kernel
theorem dX10_isCommand_11 : decode cX10_isCommand 11 = .ok (.ldc 219, 2) := by decide +kernel
theorem dX10_isCommand_13 : decode cX10_isCommand 13 = .ok (.aload_n 0, 1) := by decide +kernel
theorem dX10_isCommand_14 : decode cX10_isCommand 14 = .ok (.getfield 29, 3) := by decide +kernel
theorem dX10_isCommand_17 : decode cX10_isCommand 17 = .ok (.aload_n 0, 1) := by decide +kernel
theorem dX10_isCommand_18 : decode cX10_isCommand 18 = .ok (.getfield 216, 3) := by decide +kernel
theorem dX10_isCommand_21 : decode cX10_isCommand 21 = .ok (.caload, 1) := by decide +kernel
theorem dX10_isCommand_22 : decode cX10_isCommand 22 = .ok (.invokevirtual 221, 3) := by decide +kernel
theorem dX10_isCommand_25 : decode cX10_isCommand 25 = .ok (.ifCond .ge 5, 3) := by decide +kernel
theorem dX10_isCommand_28 : decode cX10_isCommand 28 = .ok (.iconst 0, 1) := by decide +kernel
theorem dX10_isCommand_29 : decode cX10_isCommand 29 = .ok (.ireturn, 1) := by decide +kernel
theorem dX10_isCommand_30 : decode cX10_isCommand 30 = .ok (.aload_n 0, 1) := by decide +kernel
theorem dX10_isCommand_31 : decode cX10_isCommand 31 = .ok (.aload_n 0, 1) := by decide +kernel
theorem dX10_isCommand_32 : decode cX10_isCommand 32 = .ok (.getfield 29, 3) := by decide +kernel
theorem dX10_isCommand_35 : decode cX10_isCommand 35 = .ok (.aload_n 0, 1) := by decide +kernel
theorem dX10_isCommand_36 : decode cX10_isCommand 36 = .ok (.dup, 1) := by decide +kernel
theorem dX10_isCommand_37 : decode cX10_isCommand 37 = .ok (.getfield 216, 3) := by decide +kernel
theorem dX10_isCommand_40 : decode cX10_isCommand 40 = .ok (.dup_x1, 1) := by decide +kernel
theorem dX10_isCommand_41 : decode cX10_isCommand 41 = .ok (.iconst 1, 1) := by decide +kernel
theorem dX10_isCommand_42 : decode cX10_isCommand 42 = .ok (.iadd, 1) := by decide +kernel
theorem dX10_isCommand_43 : decode cX10_isCommand 43 = .ok (.putfield 216, 3) := by decide +kernel
theorem dX10_isCommand_46 : decode cX10_isCommand 46 = .ok (.caload, 1) := by decide +kernel
theorem dX10_isCommand_47 : decode cX10_isCommand 47 = .ok (.putfield 226, 3) := by decide +kernel
theorem dX10_isCommand_50 : decode cX10_isCommand 50 = .ok (.aload_n 0, 1) := by decide +kernel
theorem dX10_isCommand_51 : decode cX10_isCommand 51 = .ok (.getfield 226, 3) := by decide +kernel
theorem dX10_isCommand_54 : decode cX10_isCommand 54 = .ok (.tableswitch 197 99 113 #[74, 197, 197, 197, 164, 98, 197, 197, 197, 197, 131, 197, 197, 74, 74], 74) := by decide +kernel
theorem dX10_isCommand_128 : decode cX10_isCommand 128 = .ok (.aload_n 0, 1) := by decide +kernel
theorem dX10_isCommand_129 : decode cX10_isCommand 129 = .ok (.iconst 0, 1) := by decide +kernel
theorem dX10_isCommand_130 : decode cX10_isCommand 130 = .ok (.iconst 1, 1) := by decide +kernel
theorem dX10_isCommand_131 : decode cX10_isCommand 131 = .ok (.invokevirtual 230, 3) := by decide +kernel
theorem dX10_isCommand_134 : decode cX10_isCommand 134 = .ok (.ifCond .eq 16, 3) := by decide +kernel
theorem dX10_isCommand_137 : decode cX10_isCommand 137 = .ok (.aload_n 0, 1) := by decide +kernel
theorem dX10_isCommand_138 : decode cX10_isCommand 138 = .ok (.iconst 1, 1) := by decide +kernel
theorem dX10_isCommand_139 : decode cX10_isCommand 139 = .ok (.iconst 1, 1) := by decide +kernel
theorem dX10_isCommand_140 : decode cX10_isCommand 140 = .ok (.invokevirtual 230, 3) := by decide +kernel
theorem dX10_isCommand_143 : decode cX10_isCommand 143 = .ok (.ifCond .eq 7, 3) := by decide +kernel
theorem dX10_isCommand_146 : decode cX10_isCommand 146 = .ok (.iconst 1, 1) := by decide +kernel
theorem dX10_isCommand_147 : decode cX10_isCommand 147 = .ok (.goto 4, 3) := by decide +kernel
theorem dX10_isCommand_150 : decode cX10_isCommand 150 = .ok (.iconst 0, 1) := by decide +kernel
theorem dX10_isCommand_151 : decode cX10_isCommand 151 = .ok (.ireturn, 1) := by decide +kernel
theorem dX10_isCommand_152 : decode cX10_isCommand 152 = .ok (.aload_n 0, 1) := by decide +kernel
theorem dX10_isCommand_153 : decode cX10_isCommand 153 = .ok (.iconst 0, 1) := by decide +kernel
theorem dX10_isCommand_154 : decode cX10_isCommand 154 = .ok (.iconst 1, 1) := by decide +kernel
theorem dX10_isCommand_155 : decode cX10_isCommand 155 = .ok (.invokevirtual 230, 3) := by decide +kernel
theorem dX10_isCommand_158 : decode cX10_isCommand 158 = .ok (.ifCond .eq 25, 3) := by decide +kernel
theorem dX10_isCommand_161 : decode cX10_isCommand 161 = .ok (.aload_n 0, 1) := by decide +kernel
theorem dX10_isCommand_162 : decode cX10_isCommand 162 = .ok (.bipush 61, 2) := by decide +kernel
theorem dX10_isCommand_164 : decode cX10_isCommand 164 = .ok (.invokevirtual 233, 3) := by decide +kernel
theorem dX10_isCommand_167 : decode cX10_isCommand 167 = .ok (.ifCond .eq 16, 3) := by decide +kernel
theorem dX10_isCommand_170 : decode cX10_isCommand 170 = .ok (.aload_n 0, 1) := by decide +kernel
theorem dX10_isCommand_171 : decode cX10_isCommand 171 = .ok (.iconst 1, 1) := by decide +kernel
theorem dX10_isCommand_172 : decode cX10_isCommand 172 = .ok (.iconst 2, 1) := by decide +kernel
theorem dX10_isCommand_173 : decode cX10_isCommand 173 = .ok (.invokevirtual 230, 3) := by decide +kernel
theorem dX10_isCommand_176 : decode cX10_isCommand 176 = .ok (.ifCond .eq 7, 3) := by decide +kernel
theorem dX10_isCommand_179 : decode cX10_isCommand 179 = .ok (.iconst 1, 1) := by decide +kernel
theorem dX10_isCommand_180 : decode cX10_isCommand 180 = .ok (.goto 4, 3) := by decide +kernel
theorem dX10_isCommand_183 : decode cX10_isCommand 183 = .ok (.iconst 0, 1) := by decide +kernel
theorem dX10_isCommand_184 : decode cX10_isCommand 184 = .ok (.ireturn, 1) := by decide +kernel
theorem dX10_isCommand_185 : decode cX10_isCommand 185 = .ok (.aload_n 0, 1) := by decide +kernel
theorem dX10_isCommand_186 : decode cX10_isCommand 186 = .ok (.iconst 0, 1) := by decide +kernel
theorem dX10_isCommand_187 : decode cX10_isCommand 187 = .ok (.iconst 2, 1) := by decide +kernel
theorem dX10_isCommand_188 : decode cX10_isCommand 188 = .ok (.invokevirtual 230, 3) := by decide +kernel
theorem dX10_isCommand_191 : decode cX10_isCommand 191 = .ok (.ifCond .eq 25, 3) := by decide +kernel
theorem dX10_isCommand_194 : decode cX10_isCommand 194 = .ok (.aload_n 0, 1) := by decide +kernel
theorem dX10_isCommand_195 : decode cX10_isCommand 195 = .ok (.bipush 62, 2) := by decide +kernel
theorem dX10_isCommand_197 : decode cX10_isCommand 197 = .ok (.invokevirtual 233, 3) := by decide +kernel
theorem dX10_isCommand_200 : decode cX10_isCommand 200 = .ok (.ifCond .eq 16, 3) := by decide +kernel
theorem dX10_isCommand_203 : decode cX10_isCommand 203 = .ok (.aload_n 0, 1) := by decide +kernel
theorem dX10_isCommand_204 : decode cX10_isCommand 204 = .ok (.iconst 1, 1) := by decide +kernel
theorem dX10_isCommand_205 : decode cX10_isCommand 205 = .ok (.iconst 1, 1) := by decide +kernel
theorem dX10_isCommand_206 : decode cX10_isCommand 206 = .ok (.invokevirtual 230, 3) := by decide +kernel
theorem dX10_isCommand_209 : decode cX10_isCommand 209 = .ok (.ifCond .eq 7, 3) := by decide +kernel
theorem dX10_isCommand_212 : decode cX10_isCommand 212 = .ok (.iconst 1, 1) := by decide +kernel
theorem dX10_isCommand_213 : decode cX10_isCommand 213 = .ok (.goto 4, 3) := by decide +kernel
theorem dX10_isCommand_216 : decode cX10_isCommand 216 = .ok (.iconst 0, 1) := by decide +kernel
theorem dX10_isCommand_217 : decode cX10_isCommand 217 = .ok (.ireturn, 1) := by decide +kernel
theorem dX10_isCommand_218 : decode cX10_isCommand 218 = .ok (.aload_n 0, 1) := by decide +kernel
theorem dX10_isCommand_219 : decode cX10_isCommand 219 = .ok (.iconst 0, 1) := by decide +kernel
theorem dX10_isCommand_220 : decode cX10_isCommand 220 = .ok (.iconst 1, 1) := by decide +kernel
theorem dX10_isCommand_221 : decode cX10_isCommand 221 = .ok (.invokevirtual 230, 3) := by decide +kernel
theorem dX10_isCommand_224 : decode cX10_isCommand 224 = .ok (.ifCond .eq 25, 3) := by decide +kernel
theorem dX10_isCommand_227 : decode cX10_isCommand 227 = .ok (.aload_n 0, 1) := by decide +kernel
theorem dX10_isCommand_228 : decode cX10_isCommand 228 = .ok (.bipush 62, 2) := by decide +kernel
theorem dX10_isCommand_230 : decode cX10_isCommand 230 = .ok (.invokevirtual 233, 3) := by decide +kernel
theorem dX10_isCommand_233 : decode cX10_isCommand 233 = .ok (.ifCond .eq 16, 3) := by decide +kernel
theorem dX10_isCommand_236 : decode cX10_isCommand 236 = .ok (.aload_n 0, 1) := by decide +kernel
theorem dX10_isCommand_237 : decode cX10_isCommand 237 = .ok (.iconst 1, 1) := by decide +kernel
theorem dX10_isCommand_238 : decode cX10_isCommand 238 = .ok (.iconst 1, 1) := by decide +kernel
theorem dX10_isCommand_239 : decode cX10_isCommand 239 = .ok (.invokevirtual 230, 3) := by decide +kernel
theorem dX10_isCommand_242 : decode cX10_isCommand 242 = .ok (.ifCond .eq 7, 3) := by decide +kernel
theorem dX10_isCommand_245 : decode cX10_isCommand 245 = .ok (.iconst 1, 1) := by decide +kernel
theorem dX10_isCommand_246 : decode cX10_isCommand 246 = .ok (.goto 4, 3) := by decide +kernel
theorem dX10_isCommand_249 : decode cX10_isCommand 249 = .ok (.iconst 0, 1) := by decide +kernel
theorem dX10_isCommand_250 : decode cX10_isCommand 250 = .ok (.ireturn, 1) := by decide +kernel
theorem dX10_isCommand_251 : decode cX10_isCommand 251 = .ok (.aload_n 0, 1) := by decide +kernel
theorem dX10_isCommand_252 : decode cX10_isCommand 252 = .ok (.iconst 0, 1) := by decide +kernel
theorem dX10_isCommand_253 : decode cX10_isCommand 253 = .ok (.iconst 2, 1) := by decide +kernel
theorem dX10_isCommand_254 : decode cX10_isCommand 254 = .ok (.invokevirtual 230, 3) := by decide +kernel
theorem dX10_isCommand_257 : decode cX10_isCommand 257 = .ok (.ireturn, 1) := by decide +kernel
theorem dX10_carries_0 : decode cX10_carries 0 = .ok (.aload_n 0, 1) := by decide +kernel
theorem dX10_carries_1 : decode cX10_carries 1 = .ok (.getfield 226, 3) := by decide +kernel
theorem dX10_carries_4 : decode cX10_carries 4 = .ok (.tableswitch 259 97 117 #[248, 259, 134, 259, 259, 213, 185, 151, 259, 259, 259, 259, 168, 259, 237, 100, 117, 259, 202, 259, 225], 100) := by decide +kernel
theorem dX10_carries_104 : decode cX10_carries 104 = .ok (.aload_n 0, 1) := by decide +kernel
theorem dX10_carries_105 : decode cX10_carries 105 = .ok (.aload_n 0, 1) := by decide +kernel
theorem dX10_carries_106 : decode cX10_carries 106 = .ok (.getfield 32, 3) := by decide +kernel
theorem dX10_carries_109 : decode cX10_carries 109 = .ok (.iconst 0, 1) := by decide +kernel
theorem dX10_carries_110 : decode cX10_carries 110 = .ok (.iaload, 1) := by decide +kernel
theorem dX10_carries_111 : decode cX10_carries 111 = .ok (.aload_n 0, 1) := by decide +kernel
theorem dX10_carries_112 : decode cX10_carries 112 = .ok (.getfield 32, 3) := by decide +kernel
theorem dX10_carries_115 : decode cX10_carries 115 = .ok (.iconst 1, 1) := by decide +kernel
theorem dX10_carries_116 : decode cX10_carries 116 = .ok (.iaload, 1) := by decide +kernel
theorem dX10_carries_117 : decode cX10_carries 117 = .ok (.invokevirtual 106, 3) := by decide +kernel
theorem dX10_carries_120 : decode cX10_carries 120 = .ok (.ireturn, 1) := by decide +kernel
theorem dX10_carries_121 : decode cX10_carries 121 = .ok (.aload_n 0, 1) := by decide +kernel
theorem dX10_carries_122 : decode cX10_carries 122 = .ok (.aload_n 0, 1) := by decide +kernel
theorem dX10_carries_123 : decode cX10_carries 123 = .ok (.getfield 32, 3) := by decide +kernel
theorem dX10_carries_126 : decode cX10_carries 126 = .ok (.iconst 0, 1) := by decide +kernel
theorem dX10_carries_127 : decode cX10_carries 127 = .ok (.iaload, 1) := by decide +kernel
theorem dX10_carries_128 : decode cX10_carries 128 = .ok (.aload_n 0, 1) := by decide +kernel
theorem dX10_carries_129 : decode cX10_carries 129 = .ok (.getfield 32, 3) := by decide +kernel
theorem dX10_carries_132 : decode cX10_carries 132 = .ok (.iconst 1, 1) := by decide +kernel
theorem dX10_carries_133 : decode cX10_carries 133 = .ok (.iaload, 1) := by decide +kernel
theorem dX10_carries_134 : decode cX10_carries 134 = .ok (.invokevirtual 116, 3) := by decide +kernel
theorem dX10_carries_137 : decode cX10_carries 137 = .ok (.ireturn, 1) := by decide +kernel
theorem dX10_carries_138 : decode cX10_carries 138 = .ok (.aload_n 0, 1) := by decide +kernel
theorem dX10_carries_139 : decode cX10_carries 139 = .ok (.aload_n 0, 1) := by decide +kernel
theorem dX10_carries_140 : decode cX10_carries 140 = .ok (.getfield 32, 3) := by decide +kernel
theorem dX10_carries_143 : decode cX10_carries 143 = .ok (.iconst 0, 1) := by decide +kernel
theorem dX10_carries_144 : decode cX10_carries 144 = .ok (.iaload, 1) := by decide +kernel
theorem dX10_carries_145 : decode cX10_carries 145 = .ok (.aload_n 0, 1) := by decide +kernel
theorem dX10_carries_146 : decode cX10_carries 146 = .ok (.getfield 32, 3) := by decide +kernel
theorem dX10_carries_149 : decode cX10_carries 149 = .ok (.iconst 1, 1) := by decide +kernel
theorem dX10_carries_150 : decode cX10_carries 150 = .ok (.iaload, 1) := by decide +kernel
theorem dX10_carries_151 : decode cX10_carries 151 = .ok (.invokevirtual 126, 3) := by decide +kernel
theorem dX10_carries_154 : decode cX10_carries 154 = .ok (.ireturn, 1) := by decide +kernel
theorem dX10_carries_155 : decode cX10_carries 155 = .ok (.aload_n 0, 1) := by decide +kernel
theorem dX10_carries_156 : decode cX10_carries 156 = .ok (.aload_n 0, 1) := by decide +kernel
theorem dX10_carries_157 : decode cX10_carries 157 = .ok (.getfield 32, 3) := by decide +kernel
theorem dX10_carries_160 : decode cX10_carries 160 = .ok (.iconst 0, 1) := by decide +kernel
theorem dX10_carries_161 : decode cX10_carries 161 = .ok (.iaload, 1) := by decide +kernel
theorem dX10_carries_162 : decode cX10_carries 162 = .ok (.aload_n 0, 1) := by decide +kernel
theorem dX10_carries_163 : decode cX10_carries 163 = .ok (.getfield 32, 3) := by decide +kernel
theorem dX10_carries_166 : decode cX10_carries 166 = .ok (.iconst 1, 1) := by decide +kernel
theorem dX10_carries_167 : decode cX10_carries 167 = .ok (.iaload, 1) := by decide +kernel
theorem dX10_carries_168 : decode cX10_carries 168 = .ok (.invokevirtual 119, 3) := by decide +kernel
theorem dX10_carries_171 : decode cX10_carries 171 = .ok (.ireturn, 1) := by decide +kernel
theorem dX10_carries_172 : decode cX10_carries 172 = .ok (.aload_n 0, 1) := by decide +kernel
theorem dX10_carries_173 : decode cX10_carries 173 = .ok (.aload_n 0, 1) := by decide +kernel
theorem dX10_carries_174 : decode cX10_carries 174 = .ok (.getfield 32, 3) := by decide +kernel
theorem dX10_carries_177 : decode cX10_carries 177 = .ok (.iconst 0, 1) := by decide +kernel
theorem dX10_carries_178 : decode cX10_carries 178 = .ok (.iaload, 1) := by decide +kernel
theorem dX10_carries_179 : decode cX10_carries 179 = .ok (.aload_n 0, 1) := by decide +kernel
theorem dX10_carries_180 : decode cX10_carries 180 = .ok (.getfield 32, 3) := by decide +kernel
theorem dX10_carries_183 : decode cX10_carries 183 = .ok (.iconst 1, 1) := by decide +kernel
theorem dX10_carries_184 : decode cX10_carries 184 = .ok (.iaload, 1) := by decide +kernel
theorem dX10_carries_185 : decode cX10_carries 185 = .ok (.invokevirtual 144, 3) := by decide +kernel
theorem dX10_carries_188 : decode cX10_carries 188 = .ok (.ireturn, 1) := by decide +kernel
theorem dX10_carries_189 : decode cX10_carries 189 = .ok (.aload_n 0, 1) := by decide +kernel
theorem dX10_carries_190 : decode cX10_carries 190 = .ok (.aload_n 0, 1) := by decide +kernel
theorem dX10_carries_191 : decode cX10_carries 191 = .ok (.getfield 32, 3) := by decide +kernel
theorem dX10_carries_194 : decode cX10_carries 194 = .ok (.iconst 0, 1) := by decide +kernel
theorem dX10_carries_195 : decode cX10_carries 195 = .ok (.iaload, 1) := by decide +kernel
theorem dX10_carries_196 : decode cX10_carries 196 = .ok (.aload_n 0, 1) := by decide +kernel
theorem dX10_carries_197 : decode cX10_carries 197 = .ok (.getfield 32, 3) := by decide +kernel
theorem dX10_carries_200 : decode cX10_carries 200 = .ok (.iconst 1, 1) := by decide +kernel
theorem dX10_carries_201 : decode cX10_carries 201 = .ok (.iaload, 1) := by decide +kernel
theorem dX10_carries_202 : decode cX10_carries 202 = .ok (.invokevirtual 153, 3) := by decide +kernel
theorem dX10_carries_205 : decode cX10_carries 205 = .ok (.ireturn, 1) := by decide +kernel
theorem dX10_carries_206 : decode cX10_carries 206 = .ok (.aload_n 0, 1) := by decide +kernel
theorem dX10_carries_207 : decode cX10_carries 207 = .ok (.aload_n 0, 1) := by decide +kernel
theorem dX10_carries_208 : decode cX10_carries 208 = .ok (.getfield 32, 3) := by decide +kernel
theorem dX10_carries_211 : decode cX10_carries 211 = .ok (.iconst 0, 1) := by decide +kernel
theorem dX10_carries_212 : decode cX10_carries 212 = .ok (.iaload, 1) := by decide +kernel
theorem dX10_carries_213 : decode cX10_carries 213 = .ok (.invokevirtual 135, 3) := by decide +kernel
theorem dX10_carries_216 : decode cX10_carries 216 = .ok (.ireturn, 1) := by decide +kernel
theorem dX10_carries_217 : decode cX10_carries 217 = .ok (.aload_n 0, 1) := by decide +kernel
theorem dX10_carries_218 : decode cX10_carries 218 = .ok (.aload_n 0, 1) := by decide +kernel
theorem dX10_carries_219 : decode cX10_carries 219 = .ok (.getfield 32, 3) := by decide +kernel
theorem dX10_carries_222 : decode cX10_carries 222 = .ok (.iconst 0, 1) := by decide +kernel
theorem dX10_carries_223 : decode cX10_carries 223 = .ok (.iaload, 1) := by decide +kernel
theorem dX10_carries_224 : decode cX10_carries 224 = .ok (.iconst 1, 1) := by decide +kernel
theorem dX10_carries_225 : decode cX10_carries 225 = .ok (.invokevirtual 141, 3) := by decide +kernel
theorem dX10_carries_228 : decode cX10_carries 228 = .ok (.ireturn, 1) := by decide +kernel
theorem dX10_carries_229 : decode cX10_carries 229 = .ok (.aload_n 0, 1) := by decide +kernel
theorem dX10_carries_230 : decode cX10_carries 230 = .ok (.aload_n 0, 1) := by decide +kernel
theorem dX10_carries_231 : decode cX10_carries 231 = .ok (.getfield 32, 3) := by decide +kernel
theorem dX10_carries_234 : decode cX10_carries 234 = .ok (.iconst 0, 1) := by decide +kernel
theorem dX10_carries_235 : decode cX10_carries 235 = .ok (.iaload, 1) := by decide +kernel
theorem dX10_carries_236 : decode cX10_carries 236 = .ok (.iconst 0, 1) := by decide +kernel
theorem dX10_carries_237 : decode cX10_carries 237 = .ok (.invokevirtual 141, 3) := by decide +kernel
theorem dX10_carries_240 : decode cX10_carries 240 = .ok (.ireturn, 1) := by decide +kernel
theorem dX10_carries_241 : decode cX10_carries 241 = .ok (.aload_n 0, 1) := by decide +kernel
theorem dX10_carries_242 : decode cX10_carries 242 = .ok (.aload_n 0, 1) := by decide +kernel
theorem dX10_carries_243 : decode cX10_carries 243 = .ok (.getfield 32, 3) := by decide +kernel
theorem dX10_carries_246 : decode cX10_carries 246 = .ok (.iconst 0, 1) := by decide +kernel
theorem dX10_carries_247 : decode cX10_carries 247 = .ok (.iaload, 1) := by decide +kernel
theorem dX10_carries_248 : decode cX10_carries 248 = .ok (.invokevirtual 161, 3) := by decide +kernel
theorem dX10_carries_251 : decode cX10_carries 251 = .ok (.ireturn, 1) := by decide +kernel
theorem dX10_carries_252 : decode cX10_carries 252 = .ok (.aload_n 0, 1) := by decide +kernel
theorem dX10_carries_253 : decode cX10_carries 253 = .ok (.aload_n 0, 1) := by decide +kernel
theorem dX10_carries_254 : decode cX10_carries 254 = .ok (.getfield 32, 3) := by decide +kernel
theorem dX10_carries_257 : decode cX10_carries 257 = .ok (.iconst 0, 1) := by decide +kernel
theorem dX10_carries_258 : decode cX10_carries 258 = .ok (.iaload, 1) := by decide +kernel
theorem dX10_carries_259 : decode cX10_carries 259 = .ok (.invokevirtual 164, 3) := by decide +kernel
theorem dX10_carries_262 : decode cX10_carries 262 = .ok (.ireturn, 1) := by decide +kernel
theorem dX10_carries_263 : decode cX10_carries 263 = .ok (.aload_n 0, 1) := by decide +kernel
theorem dX10_carries_264 : decode cX10_carries 264 = .ok (.aload_n 0, 1) := by decide +kernel
theorem dX10_carries_265 : decode cX10_carries 265 = .ok (.getfield 32, 3) := by decide +kernel
theorem dX10_carries_268 : decode cX10_carries 268 = .ok (.iconst 0, 1) := by decide +kernel
theorem dX10_carries_269 : decode cX10_carries 269 = .ok (.iaload, 1) := by decide +kernel
theorem dX10_carries_270 : decode cX10_carries 270 = .ok (.invokevirtual 173, 3) := by decide +kernel
theorem dX10_carries_273 : decode cX10_carries 273 = .ok (.ireturn, 1) := by decide +kernel
theorem dX10_execute_0 : decode cX10_execute 0 = .ok (.aload_n 0, 1) := by decide +kernel
theorem dX10_execute_1 : decode cX10_execute 1 = .ok (.invokevirtual 103, 3) := by decide +kernel
theorem dX10_execute_4 : decode cX10_execute 4 = .ok (.aload_n 0, 1) := by decide +kernel
theorem dX10_execute_5 : decode cX10_execute 5 = .ok (.iconst 0, 1) := by decide +kernel
theorem dX10_execute_6 : decode cX10_execute 6 = .ok (.putfield 216, 3) := by decide +kernel
theorem dX10_execute_9 : decode cX10_execute 9 = .ok (.aload_n 0, 1) := by decide +kernel
theorem dX10_execute_10 : decode cX10_execute 10 = .ok (.invokevirtual 237, 3) := by decide +kernel
theorem dX10_execute_13 : decode cX10_execute 13 = .ok (.istore_n 1, 1) := by decide +kernel
theorem dX10_execute_14 : decode cX10_execute 14 = .ok (.iload_n 1, 1) := by decide +kernel
theorem dX10_execute_15 : decode cX10_execute 15 = .ok (.ifCond .eq 39, 3) := by decide +kernel
theorem dX10_execute_18 : decode cX10_execute 18 = .ok (.aload_n 0, 1) := by decide +kernel
theorem dX10_execute_19 : decode cX10_execute 19 = .ok (.getfield 216, 3) := by decide +kernel
theorem dX10_execute_22 : decode cX10_execute 22 = .ok (.aload_n 0, 1) := by decide +kernel
theorem dX10_execute_23 : decode cX10_execute 23 = .ok (.getfield 213, 3) := by decide +kernel
theorem dX10_execute_26 : decode cX10_execute 26 = .ok (.if_icmp .ge 28, 3) := by decide +kernel
theorem dX10_execute_29 : decode cX10_execute 29 = .ok (.aload_n 0, 1) := by decide +kernel
theorem dX10_execute_30 : decode cX10_execute 30 = .ok (.bipush 59, 2) := by decide +kernel
theorem dX10_execute_32 : decode cX10_execute 32 = .ok (.invokevirtual 233, 3) := by decide +kernel
theorem dX10_execute_35 : decode cX10_execute 35 = .ok (.ifCond .eq 14, 3) := by decide +kernel
theorem dX10_execute_38 : decode cX10_execute 38 = .ok (.aload_n 0, 1) := by decide +kernel
theorem dX10_execute_39 : decode cX10_execute 39 = .ok (.invokevirtual 237, 3) := by decide +kernel
theorem dX10_execute_42 : decode cX10_execute 42 = .ok (.ifCond .eq 7, 3) := by decide +kernel
theorem dX10_execute_45 : decode cX10_execute 45 = .ok (.iconst 1, 1) := by decide +kernel
theorem dX10_execute_46 : decode cX10_execute 46 = .ok (.goto 4, 3) := by decide +kernel
theorem dX10_execute_49 : decode cX10_execute 49 = .ok (.iconst 0, 1) := by decide +kernel
theorem dX10_execute_50 : decode cX10_execute 50 = .ok (.istore_n 1, 1) := by decide +kernel
theorem dX10_execute_51 : decode cX10_execute 51 = .ok (.goto (-37), 3) := by decide +kernel
theorem dX10_execute_54 : decode cX10_execute 54 = .ok (.iload_n 1, 1) := by decide +kernel
theorem dX10_execute_55 : decode cX10_execute 55 = .ok (.ifCond .ne 22, 3) := by decide +kernel
theorem dX10_execute_58 : decode cX10_execute 58 = .ok (.aload_n 0, 1) := by decide +kernel
theorem dX10_execute_59 : decode cX10_execute 59 = .ok (.aload_n 0, 1) := by decide +kernel
theorem dX10_execute_60 : decode cX10_execute 60 = .ok (.getfield 216, 3) := by decide +kernel
theorem dX10_execute_63 : decode cX10_execute 63 = .ok (.putfield 35, 3) := by decide +kernel
theorem dX10_execute_66 : decode cX10_execute 66 = .ok (.aload_n 0, 1) := by decide +kernel
theorem dX10_execute_67 : decode cX10_execute 67 = .ok (.iconst 0, 1) := by decide +kernel
theorem dX10_execute_68 : decode cX10_execute 68 = .ok (.putfield 213, 3) := by decide +kernel
theorem dX10_execute_71 : decode cX10_execute 71 = .ok (.aload_n 0, 1) := by decide +kernel
theorem dX10_execute_72 : decode cX10_execute 72 = .ok (.iconst 1, 1) := by decide +kernel
theorem dX10_execute_73 : decode cX10_execute 73 = .ok (.invokevirtual 54, 3) := by decide +kernel
theorem dX10_execute_76 : decode cX10_execute 76 = .ok (.ireturn, 1) := by decide +kernel
theorem dX10_execute_77 : decode cX10_execute 77 = .ok (.aload_n 0, 1) := by decide +kernel
theorem dX10_execute_78 : decode cX10_execute 78 = .ok (.iconst 0, 1) := by decide +kernel
theorem dX10_execute_79 : decode cX10_execute 79 = .ok (.putfield 216, 3) := by decide +kernel
theorem dX10_execute_82 : decode cX10_execute 82 = .ok (.iconst 0, 1) := by decide +kernel
theorem dX10_execute_83 : decode cX10_execute 83 = .ok (.istore_n 2, 1) := by decide +kernel
theorem dX10_execute_84 : decode cX10_execute 84 = .ok (.iconst 0, 1) := by decide +kernel
theorem dX10_execute_85 : decode cX10_execute 85 = .ok (.istore_n 3, 1) := by decide +kernel
theorem dX10_execute_86 : decode cX10_execute 86 = .ok (.iconst 1, 1) := by decide +kernel
theorem dX10_execute_87 : decode cX10_execute 87 = .ok (.istore 4, 2) := by decide +kernel
theorem dX10_execute_89 : decode cX10_execute 89 = .ok (.iload 4, 2) := by decide +kernel
theorem dX10_execute_91 : decode cX10_execute 91 = .ok (.ifCond .eq 43, 3) := by decide +kernel
theorem dX10_execute_94 : decode cX10_execute 94 = .ok (.aload_n 0, 1) := by decide +kernel
theorem dX10_execute_95 : decode cX10_execute 95 = .ok (.invokevirtual 237, 3) := by decide +kernel
theorem dX10_execute_98 : decode cX10_execute 98 = .ok (.istore_n 1, 1) := by decide +kernel
theorem dX10_execute_99 : decode cX10_execute 99 = .ok (.aload_n 0, 1) := by decide +kernel
theorem dX10_execute_100 : decode cX10_execute 100 = .ok (.invokevirtual 241, 3) := by decide +kernel
theorem dX10_execute_103 : decode cX10_execute 103 = .ok (.istore_n 3, 1) := by decide +kernel
theorem dX10_execute_104 : decode cX10_execute 104 = .ok (.iload_n 3, 1) := by decide +kernel
theorem dX10_execute_105 : decode cX10_execute 105 = .ok (.ifCond .ne 6, 3) := by decide +kernel
theorem dX10_execute_108 : decode cX10_execute 108 = .ok (.iinc 2 1, 3) := by decide +kernel
theorem dX10_execute_111 : decode cX10_execute 111 = .ok (.iload_n 3, 1) := by decide +kernel
theorem dX10_execute_112 : decode cX10_execute 112 = .ok (.ifCond .ne 16, 3) := by decide +kernel
theorem dX10_execute_115 : decode cX10_execute 115 = .ok (.aload_n 0, 1) := by decide +kernel
theorem dX10_execute_116 : decode cX10_execute 116 = .ok (.bipush 59, 2) := by decide +kernel
theorem dX10_execute_118 : decode cX10_execute 118 = .ok (.invokevirtual 233, 3) := by decide +kernel
theorem dX10_execute_121 : decode cX10_execute 121 = .ok (.ifCond .eq 7, 3) := by decide +kernel
theorem dX10_execute_124 : decode cX10_execute 124 = .ok (.iconst 1, 1) := by decide +kernel
theorem dX10_execute_125 : decode cX10_execute 125 = .ok (.goto 4, 3) := by decide +kernel
theorem dX10_execute_128 : decode cX10_execute 128 = .ok (.iconst 0, 1) := by decide +kernel
theorem dX10_execute_129 : decode cX10_execute 129 = .ok (.istore 4, 2) := by decide +kernel
theorem dX10_execute_131 : decode cX10_execute 131 = .ok (.goto (-42), 3) := by decide +kernel
theorem dX10_execute_134 : decode cX10_execute 134 = .ok (.aload_n 0, 1) := by decide +kernel
theorem dX10_execute_135 : decode cX10_execute 135 = .ok (.iconst 0, 1) := by decide +kernel
theorem dX10_execute_136 : decode cX10_execute 136 = .ok (.putfield 213, 3) := by decide +kernel
theorem dX10_execute_139 : decode cX10_execute 139 = .ok (.iload_n 3, 1) := by decide +kernel
theorem dX10_execute_140 : decode cX10_execute 140 = .ok (.ifCond .ne 16, 3) := by decide +kernel
theorem dX10_execute_143 : decode cX10_execute 143 = .ok (.aload_n 0, 1) := by decide +kernel
theorem dX10_execute_144 : decode cX10_execute 144 = .ok (.aload_n 0, 1) := by decide +kernel
theorem dX10_execute_145 : decode cX10_execute 145 = .ok (.iload_n 2, 1) := by decide +kernel
theorem dX10_execute_146 : decode cX10_execute 146 = .ok (.invokevirtual 100, 3) := by decide +kernel
theorem dX10_execute_149 : decode cX10_execute 149 = .ok (.iconst 0, 1) := by decide +kernel
theorem dX10_execute_150 : decode cX10_execute 150 = .ok (.iconst 0, 1) := by decide +kernel
theorem dX10_execute_151 : decode cX10_execute 151 = .ok (.iconst 0, 1) := by decide +kernel
theorem dX10_execute_152 : decode cX10_execute 152 = .ok (.invokevirtual 109, 3) := by decide +kernel
theorem dX10_execute_155 : decode cX10_execute 155 = .ok (.ireturn, 1) := by decide +kernel
theorem dX10_execute_156 : decode cX10_execute 156 = .ok (.iconst 0, 1) := by decide +kernel
theorem dX10_execute_157 : decode cX10_execute 157 = .ok (.istore 5, 2) := by decide +kernel
theorem dX10_execute_159 : decode cX10_execute 159 = .ok (.iload 5, 2) := by decide +kernel
theorem dX10_execute_161 : decode cX10_execute 161 = .ok (.bipush 116, 2) := by decide +kernel
theorem dX10_execute_163 : decode cX10_execute 163 = .ok (.if_icmp .ge 23, 3) := by decide +kernel
theorem dX10_execute_166 : decode cX10_execute 166 = .ok (.aload_n 0, 1) := by decide +kernel
theorem dX10_execute_167 : decode cX10_execute 167 = .ok (.getfield 9, 3) := by decide +kernel
theorem dX10_execute_170 : decode cX10_execute 170 = .ok (.iload 5, 2) := by decide +kernel
theorem dX10_execute_172 : decode cX10_execute 172 = .ok (.aload_n 0, 1) := by decide +kernel
theorem dX10_execute_173 : decode cX10_execute 173 = .ok (.getfield 13, 3) := by decide +kernel
theorem dX10_execute_176 : decode cX10_execute 176 = .ok (.iload 5, 2) := by decide +kernel
theorem dX10_execute_178 : decode cX10_execute 178 = .ok (.iaload, 1) := by decide +kernel
theorem dX10_execute_179 : decode cX10_execute 179 = .ok (.iastore, 1) := by decide +kernel
theorem dX10_execute_180 : decode cX10_execute 180 = .ok (.iinc 5 1, 3) := by decide +kernel
theorem dX10_execute_183 : decode cX10_execute 183 = .ok (.goto (-24), 3) := by decide +kernel
theorem dX10_execute_186 : decode cX10_execute 186 = .ok (.iload_n 3, 1) := by decide +kernel
theorem dX10_execute_187 : decode cX10_execute 187 = .ok (.ifCond .le 9, 3) := by decide +kernel
theorem dX10_execute_190 : decode cX10_execute 190 = .ok (.aload_n 0, 1) := by decide +kernel
theorem dX10_execute_191 : decode cX10_execute 191 = .ok (.iconst 2, 1) := by decide +kernel
theorem dX10_execute_192 : decode cX10_execute 192 = .ok (.invokevirtual 54, 3) := by decide +kernel
theorem dX10_execute_195 : decode cX10_execute 195 = .ok (.ireturn, 1) := by decide +kernel
theorem dX10_execute_196 : decode cX10_execute 196 = .ok (.aload_n 0, 1) := by decide +kernel
theorem dX10_execute_197 : decode cX10_execute 197 = .ok (.aload_n 0, 1) := by decide +kernel
theorem dX10_execute_198 : decode cX10_execute 198 = .ok (.getfield 45, 3) := by decide +kernel
theorem dX10_execute_201 : decode cX10_execute 201 = .ok (.putfield 51, 3) := by decide +kernel
theorem dX10_execute_204 : decode cX10_execute 204 = .ok (.aload_n 0, 1) := by decide +kernel
theorem dX10_execute_205 : decode cX10_execute 205 = .ok (.bipush 11, 2) := by decide +kernel
theorem dX10_execute_207 : decode cX10_execute 207 = .ok (.putfield 45, 3) := by decide +kernel
theorem dX10_execute_210 : decode cX10_execute 210 = .ok (.aload_n 0, 1) := by decide +kernel
theorem dX10_execute_211 : decode cX10_execute 211 = .ok (.iload_n 2, 1) := by decide +kernel
theorem dX10_execute_212 : decode cX10_execute 212 = .ok (.putfield 48, 3) := by decide +kernel
theorem dX10_execute_215 : decode cX10_execute 215 = .ok (.aload_n 0, 1) := by decide +kernel
theorem dX10_execute_216 : decode cX10_execute 216 = .ok (.iconst 3, 1) := by decide +kernel
theorem dX10_execute_217 : decode cX10_execute 217 = .ok (.invokevirtual 54, 3) := by decide +kernel
theorem dX10_execute_220 : decode cX10_execute 220 = .ok (.ireturn, 1) := by decide +kernel
theorem dX10_syntaxErrorOffset_0 : decode cX10_syntaxErrorOffset 0 = .ok (.aload_n 0, 1) := by decide +kernel
theorem dX10_syntaxErrorOffset_1 : decode cX10_syntaxErrorOffset 1 = .ok (.iconst 0, 1) := by decide +kernel
theorem dX10_syntaxErrorOffset_2 : decode cX10_syntaxErrorOffset 2 = .ok (.putfield 39, 3) := by decide +kernel
theorem dX10_syntaxErrorOffset_5 : decode cX10_syntaxErrorOffset 5 = .ok (.aload_n 0, 1) := by decide +kernel
theorem dX10_syntaxErrorOffset_6 : decode cX10_syntaxErrorOffset 6 = .ok (.getfield 35, 3) := by decide +kernel
theorem dX10_syntaxErrorOffset_9 : decode cX10_syntaxErrorOffset 9 = .ok (.ifCond .ge 11, 3) := by decide +kernel
theorem dX10_syntaxErrorOffset_12 : decode cX10_syntaxErrorOffset 12 = .ok (.aload_n 0, 1) := by decide +kernel
theorem dX10_syntaxErrorOffset_13 : decode cX10_syntaxErrorOffset 13 = .ok (.iconst 1, 1) := by decide +kernel
theorem dX10_syntaxErrorOffset_14 : decode cX10_syntaxErrorOffset 14 = .ok (.invokevirtual 54, 3) := by decide +kernel
theorem dX10_syntaxErrorOffset_17 : decode cX10_syntaxErrorOffset 17 = .ok (.goto 7, 3) := by decide +kernel
theorem dX10_syntaxErrorOffset_20 : decode cX10_syntaxErrorOffset 20 = .ok (.aload_n 0, 1) := by decide +kernel
theorem dX10_syntaxErrorOffset_21 : decode cX10_syntaxErrorOffset 21 = .ok (.getfield 35, 3) := by decide +kernel
theorem dX10_syntaxErrorOffset_24 : decode cX10_syntaxErrorOffset 24 = .ok (.ireturn, 1) := by decide +kernel
theorem dX10_rejectionReason_0 : decode cX10_rejectionReason 0 = .ok (.aload_n 0, 1) := by decide +kernel
theorem dX10_rejectionReason_1 : decode cX10_rejectionReason 1 = .ok (.aload_n 0, 1) := by decide +kernel
theorem dX10_rejectionReason_2 : decode cX10_rejectionReason 2 = .ok (.getfield 45, 3) := by decide +kernel
theorem dX10_rejectionReason_5 : decode cX10_rejectionReason 5 = .ok (.ifCond .ne 7, 3) := by decide +kernel
theorem dX10_rejectionReason_8 : decode cX10_rejectionReason 8 = .ok (.iconst 1, 1) := by decide +kernel
theorem dX10_rejectionReason_9 : decode cX10_rejectionReason 9 = .ok (.goto 4, 3) := by decide +kernel
theorem dX10_rejectionReason_12 : decode cX10_rejectionReason 12 = .ok (.iconst 0, 1) := by decide +kernel
theorem dX10_rejectionReason_13 : decode cX10_rejectionReason 13 = .ok (.putfield 39, 3) := by decide +kernel
theorem dX10_rejectionReason_16 : decode cX10_rejectionReason 16 = .ok (.aload_n 0, 1) := by decide +kernel
theorem dX10_rejectionReason_17 : decode cX10_rejectionReason 17 = .ok (.getfield 45, 3) := by decide +kernel
theorem dX10_rejectionReason_20 : decode cX10_rejectionReason 20 = .ok (.ireturn, 1) := by decide +kernel
theorem dX10_rejectionDetail_0 : decode cX10_rejectionDetail 0 = .ok (.aload_n 0, 1) := by decide +kernel
theorem dX10_rejectionDetail_1 : decode cX10_rejectionDetail 1 = .ok (.aload_n 0, 1) := by decide +kernel
theorem dX10_rejectionDetail_2 : decode cX10_rejectionDetail 2 = .ok (.getfield 45, 3) := by decide +kernel
theorem dX10_rejectionDetail_5 : decode cX10_rejectionDetail 5 = .ok (.ifCond .ne 7, 3) := by decide +kernel
theorem dX10_rejectionDetail_8 : decode cX10_rejectionDetail 8 = .ok (.iconst 1, 1) := by decide +kernel
theorem dX10_rejectionDetail_9 : decode cX10_rejectionDetail 9 = .ok (.goto 4, 3) := by decide +kernel
theorem dX10_rejectionDetail_12 : decode cX10_rejectionDetail 12 = .ok (.iconst 0, 1) := by decide +kernel
theorem dX10_rejectionDetail_13 : decode cX10_rejectionDetail 13 = .ok (.putfield 39, 3) := by decide +kernel
theorem dX10_rejectionDetail_16 : decode cX10_rejectionDetail 16 = .ok (.aload_n 0, 1) := by decide +kernel
theorem dX10_rejectionDetail_17 : decode cX10_rejectionDetail 17 = .ok (.getfield 48, 3) := by decide +kernel
theorem dX10_rejectionDetail_20 : decode cX10_rejectionDetail 20 = .ok (.ireturn, 1) := by decide +kernel
theorem dX10_causeReason_0 : decode cX10_causeReason 0 = .ok (.aload_n 0, 1) := by decide +kernel
theorem dX10_causeReason_1 : decode cX10_causeReason 1 = .ok (.aload_n 0, 1) := by decide +kernel
theorem dX10_causeReason_2 : decode cX10_causeReason 2 = .ok (.getfield 51, 3) := by decide +kernel
theorem dX10_causeReason_5 : decode cX10_causeReason 5 = .ok (.ifCond .ne 7, 3) := by decide +kernel
theorem dX10_causeReason_8 : decode cX10_causeReason 8 = .ok (.iconst 1, 1) := by decide +kernel
theorem dX10_causeReason_9 : decode cX10_causeReason 9 = .ok (.goto 4, 3) := by decide +kernel
theorem dX10_causeReason_12 : decode cX10_causeReason 12 = .ok (.iconst 0, 1) := by decide +kernel
theorem dX10_causeReason_13 : decode cX10_causeReason 13 = .ok (.putfield 39, 3) := by decide +kernel
theorem dX10_causeReason_16 : decode cX10_causeReason 16 = .ok (.aload_n 0, 1) := by decide +kernel
theorem dX10_causeReason_17 : decode cX10_causeReason 17 = .ok (.getfield 51, 3) := by decide +kernel
theorem dX10_causeReason_20 : decode cX10_causeReason 20 = .ok (.ireturn, 1) := by decide +kernel
theorem dX10_undo_0 : decode cX10_undo 0 = .ok (.aload_n 0, 1) := by decide +kernel
theorem dX10_undo_1 : decode cX10_undo 1 = .ok (.iconst 0, 1) := by decide +kernel
theorem dX10_undo_2 : decode cX10_undo 2 = .ok (.putfield 39, 3) := by decide +kernel
theorem dX10_undo_5 : decode cX10_undo 5 = .ok (.aload_n 0, 1) := by decide +kernel
theorem dX10_undo_6 : decode cX10_undo 6 = .ok (.getfield 58, 3) := by decide +kernel
theorem dX10_undo_9 : decode cX10_undo 9 = .ok (.ifCond .ne 9, 3) := by decide +kernel
theorem dX10_undo_12 : decode cX10_undo 12 = .ok (.aload_n 0, 1) := by decide +kernel
theorem dX10_undo_13 : decode cX10_undo 13 = .ok (.iconst 1, 1) := by decide +kernel
theorem dX10_undo_14 : decode cX10_undo 14 = .ok (.invokevirtual 54, 3) := by decide +kernel
theorem dX10_undo_17 : decode cX10_undo 17 = .ok (.ireturn, 1) := by decide +kernel
theorem dX10_undo_18 : decode cX10_undo 18 = .ok (.aload_n 0, 1) := by decide +kernel
theorem dX10_undo_19 : decode cX10_undo 19 = .ok (.dup, 1) := by decide +kernel
theorem dX10_undo_20 : decode cX10_undo 20 = .ok (.getfield 58, 3) := by decide +kernel
theorem dX10_undo_23 : decode cX10_undo 23 = .ok (.iconst 1, 1) := by decide +kernel
theorem dX10_undo_24 : decode cX10_undo 24 = .ok (.isub, 1) := by decide +kernel
theorem dX10_undo_25 : decode cX10_undo 25 = .ok (.putfield 58, 3) := by decide +kernel
theorem dX10_undo_28 : decode cX10_undo 28 = .ok (.iconst 0, 1) := by decide +kernel
theorem dX10_undo_29 : decode cX10_undo 29 = .ok (.istore_n 1, 1) := by decide +kernel
theorem dX10_undo_30 : decode cX10_undo 30 = .ok (.iload_n 1, 1) := by decide +kernel
theorem dX10_undo_31 : decode cX10_undo 31 = .ok (.bipush 116, 2) := by decide +kernel
theorem dX10_undo_33 : decode cX10_undo 33 = .ok (.if_icmp .ge 29, 3) := by decide +kernel
theorem dX10_undo_36 : decode cX10_undo 36 = .ok (.aload_n 0, 1) := by decide +kernel
theorem dX10_undo_37 : decode cX10_undo 37 = .ok (.getfield 9, 3) := by decide +kernel
theorem dX10_undo_40 : decode cX10_undo 40 = .ok (.iload_n 1, 1) := by decide +kernel
theorem dX10_undo_41 : decode cX10_undo 41 = .ok (.aload_n 0, 1) := by decide +kernel
theorem dX10_undo_42 : decode cX10_undo 42 = .ok (.getfield 19, 3) := by decide +kernel
theorem dX10_undo_45 : decode cX10_undo 45 = .ok (.bipush 116, 2) := by decide +kernel
theorem dX10_undo_47 : decode cX10_undo 47 = .ok (.aload_n 0, 1) := by decide +kernel
theorem dX10_undo_48 : decode cX10_undo 48 = .ok (.getfield 58, 3) := by decide +kernel
theorem dX10_undo_51 : decode cX10_undo 51 = .ok (.imul, 1) := by decide +kernel
theorem dX10_undo_52 : decode cX10_undo 52 = .ok (.iload_n 1, 1) := by decide +kernel
theorem dX10_undo_53 : decode cX10_undo 53 = .ok (.iadd, 1) := by decide +kernel
theorem dX10_undo_54 : decode cX10_undo 54 = .ok (.iaload, 1) := by decide +kernel
theorem dX10_undo_55 : decode cX10_undo 55 = .ok (.iastore, 1) := by decide +kernel
theorem dX10_undo_56 : decode cX10_undo 56 = .ok (.iinc 1 1, 3) := by decide +kernel
theorem dX10_undo_59 : decode cX10_undo 59 = .ok (.goto (-29), 3) := by decide +kernel
theorem dX10_undo_62 : decode cX10_undo 62 = .ok (.aload_n 0, 1) := by decide +kernel
theorem dX10_undo_63 : decode cX10_undo 63 = .ok (.getfield 58, 3) := by decide +kernel
theorem dX10_undo_66 : decode cX10_undo 66 = .ok (.ireturn, 1) := by decide +kernel
theorem dX10_saveSnapshot_0 : decode cX10_saveSnapshot 0 = .ok (.aload_n 0, 1) := by decide +kernel
theorem dX10_saveSnapshot_1 : decode cX10_saveSnapshot 1 = .ok (.iconst 0, 1) := by decide +kernel
theorem dX10_saveSnapshot_2 : decode cX10_saveSnapshot 2 = .ok (.putfield 39, 3) := by decide +kernel
theorem dX10_saveSnapshot_5 : decode cX10_saveSnapshot 5 = .ok (.aload_n 0, 1) := by decide +kernel
theorem dX10_saveSnapshot_6 : decode cX10_saveSnapshot 6 = .ok (.iconst 1, 1) := by decide +kernel
theorem dX10_saveSnapshot_7 : decode cX10_saveSnapshot 7 = .ok (.putfield 244, 3) := by decide +kernel
theorem dX10_saveSnapshot_10 : decode cX10_saveSnapshot 10 = .ok (.iconst 0, 1) := by decide +kernel
theorem dX10_saveSnapshot_11 : decode cX10_saveSnapshot 11 = .ok (.istore_n 1, 1) := by decide +kernel
theorem dX10_saveSnapshot_12 : decode cX10_saveSnapshot 12 = .ok (.iload_n 1, 1) := by decide +kernel
theorem dX10_saveSnapshot_13 : decode cX10_saveSnapshot 13 = .ok (.bipush 116, 2) := by decide +kernel
theorem dX10_saveSnapshot_15 : decode cX10_saveSnapshot 15 = .ok (.if_icmp .ge 21, 3) := by decide +kernel
theorem dX10_saveSnapshot_18 : decode cX10_saveSnapshot 18 = .ok (.aload_n 0, 1) := by decide +kernel
theorem dX10_saveSnapshot_19 : decode cX10_saveSnapshot 19 = .ok (.getfield 22, 3) := by decide +kernel
theorem dX10_saveSnapshot_22 : decode cX10_saveSnapshot 22 = .ok (.iload_n 1, 1) := by decide +kernel
theorem dX10_saveSnapshot_23 : decode cX10_saveSnapshot 23 = .ok (.aload_n 0, 1) := by decide +kernel
theorem dX10_saveSnapshot_24 : decode cX10_saveSnapshot 24 = .ok (.getfield 9, 3) := by decide +kernel
theorem dX10_saveSnapshot_27 : decode cX10_saveSnapshot 27 = .ok (.iload_n 1, 1) := by decide +kernel
theorem dX10_saveSnapshot_28 : decode cX10_saveSnapshot 28 = .ok (.iaload, 1) := by decide +kernel
theorem dX10_saveSnapshot_29 : decode cX10_saveSnapshot 29 = .ok (.iastore, 1) := by decide +kernel
theorem dX10_saveSnapshot_30 : decode cX10_saveSnapshot 30 = .ok (.iinc 1 1, 3) := by decide +kernel
theorem dX10_saveSnapshot_33 : decode cX10_saveSnapshot 33 = .ok (.goto (-21), 3) := by decide +kernel
theorem dX10_saveSnapshot_36 : decode cX10_saveSnapshot 36 = .ok (.aload_n 0, 1) := by decide +kernel
theorem dX10_saveSnapshot_37 : decode cX10_saveSnapshot 37 = .ok (.getfield 9, 3) := by decide +kernel
theorem dX10_saveSnapshot_40 : decode cX10_saveSnapshot 40 = .ok (.iconst 0, 1) := by decide +kernel
theorem dX10_saveSnapshot_41 : decode cX10_saveSnapshot 41 = .ok (.iaload, 1) := by decide +kernel
theorem dX10_saveSnapshot_42 : decode cX10_saveSnapshot 42 = .ok (.ireturn, 1) := by decide +kernel
theorem dX10_restoreSnapshot_0 : decode cX10_restoreSnapshot 0 = .ok (.aload_n 0, 1) := by decide +kernel
theorem dX10_restoreSnapshot_1 : decode cX10_restoreSnapshot 1 = .ok (.iconst 0, 1) := by decide +kernel
theorem dX10_restoreSnapshot_2 : decode cX10_restoreSnapshot 2 = .ok (.putfield 39, 3) := by decide +kernel
theorem dX10_restoreSnapshot_5 : decode cX10_restoreSnapshot 5 = .ok (.aload_n 0, 1) := by decide +kernel
theorem dX10_restoreSnapshot_6 : decode cX10_restoreSnapshot 6 = .ok (.getfield 244, 3) := by decide +kernel
theorem dX10_restoreSnapshot_9 : decode cX10_restoreSnapshot 9 = .ok (.ifCond .ne 9, 3) := by decide +kernel
theorem dX10_restoreSnapshot_12 : decode cX10_restoreSnapshot 12 = .ok (.aload_n 0, 1) := by decide +kernel
theorem dX10_restoreSnapshot_13 : decode cX10_restoreSnapshot 13 = .ok (.iconst 1, 1) := by decide +kernel
theorem dX10_restoreSnapshot_14 : decode cX10_restoreSnapshot 14 = .ok (.invokevirtual 54, 3) := by decide +kernel
theorem dX10_restoreSnapshot_17 : decode cX10_restoreSnapshot 17 = .ok (.ireturn, 1) := by decide +kernel
theorem dX10_restoreSnapshot_18 : decode cX10_restoreSnapshot 18 = .ok (.iconst 0, 1) := by decide +kernel
theorem dX10_restoreSnapshot_19 : decode cX10_restoreSnapshot 19 = .ok (.istore_n 1, 1) := by decide +kernel
theorem dX10_restoreSnapshot_20 : decode cX10_restoreSnapshot 20 = .ok (.iload_n 1, 1) := by decide +kernel
theorem dX10_restoreSnapshot_21 : decode cX10_restoreSnapshot 21 = .ok (.bipush 116, 2) := by decide +kernel
theorem dX10_restoreSnapshot_23 : decode cX10_restoreSnapshot 23 = .ok (.if_icmp .ge 21, 3) := by decide +kernel
theorem dX10_restoreSnapshot_26 : decode cX10_restoreSnapshot 26 = .ok (.aload_n 0, 1) := by decide +kernel
theorem dX10_restoreSnapshot_27 : decode cX10_restoreSnapshot 27 = .ok (.getfield 9, 3) := by decide +kernel
theorem dX10_restoreSnapshot_30 : decode cX10_restoreSnapshot 30 = .ok (.iload_n 1, 1) := by decide +kernel
theorem dX10_restoreSnapshot_31 : decode cX10_restoreSnapshot 31 = .ok (.aload_n 0, 1) := by decide +kernel
theorem dX10_restoreSnapshot_32 : decode cX10_restoreSnapshot 32 = .ok (.getfield 22, 3) := by decide +kernel
theorem dX10_restoreSnapshot_35 : decode cX10_restoreSnapshot 35 = .ok (.iload_n 1, 1) := by decide +kernel
theorem dX10_restoreSnapshot_36 : decode cX10_restoreSnapshot 36 = .ok (.iaload, 1) := by decide +kernel
theorem dX10_restoreSnapshot_37 : decode cX10_restoreSnapshot 37 = .ok (.iastore, 1) := by decide +kernel
theorem dX10_restoreSnapshot_38 : decode cX10_restoreSnapshot 38 = .ok (.iinc 1 1, 3) := by decide +kernel
theorem dX10_restoreSnapshot_41 : decode cX10_restoreSnapshot 41 = .ok (.goto (-21), 3) := by decide +kernel
theorem dX10_restoreSnapshot_44 : decode cX10_restoreSnapshot 44 = .ok (.aload_n 0, 1) := by decide +kernel
theorem dX10_restoreSnapshot_45 : decode cX10_restoreSnapshot 45 = .ok (.iconst 0, 1) := by decide +kernel
theorem dX10_restoreSnapshot_46 : decode cX10_restoreSnapshot 46 = .ok (.putfield 58, 3) := by decide +kernel
theorem dX10_restoreSnapshot_49 : decode cX10_restoreSnapshot 49 = .ok (.aload_n 0, 1) := by decide +kernel
theorem dX10_restoreSnapshot_50 : decode cX10_restoreSnapshot 50 = .ok (.getfield 9, 3) := by decide +kernel
theorem dX10_restoreSnapshot_53 : decode cX10_restoreSnapshot 53 = .ok (.iconst 0, 1) := by decide +kernel
theorem dX10_restoreSnapshot_54 : decode cX10_restoreSnapshot 54 = .ok (.iaload, 1) := by decide +kernel
theorem dX10_restoreSnapshot_55 : decode cX10_restoreSnapshot 55 = .ok (.ireturn, 1) := by decide +kernel
