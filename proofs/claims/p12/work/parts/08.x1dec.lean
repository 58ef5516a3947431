theorem dX1_init_0 : decode cX1_init 0 = .ok (.aload_n 0, 1) := by decide +kernel
theorem dX1_init_1 : decode cX1_init 1 = .ok (.invokespecial 1, 3) := by decide +kernel
theorem dX1_init_4 : decode cX1_init 4 = .ok (.aload_n 0, 1) := by decide +kernel
theorem dX1_init_5 : decode cX1_init 5 = .ok (.bipush 9, 2) := by decide +kernel
theorem dX1_init_7 : decode cX1_init 7 = .ok (.putfield 7, 3) := by decide +kernel
theorem dX1_init_10 : decode cX1_init 10 = .ok (.aload_n 0, 1) := by decide +kernel
theorem dX1_init_11 : decode cX1_init 11 = .ok (.bipush 7, 2) := by decide +kernel
theorem dX1_init_13 : decode cX1_init 13 = .ok (.newarray .boolean, 2) := by decide +kernel
theorem dX1_init_15 : decode cX1_init 15 = .ok (.putfield 13, 3) := by decide +kernel
theorem dX1_init_18 : decode cX1_init 18 = .ok (.aload_n 0, 1) := by decide +kernel
theorem dX1_init_19 : decode cX1_init 19 = .ok (.iload_n 1, 1) := by decide +kernel
theorem dX1_init_20 : decode cX1_init 20 = .ok (.ifCond .ge 7, 3) := by decide +kernel
theorem dX1_init_23 : decode cX1_init 23 = .ok (.iconst 0, 1) := by decide +kernel
theorem dX1_init_24 : decode cX1_init 24 = .ok (.goto 13, 3) := by decide +kernel
theorem dX1_init_27 : decode cX1_init 27 = .ok (.iload_n 1, 1) := by decide +kernel
theorem dX1_init_28 : decode cX1_init 28 = .ok (.iconst 2, 1) := by decide +kernel
theorem dX1_init_29 : decode cX1_init 29 = .ok (.if_icmp .le 7, 3) := by decide +kernel
theorem dX1_init_32 : decode cX1_init 32 = .ok (.iconst 2, 1) := by decide +kernel
theorem dX1_init_33 : decode cX1_init 33 = .ok (.goto 4, 3) := by decide +kernel
theorem dX1_init_36 : decode cX1_init 36 = .ok (.iload_n 1, 1) := by decide +kernel
theorem dX1_init_37 : decode cX1_init 37 = .ok (.putfield 17, 3) := by decide +kernel
theorem dX1_init_40 : decode cX1_init 40 = .ok (.return_, 1) := by decide +kernel
theorem dX1_mode_0 : decode cX1_mode 0 = .ok (.aload_n 0, 1) := by decide +kernel
theorem dX1_mode_1 : decode cX1_mode 1 = .ok (.iconst 0, 1) := by decide +kernel
theorem dX1_mode_2 : decode cX1_mode 2 = .ok (.putfield 20, 3) := by decide +kernel
theorem dX1_mode_5 : decode cX1_mode 5 = .ok (.aload_n 0, 1) := by decide +kernel
theorem dX1_mode_6 : decode cX1_mode 6 = .ok (.getfield 23, 3) := by decide +kernel
theorem dX1_mode_9 : decode cX1_mode 9 = .ok (.ifCond .eq 6, 3) := by decide +kernel
theorem dX1_mode_12 : decode cX1_mode 12 = .ok (.bipush (-5), 2) := by decide +kernel
theorem dX1_mode_14 : decode cX1_mode 14 = .ok (.ireturn, 1) := by decide +kernel
theorem dX1_mode_15 : decode cX1_mode 15 = .ok (.iload_n 1, 1) := by decide +kernel
theorem dX1_mode_16 : decode cX1_mode 16 = .ok (.ifCond .lt 8, 3) := by decide +kernel
theorem dX1_mode_19 : decode cX1_mode 19 = .ok (.iload_n 1, 1) := by decide +kernel
theorem dX1_mode_20 : decode cX1_mode 20 = .ok (.iconst 3, 1) := by decide +kernel
theorem dX1_mode_21 : decode cX1_mode 21 = .ok (.if_icmp .le 6, 3) := by decide +kernel
theorem dX1_mode_24 : decode cX1_mode 24 = .ok (.bipush (-4), 2) := by decide +kernel
theorem dX1_mode_26 : decode cX1_mode 26 = .ok (.ireturn, 1) := by decide +kernel
theorem dX1_mode_27 : decode cX1_mode 27 = .ok (.aload_n 0, 1) := by decide +kernel
theorem dX1_mode_28 : decode cX1_mode 28 = .ok (.getfield 27, 3) := by decide +kernel
theorem dX1_mode_31 : decode cX1_mode 31 = .ok (.istore_n 2, 1) := by decide +kernel
theorem dX1_mode_32 : decode cX1_mode 32 = .ok (.aload_n 0, 1) := by decide +kernel
theorem dX1_mode_33 : decode cX1_mode 33 = .ok (.iload_n 1, 1) := by decide +kernel
theorem dX1_mode_34 : decode cX1_mode 34 = .ok (.putfield 27, 3) := by decide +kernel
theorem dX1_mode_37 : decode cX1_mode 37 = .ok (.iload_n 2, 1) := by decide +kernel
theorem dX1_mode_38 : decode cX1_mode 38 = .ok (.ireturn, 1) := by decide +kernel
theorem dX1_told_0 : decode cX1_told 0 = .ok (.aload_n 0, 1) := by decide +kernel
theorem dX1_told_1 : decode cX1_told 1 = .ok (.iload_n 1, 1) := by decide +kernel
theorem dX1_told_2 : decode cX1_told 2 = .ok (.putfield 30, 3) := by decide +kernel
theorem dX1_told_5 : decode cX1_told 5 = .ok (.aload_n 0, 1) := by decide +kernel
theorem dX1_told_6 : decode cX1_told 6 = .ok (.iload_n 2, 1) := by decide +kernel
theorem dX1_told_7 : decode cX1_told 7 = .ok (.putfield 7, 3) := by decide +kernel
theorem dX1_told_10 : decode cX1_told 10 = .ok (.aload_n 0, 1) := by decide +kernel
theorem dX1_told_11 : decode cX1_told 11 = .ok (.dup, 1) := by decide +kernel
theorem dX1_told_12 : decode cX1_told 12 = .ok (.getfield 33, 3) := by decide +kernel
theorem dX1_told_15 : decode cX1_told 15 = .ok (.iload_n 1, 1) := by decide +kernel
theorem dX1_told_16 : decode cX1_told 16 = .ok (.bipush 10, 2) := by decide +kernel
theorem dX1_told_18 : decode cX1_told 18 = .ok (.if_icmp .ge 7, 3) := by decide +kernel
theorem dX1_told_21 : decode cX1_told 21 = .ok (.iconst 1, 1) := by decide +kernel
theorem dX1_told_22 : decode cX1_told 22 = .ok (.goto 4, 3) := by decide +kernel
theorem dX1_told_25 : decode cX1_told 25 = .ok (.iconst 0, 1) := by decide +kernel
theorem dX1_told_26 : decode cX1_told 26 = .ok (.iadd, 1) := by decide +kernel
theorem dX1_told_27 : decode cX1_told 27 = .ok (.putfield 33, 3) := by decide +kernel
theorem dX1_told_30 : decode cX1_told 30 = .ok (.aload_n 0, 1) := by decide +kernel
theorem dX1_told_31 : decode cX1_told 31 = .ok (.dup, 1) := by decide +kernel
theorem dX1_told_32 : decode cX1_told 32 = .ok (.getfield 36, 3) := by decide +kernel
theorem dX1_told_35 : decode cX1_told 35 = .ok (.iload_n 1, 1) := by decide +kernel
theorem dX1_told_36 : decode cX1_told 36 = .ok (.bipush 10, 2) := by decide +kernel
theorem dX1_told_38 : decode cX1_told 38 = .ok (.if_icmp .ge 7, 3) := by decide +kernel
theorem dX1_told_41 : decode cX1_told 41 = .ok (.iconst 0, 1) := by decide +kernel
theorem dX1_told_42 : decode cX1_told 42 = .ok (.goto 4, 3) := by decide +kernel
theorem dX1_told_45 : decode cX1_told 45 = .ok (.iconst 1, 1) := by decide +kernel
theorem dX1_told_46 : decode cX1_told 46 = .ok (.iadd, 1) := by decide +kernel
theorem dX1_told_47 : decode cX1_told 47 = .ok (.putfield 36, 3) := by decide +kernel
theorem dX1_told_50 : decode cX1_told 50 = .ok (.iload_n 1, 1) := by decide +kernel
theorem dX1_told_51 : decode cX1_told 51 = .ok (.ireturn, 1) := by decide +kernel
theorem dX1_opened_0 : decode cX1_opened 0 = .ok (.aload_n 0, 1) := by decide +kernel
theorem dX1_opened_1 : decode cX1_opened 1 = .ok (.getfield 23, 3) := by decide +kernel
theorem dX1_opened_4 : decode cX1_opened 4 = .ok (.ifCond .eq 6, 3) := by decide +kernel
theorem dX1_opened_7 : decode cX1_opened 7 = .ok (.bipush 41, 2) := by decide +kernel
theorem dX1_opened_9 : decode cX1_opened 9 = .ok (.ireturn, 1) := by decide +kernel
theorem dX1_opened_10 : decode cX1_opened 10 = .ok (.iload_n 1, 1) := by decide +kernel
theorem dX1_opened_11 : decode cX1_opened 11 = .ok (.tableswitch 84 0 6 #[41, 43, 69, 72, 75, 78, 81], 41) := by decide +kernel
theorem dX1_opened_52 : decode cX1_opened 52 = .ok (.iconst 0, 1) := by decide +kernel
theorem dX1_opened_53 : decode cX1_opened 53 = .ok (.ireturn, 1) := by decide +kernel
theorem dX1_opened_54 : decode cX1_opened 54 = .ok (.aload_n 0, 1) := by decide +kernel
theorem dX1_opened_55 : decode cX1_opened 55 = .ok (.getfield 27, 3) := by decide +kernel
theorem dX1_opened_58 : decode cX1_opened 58 = .ok (.iconst 1, 1) := by decide +kernel
theorem dX1_opened_59 : decode cX1_opened 59 = .ok (.if_icmp .ne 7, 3) := by decide +kernel
theorem dX1_opened_62 : decode cX1_opened 62 = .ok (.iconst 0, 1) := by decide +kernel
theorem dX1_opened_63 : decode cX1_opened 63 = .ok (.goto 16, 3) := by decide +kernel
theorem dX1_opened_66 : decode cX1_opened 66 = .ok (.aload_n 0, 1) := by decide +kernel
theorem dX1_opened_67 : decode cX1_opened 67 = .ok (.getfield 56, 3) := by decide +kernel
theorem dX1_opened_70 : decode cX1_opened 70 = .ok (.ifCond .eq 7, 3) := by decide +kernel
theorem dX1_opened_73 : decode cX1_opened 73 = .ok (.iconst 5, 1) := by decide +kernel
theorem dX1_opened_74 : decode cX1_opened 74 = .ok (.goto 5, 3) := by decide +kernel
theorem dX1_opened_77 : decode cX1_opened 77 = .ok (.bipush 35, 2) := by decide +kernel
theorem dX1_opened_79 : decode cX1_opened 79 = .ok (.ireturn, 1) := by decide +kernel
theorem dX1_opened_80 : decode cX1_opened 80 = .ok (.bipush 37, 2) := by decide +kernel
theorem dX1_opened_82 : decode cX1_opened 82 = .ok (.ireturn, 1) := by decide +kernel
theorem dX1_opened_83 : decode cX1_opened 83 = .ok (.bipush 39, 2) := by decide +kernel
theorem dX1_opened_85 : decode cX1_opened 85 = .ok (.ireturn, 1) := by decide +kernel
theorem dX1_opened_86 : decode cX1_opened 86 = .ok (.bipush 38, 2) := by decide +kernel
theorem dX1_opened_88 : decode cX1_opened 88 = .ok (.ireturn, 1) := by decide +kernel
theorem dX1_opened_89 : decode cX1_opened 89 = .ok (.bipush 30, 2) := by decide +kernel
theorem dX1_opened_91 : decode cX1_opened 91 = .ok (.ireturn, 1) := by decide +kernel
theorem dX1_opened_92 : decode cX1_opened 92 = .ok (.bipush 61, 2) := by decide +kernel
theorem dX1_opened_94 : decode cX1_opened 94 = .ok (.ireturn, 1) := by decide +kernel
theorem dX1_opened_95 : decode cX1_opened 95 = .ok (.bipush 90, 2) := by decide +kernel
theorem dX1_opened_97 : decode cX1_opened 97 = .ok (.ireturn, 1) := by decide +kernel
theorem dX1_reads_0 : decode cX1_reads 0 = .ok (.aload_n 0, 1) := by decide +kernel
theorem dX1_reads_1 : decode cX1_reads 1 = .ok (.getfield 27, 3) := by decide +kernel
theorem dX1_reads_4 : decode cX1_reads 4 = .ok (.ifCond .eq 11, 3) := by decide +kernel
theorem dX1_reads_7 : decode cX1_reads 7 = .ok (.aload_n 0, 1) := by decide +kernel
theorem dX1_reads_8 : decode cX1_reads 8 = .ok (.getfield 27, 3) := by decide +kernel
theorem dX1_reads_11 : decode cX1_reads 11 = .ok (.iconst 2, 1) := by decide +kernel
theorem dX1_reads_12 : decode cX1_reads 12 = .ok (.if_icmp .ne 7, 3) := by decide +kernel
theorem dX1_reads_15 : decode cX1_reads 15 = .ok (.iconst 1, 1) := by decide +kernel
theorem dX1_reads_16 : decode cX1_reads 16 = .ok (.goto 4, 3) := by decide +kernel
theorem dX1_reads_19 : decode cX1_reads 19 = .ok (.iconst 0, 1) := by decide +kernel
theorem dX1_reads_20 : decode cX1_reads 20 = .ok (.ireturn, 1) := by decide +kernel
theorem dX1_ahead_0 : decode cX1_ahead 0 = .ok (.aload_n 0, 1) := by decide +kernel
theorem dX1_ahead_1 : decode cX1_ahead 1 = .ok (.getfield 23, 3) := by decide +kernel
theorem dX1_ahead_4 : decode cX1_ahead 4 = .ok (.ifCond .ne 6, 3) := by decide +kernel
theorem dX1_ahead_7 : decode cX1_ahead 7 = .ok (.bipush 42, 2) := by decide +kernel
theorem dX1_ahead_9 : decode cX1_ahead 9 = .ok (.ireturn, 1) := by decide +kernel
theorem dX1_ahead_10 : decode cX1_ahead 10 = .ok (.aload_n 0, 1) := by decide +kernel
theorem dX1_ahead_11 : decode cX1_ahead 11 = .ok (.getfield 17, 3) := by decide +kernel
theorem dX1_ahead_14 : decode cX1_ahead 14 = .ok (.ifCond .ne 21, 3) := by decide +kernel
theorem dX1_ahead_17 : decode cX1_ahead 17 = .ok (.iload_n 1, 1) := by decide +kernel
theorem dX1_ahead_18 : decode cX1_ahead 18 = .ok (.iconst 1, 1) := by decide +kernel
theorem dX1_ahead_19 : decode cX1_ahead 19 = .ok (.if_icmp .eq 13, 3) := by decide +kernel
theorem dX1_ahead_22 : decode cX1_ahead 22 = .ok (.iload_n 1, 1) := by decide +kernel
theorem dX1_ahead_23 : decode cX1_ahead 23 = .ok (.iconst 4, 1) := by decide +kernel
theorem dX1_ahead_24 : decode cX1_ahead 24 = .ok (.if_icmp .eq 8, 3) := by decide +kernel
theorem dX1_ahead_27 : decode cX1_ahead 27 = .ok (.iload_n 1, 1) := by decide +kernel
theorem dX1_ahead_28 : decode cX1_ahead 28 = .ok (.iconst 5, 1) := by decide +kernel
theorem dX1_ahead_29 : decode cX1_ahead 29 = .ok (.if_icmp .ne 6, 3) := by decide +kernel
theorem dX1_ahead_32 : decode cX1_ahead 32 = .ok (.bipush 90, 2) := by decide +kernel
theorem dX1_ahead_34 : decode cX1_ahead 34 = .ok (.ireturn, 1) := by decide +kernel
theorem dX1_ahead_35 : decode cX1_ahead 35 = .ok (.iload_n 1, 1) := by decide +kernel
theorem dX1_ahead_36 : decode cX1_ahead 36 = .ok (.ifCond .eq 13, 3) := by decide +kernel
theorem dX1_ahead_39 : decode cX1_ahead 39 = .ok (.iload_n 1, 1) := by decide +kernel
theorem dX1_ahead_40 : decode cX1_ahead 40 = .ok (.iconst 1, 1) := by decide +kernel
theorem dX1_ahead_41 : decode cX1_ahead 41 = .ok (.if_icmp .eq 8, 3) := by decide +kernel
theorem dX1_ahead_44 : decode cX1_ahead 44 = .ok (.iload_n 1, 1) := by decide +kernel
theorem dX1_ahead_45 : decode cX1_ahead 45 = .ok (.iconst 5, 1) := by decide +kernel
theorem dX1_ahead_46 : decode cX1_ahead 46 = .ok (.if_icmp .ne 13, 3) := by decide +kernel
theorem dX1_ahead_49 : decode cX1_ahead 49 = .ok (.aload_n 0, 1) := by decide +kernel
theorem dX1_ahead_50 : decode cX1_ahead 50 = .ok (.invokevirtual 59, 3) := by decide +kernel
theorem dX1_ahead_53 : decode cX1_ahead 53 = .ok (.ifCond .ne 6, 3) := by decide +kernel
theorem dX1_ahead_56 : decode cX1_ahead 56 = .ok (.bipush 47, 2) := by decide +kernel
theorem dX1_ahead_58 : decode cX1_ahead 58 = .ok (.ireturn, 1) := by decide +kernel
theorem dX1_ahead_59 : decode cX1_ahead 59 = .ok (.iload_n 1, 1) := by decide +kernel
theorem dX1_ahead_60 : decode cX1_ahead 60 = .ok (.iconst 2, 1) := by decide +kernel
theorem dX1_ahead_61 : decode cX1_ahead 61 = .ok (.if_icmp .ne 28, 3) := by decide +kernel
theorem dX1_ahead_64 : decode cX1_ahead 64 = .ok (.aload_n 0, 1) := by decide +kernel
theorem dX1_ahead_65 : decode cX1_ahead 65 = .ok (.getfield 27, 3) := by decide +kernel
theorem dX1_ahead_68 : decode cX1_ahead 68 = .ok (.ifCond .eq 18, 3) := by decide +kernel
theorem dX1_ahead_71 : decode cX1_ahead 71 = .ok (.aload_n 0, 1) := by decide +kernel
theorem dX1_ahead_72 : decode cX1_ahead 72 = .ok (.getfield 27, 3) := by decide +kernel
theorem dX1_ahead_75 : decode cX1_ahead 75 = .ok (.iconst 2, 1) := by decide +kernel
theorem dX1_ahead_76 : decode cX1_ahead 76 = .ok (.if_icmp .ne 13, 3) := by decide +kernel
theorem dX1_ahead_79 : decode cX1_ahead 79 = .ok (.aload_n 0, 1) := by decide +kernel
theorem dX1_ahead_80 : decode cX1_ahead 80 = .ok (.getfield 17, 3) := by decide +kernel
theorem dX1_ahead_83 : decode cX1_ahead 83 = .ok (.ifCond .ne 6, 3) := by decide +kernel
theorem dX1_ahead_86 : decode cX1_ahead 86 = .ok (.bipush 48, 2) := by decide +kernel
theorem dX1_ahead_88 : decode cX1_ahead 88 = .ok (.ireturn, 1) := by decide +kernel
theorem dX1_ahead_89 : decode cX1_ahead 89 = .ok (.iload_n 1, 1) := by decide +kernel
theorem dX1_ahead_90 : decode cX1_ahead 90 = .ok (.iconst 3, 1) := by decide +kernel
theorem dX1_ahead_91 : decode cX1_ahead 91 = .ok (.if_icmp .eq 8, 3) := by decide +kernel
theorem dX1_ahead_94 : decode cX1_ahead 94 = .ok (.iload_n 1, 1) := by decide +kernel
theorem dX1_ahead_95 : decode cX1_ahead 95 = .ok (.iconst 4, 1) := by decide +kernel
theorem dX1_ahead_96 : decode cX1_ahead 96 = .ok (.if_icmp .ne 14, 3) := by decide +kernel
theorem dX1_ahead_99 : decode cX1_ahead 99 = .ok (.aload_n 0, 1) := by decide +kernel
theorem dX1_ahead_100 : decode cX1_ahead 100 = .ok (.getfield 27, 3) := by decide +kernel
theorem dX1_ahead_103 : decode cX1_ahead 103 = .ok (.iconst 2, 1) := by decide +kernel
theorem dX1_ahead_104 : decode cX1_ahead 104 = .ok (.if_icmp .eq 6, 3) := by decide +kernel
theorem dX1_ahead_107 : decode cX1_ahead 107 = .ok (.bipush 49, 2) := by decide +kernel
theorem dX1_ahead_109 : decode cX1_ahead 109 = .ok (.ireturn, 1) := by decide +kernel
theorem dX1_ahead_110 : decode cX1_ahead 110 = .ok (.iload_n 1, 1) := by decide +kernel
theorem dX1_ahead_111 : decode cX1_ahead 111 = .ok (.iconst 3, 1) := by decide +kernel
theorem dX1_ahead_112 : decode cX1_ahead 112 = .ok (.if_icmp .ne 20, 3) := by decide +kernel
theorem dX1_ahead_115 : decode cX1_ahead 115 = .ok (.aload_n 0, 1) := by decide +kernel
theorem dX1_ahead_116 : decode cX1_ahead 116 = .ok (.getfield 17, 3) := by decide +kernel
theorem dX1_ahead_119 : decode cX1_ahead 119 = .ok (.ifCond .ne 13, 3) := by decide +kernel
theorem dX1_ahead_122 : decode cX1_ahead 122 = .ok (.aload_n 0, 1) := by decide +kernel
theorem dX1_ahead_123 : decode cX1_ahead 123 = .ok (.getfield 47, 3) := by decide +kernel
theorem dX1_ahead_126 : decode cX1_ahead 126 = .ok (.ifCond .ne 6, 3) := by decide +kernel
theorem dX1_ahead_129 : decode cX1_ahead 129 = .ok (.bipush 43, 2) := by decide +kernel
theorem dX1_ahead_131 : decode cX1_ahead 131 = .ok (.ireturn, 1) := by decide +kernel
theorem dX1_ahead_132 : decode cX1_ahead 132 = .ok (.iload_n 1, 1) := by decide +kernel
theorem dX1_ahead_133 : decode cX1_ahead 133 = .ok (.ifCond .ne 22, 3) := by decide +kernel
theorem dX1_ahead_136 : decode cX1_ahead 136 = .ok (.aload_n 0, 1) := by decide +kernel
theorem dX1_ahead_137 : decode cX1_ahead 137 = .ok (.getfield 50, 3) := by decide +kernel
theorem dX1_ahead_140 : decode cX1_ahead 140 = .ok (.iconst 2, 1) := by decide +kernel
theorem dX1_ahead_141 : decode cX1_ahead 141 = .ok (.if_icmp .eq 11, 3) := by decide +kernel
theorem dX1_ahead_144 : decode cX1_ahead 144 = .ok (.aload_n 0, 1) := by decide +kernel
theorem dX1_ahead_145 : decode cX1_ahead 145 = .ok (.getfield 50, 3) := by decide +kernel
theorem dX1_ahead_148 : decode cX1_ahead 148 = .ok (.iconst 3, 1) := by decide +kernel
theorem dX1_ahead_149 : decode cX1_ahead 149 = .ok (.if_icmp .ne 6, 3) := by decide +kernel
theorem dX1_ahead_152 : decode cX1_ahead 152 = .ok (.bipush 46, 2) := by decide +kernel
theorem dX1_ahead_154 : decode cX1_ahead 154 = .ok (.ireturn, 1) := by decide +kernel
theorem dX1_ahead_155 : decode cX1_ahead 155 = .ok (.iconst 0, 1) := by decide +kernel
theorem dX1_ahead_156 : decode cX1_ahead 156 = .ok (.ireturn, 1) := by decide +kernel
theorem dX1_byOutcome_0 : decode cX1_byOutcome 0 = .ok (.aload_n 0, 1) := by decide +kernel
theorem dX1_byOutcome_1 : decode cX1_byOutcome 1 = .ok (.getfield 17, 3) := by decide +kernel
theorem dX1_byOutcome_4 : decode cX1_byOutcome 4 = .ok (.ifCond .le 7, 3) := by decide +kernel
theorem dX1_byOutcome_7 : decode cX1_byOutcome 7 = .ok (.iconst 1, 1) := by decide +kernel
theorem dX1_byOutcome_8 : decode cX1_byOutcome 8 = .ok (.goto 4, 3) := by decide +kernel
theorem dX1_byOutcome_11 : decode cX1_byOutcome 11 = .ok (.iconst 0, 1) := by decide +kernel
theorem dX1_byOutcome_12 : decode cX1_byOutcome 12 = .ok (.istore_n 3, 1) := by decide +kernel
theorem dX1_byOutcome_13 : decode cX1_byOutcome 13 = .ok (.aload_n 0, 1) := by decide +kernel
theorem dX1_byOutcome_14 : decode cX1_byOutcome 14 = .ok (.getfield 17, 3) := by decide +kernel
theorem dX1_byOutcome_17 : decode cX1_byOutcome 17 = .ok (.iconst 2, 1) := by decide +kernel
theorem dX1_byOutcome_18 : decode cX1_byOutcome 18 = .ok (.if_icmp .ne 7, 3) := by decide +kernel
theorem dX1_byOutcome_21 : decode cX1_byOutcome 21 = .ok (.iconst 1, 1) := by decide +kernel
theorem dX1_byOutcome_22 : decode cX1_byOutcome 22 = .ok (.goto 4, 3) := by decide +kernel
theorem dX1_byOutcome_25 : decode cX1_byOutcome 25 = .ok (.iconst 0, 1) := by decide +kernel
theorem dX1_byOutcome_26 : decode cX1_byOutcome 26 = .ok (.istore 4, 2) := by decide +kernel
theorem dX1_byOutcome_28 : decode cX1_byOutcome 28 = .ok (.iload_n 2, 1) := by decide +kernel
theorem dX1_byOutcome_29 : decode cX1_byOutcome 29 = .ok (.tableswitch 235 0 8 #[51, 53, 92, 109, 136, 173, 176, 190, 212], 51) := by decide +kernel
theorem dX1_byOutcome_80 : decode cX1_byOutcome 80 = .ok (.iconst 0, 1) := by decide +kernel
theorem dX1_byOutcome_81 : decode cX1_byOutcome 81 = .ok (.ireturn, 1) := by decide +kernel
theorem dX1_byOutcome_82 : decode cX1_byOutcome 82 = .ok (.iload_n 1, 1) := by decide +kernel
theorem dX1_byOutcome_83 : decode cX1_byOutcome 83 = .ok (.ifCond .ne 6, 3) := by decide +kernel
theorem dX1_byOutcome_86 : decode cX1_byOutcome 86 = .ok (.bipush 10, 2) := by decide +kernel
theorem dX1_byOutcome_88 : decode cX1_byOutcome 88 = .ok (.ireturn, 1) := by decide +kernel
theorem dX1_byOutcome_89 : decode cX1_byOutcome 89 = .ok (.iload_n 1, 1) := by decide +kernel
theorem dX1_byOutcome_90 : decode cX1_byOutcome 90 = .ok (.iconst 1, 1) := by decide +kernel
theorem dX1_byOutcome_91 : decode cX1_byOutcome 91 = .ok (.if_icmp .eq 22, 3) := by decide +kernel
theorem dX1_byOutcome_94 : decode cX1_byOutcome 94 = .ok (.iload_n 1, 1) := by decide +kernel
theorem dX1_byOutcome_95 : decode cX1_byOutcome 95 = .ok (.iconst 4, 1) := by decide +kernel
theorem dX1_byOutcome_96 : decode cX1_byOutcome 96 = .ok (.if_icmp .eq 17, 3) := by decide +kernel
theorem dX1_byOutcome_99 : decode cX1_byOutcome 99 = .ok (.iload_n 1, 1) := by decide +kernel
theorem dX1_byOutcome_100 : decode cX1_byOutcome 100 = .ok (.iconst 5, 1) := by decide +kernel
theorem dX1_byOutcome_101 : decode cX1_byOutcome 101 = .ok (.if_icmp .eq 12, 3) := by decide +kernel
theorem dX1_byOutcome_104 : decode cX1_byOutcome 104 = .ok (.iload_n 1, 1) := by decide +kernel
theorem dX1_byOutcome_105 : decode cX1_byOutcome 105 = .ok (.iconst 3, 1) := by decide +kernel
theorem dX1_byOutcome_106 : decode cX1_byOutcome 106 = .ok (.if_icmp .ne 12, 3) := by decide +kernel
theorem dX1_byOutcome_109 : decode cX1_byOutcome 109 = .ok (.iload_n 3, 1) := by decide +kernel
theorem dX1_byOutcome_110 : decode cX1_byOutcome 110 = .ok (.ifCond .eq 8, 3) := by decide +kernel
theorem dX1_byOutcome_113 : decode cX1_byOutcome 113 = .ok (.bipush 23, 2) := by decide +kernel
theorem dX1_byOutcome_115 : decode cX1_byOutcome 115 = .ok (.goto 5, 3) := by decide +kernel
theorem dX1_byOutcome_118 : decode cX1_byOutcome 118 = .ok (.bipush 90, 2) := by decide +kernel
theorem dX1_byOutcome_120 : decode cX1_byOutcome 120 = .ok (.ireturn, 1) := by decide +kernel
theorem dX1_byOutcome_121 : decode cX1_byOutcome 121 = .ok (.iload 4, 2) := by decide +kernel
theorem dX1_byOutcome_123 : decode cX1_byOutcome 123 = .ok (.ifCond .eq 12, 3) := by decide +kernel
theorem dX1_byOutcome_126 : decode cX1_byOutcome 126 = .ok (.iload_n 1, 1) := by decide +kernel
theorem dX1_byOutcome_127 : decode cX1_byOutcome 127 = .ok (.iconst 4, 1) := by decide +kernel
theorem dX1_byOutcome_128 : decode cX1_byOutcome 128 = .ok (.if_icmp .ge 7, 3) := by decide +kernel
theorem dX1_byOutcome_131 : decode cX1_byOutcome 131 = .ok (.iconst 2, 1) := by decide +kernel
theorem dX1_byOutcome_132 : decode cX1_byOutcome 132 = .ok (.goto 5, 3) := by decide +kernel
theorem dX1_byOutcome_135 : decode cX1_byOutcome 135 = .ok (.bipush 90, 2) := by decide +kernel
theorem dX1_byOutcome_137 : decode cX1_byOutcome 137 = .ok (.ireturn, 1) := by decide +kernel
theorem dX1_byOutcome_138 : decode cX1_byOutcome 138 = .ok (.iload_n 1, 1) := by decide +kernel
theorem dX1_byOutcome_139 : decode cX1_byOutcome 139 = .ok (.iconst 2, 1) := by decide +kernel
theorem dX1_byOutcome_140 : decode cX1_byOutcome 140 = .ok (.if_icmp .ne 7, 3) := by decide +kernel
theorem dX1_byOutcome_143 : decode cX1_byOutcome 143 = .ok (.iload_n 3, 1) := by decide +kernel
theorem dX1_byOutcome_144 : decode cX1_byOutcome 144 = .ok (.ifCond .ne 13, 3) := by decide +kernel
theorem dX1_byOutcome_147 : decode cX1_byOutcome 147 = .ok (.iload_n 1, 1) := by decide +kernel
theorem dX1_byOutcome_148 : decode cX1_byOutcome 148 = .ok (.iconst 3, 1) := by decide +kernel
theorem dX1_byOutcome_149 : decode cX1_byOutcome 149 = .ok (.if_icmp .ne 13, 3) := by decide +kernel
theorem dX1_byOutcome_152 : decode cX1_byOutcome 152 = .ok (.iload 4, 2) := by decide +kernel
theorem dX1_byOutcome_154 : decode cX1_byOutcome 154 = .ok (.ifCond .eq 8, 3) := by decide +kernel
theorem dX1_byOutcome_157 : decode cX1_byOutcome 157 = .ok (.bipush 22, 2) := by decide +kernel
theorem dX1_byOutcome_159 : decode cX1_byOutcome 159 = .ok (.goto 5, 3) := by decide +kernel
theorem dX1_byOutcome_162 : decode cX1_byOutcome 162 = .ok (.bipush 90, 2) := by decide +kernel
theorem dX1_byOutcome_164 : decode cX1_byOutcome 164 = .ok (.ireturn, 1) := by decide +kernel
theorem dX1_byOutcome_165 : decode cX1_byOutcome 165 = .ok (.iload_n 1, 1) := by decide +kernel
theorem dX1_byOutcome_166 : decode cX1_byOutcome 166 = .ok (.iconst 2, 1) := by decide +kernel
theorem dX1_byOutcome_167 : decode cX1_byOutcome 167 = .ok (.if_icmp .ne 15, 3) := by decide +kernel
theorem dX1_byOutcome_170 : decode cX1_byOutcome 170 = .ok (.iload_n 3, 1) := by decide +kernel
theorem dX1_byOutcome_171 : decode cX1_byOutcome 171 = .ok (.ifCond .eq 8, 3) := by decide +kernel
theorem dX1_byOutcome_174 : decode cX1_byOutcome 174 = .ok (.bipush 24, 2) := by decide +kernel
theorem dX1_byOutcome_176 : decode cX1_byOutcome 176 = .ok (.goto 5, 3) := by decide +kernel
theorem dX1_byOutcome_179 : decode cX1_byOutcome 179 = .ok (.bipush 34, 2) := by decide +kernel
theorem dX1_byOutcome_181 : decode cX1_byOutcome 181 = .ok (.ireturn, 1) := by decide +kernel
theorem dX1_byOutcome_182 : decode cX1_byOutcome 182 = .ok (.iload_n 1, 1) := by decide +kernel
theorem dX1_byOutcome_183 : decode cX1_byOutcome 183 = .ok (.ifCond .ne 16, 3) := by decide +kernel
theorem dX1_byOutcome_186 : decode cX1_byOutcome 186 = .ok (.aload_n 0, 1) := by decide +kernel
theorem dX1_byOutcome_187 : decode cX1_byOutcome 187 = .ok (.getfield 17, 3) := by decide +kernel
theorem dX1_byOutcome_190 : decode cX1_byOutcome 190 = .ok (.iconst 1, 1) := by decide +kernel
theorem dX1_byOutcome_191 : decode cX1_byOutcome 191 = .ok (.if_icmp .ne 8, 3) := by decide +kernel
theorem dX1_byOutcome_194 : decode cX1_byOutcome 194 = .ok (.bipush 14, 2) := by decide +kernel
theorem dX1_byOutcome_196 : decode cX1_byOutcome 196 = .ok (.goto 5, 3) := by decide +kernel
theorem dX1_byOutcome_199 : decode cX1_byOutcome 199 = .ok (.bipush 90, 2) := by decide +kernel
theorem dX1_byOutcome_201 : decode cX1_byOutcome 201 = .ok (.ireturn, 1) := by decide +kernel
theorem dX1_byOutcome_202 : decode cX1_byOutcome 202 = .ok (.bipush 30, 2) := by decide +kernel
theorem dX1_byOutcome_204 : decode cX1_byOutcome 204 = .ok (.ireturn, 1) := by decide +kernel
theorem dX1_byOutcome_205 : decode cX1_byOutcome 205 = .ok (.iload_n 1, 1) := by decide +kernel
theorem dX1_byOutcome_206 : decode cX1_byOutcome 206 = .ok (.bipush 6, 2) := by decide +kernel
theorem dX1_byOutcome_208 : decode cX1_byOutcome 208 = .ok (.if_icmp .ge 8, 3) := by decide +kernel
theorem dX1_byOutcome_211 : decode cX1_byOutcome 211 = .ok (.bipush 51, 2) := by decide +kernel
theorem dX1_byOutcome_213 : decode cX1_byOutcome 213 = .ok (.goto 5, 3) := by decide +kernel
theorem dX1_byOutcome_216 : decode cX1_byOutcome 216 = .ok (.bipush 90, 2) := by decide +kernel
theorem dX1_byOutcome_218 : decode cX1_byOutcome 218 = .ok (.ireturn, 1) := by decide +kernel
theorem dX1_byOutcome_219 : decode cX1_byOutcome 219 = .ok (.iload_n 1, 1) := by decide +kernel
theorem dX1_byOutcome_220 : decode cX1_byOutcome 220 = .ok (.iconst 2, 1) := by decide +kernel
theorem dX1_byOutcome_221 : decode cX1_byOutcome 221 = .ok (.if_icmp .ge 7, 3) := by decide +kernel
theorem dX1_byOutcome_224 : decode cX1_byOutcome 224 = .ok (.iconst 4, 1) := by decide +kernel
theorem dX1_byOutcome_225 : decode cX1_byOutcome 225 = .ok (.goto 15, 3) := by decide +kernel
theorem dX1_byOutcome_228 : decode cX1_byOutcome 228 = .ok (.iload_n 1, 1) := by decide +kernel
theorem dX1_byOutcome_229 : decode cX1_byOutcome 229 = .ok (.iconst 4, 1) := by decide +kernel
theorem dX1_byOutcome_230 : decode cX1_byOutcome 230 = .ok (.if_icmp .ge 8, 3) := by decide +kernel
theorem dX1_byOutcome_233 : decode cX1_byOutcome 233 = .ok (.bipush 44, 2) := by decide +kernel
theorem dX1_byOutcome_235 : decode cX1_byOutcome 235 = .ok (.goto 5, 3) := by decide +kernel
theorem dX1_byOutcome_238 : decode cX1_byOutcome 238 = .ok (.bipush 90, 2) := by decide +kernel
theorem dX1_byOutcome_240 : decode cX1_byOutcome 240 = .ok (.ireturn, 1) := by decide +kernel
theorem dX1_byOutcome_241 : decode cX1_byOutcome 241 = .ok (.iload 4, 2) := by decide +kernel
theorem dX1_byOutcome_243 : decode cX1_byOutcome 243 = .ok (.ifCond .eq 18, 3) := by decide +kernel
theorem dX1_byOutcome_246 : decode cX1_byOutcome 246 = .ok (.iload_n 1, 1) := by decide +kernel
theorem dX1_byOutcome_247 : decode cX1_byOutcome 247 = .ok (.iconst 2, 1) := by decide +kernel
theorem dX1_byOutcome_248 : decode cX1_byOutcome 248 = .ok (.if_icmp .eq 8, 3) := by decide +kernel
theorem dX1_byOutcome_251 : decode cX1_byOutcome 251 = .ok (.iload_n 1, 1) := by decide +kernel
theorem dX1_byOutcome_252 : decode cX1_byOutcome 252 = .ok (.iconst 3, 1) := by decide +kernel
theorem dX1_byOutcome_253 : decode cX1_byOutcome 253 = .ok (.if_icmp .ne 8, 3) := by decide +kernel
theorem dX1_byOutcome_256 : decode cX1_byOutcome 256 = .ok (.bipush 21, 2) := by decide +kernel
theorem dX1_byOutcome_258 : decode cX1_byOutcome 258 = .ok (.goto 5, 3) := by decide +kernel
theorem dX1_byOutcome_261 : decode cX1_byOutcome 261 = .ok (.bipush 90, 2) := by decide +kernel
theorem dX1_byOutcome_263 : decode cX1_byOutcome 263 = .ok (.ireturn, 1) := by decide +kernel
theorem dX1_byOutcome_264 : decode cX1_byOutcome 264 = .ok (.bipush 90, 2) := by decide +kernel
theorem dX1_byOutcome_266 : decode cX1_byOutcome 266 = .ok (.ireturn, 1) := by decide +kernel
theorem dX1_moved_0 : decode cX1_moved 0 = .ok (.iload_n 0, 1) := by decide +kernel
theorem dX1_moved_1 : decode cX1_moved 1 = .ok (.ifCond .eq 13, 3) := by decide +kernel
theorem dX1_moved_4 : decode cX1_moved 4 = .ok (.iload_n 0, 1) := by decide +kernel
theorem dX1_moved_5 : decode cX1_moved 5 = .ok (.iconst 2, 1) := by decide +kernel
theorem dX1_moved_6 : decode cX1_moved 6 = .ok (.if_icmp .eq 8, 3) := by decide +kernel
theorem dX1_moved_9 : decode cX1_moved 9 = .ok (.iload_n 0, 1) := by decide +kernel
theorem dX1_moved_10 : decode cX1_moved 10 = .ok (.iconst 4, 1) := by decide +kernel
theorem dX1_moved_11 : decode cX1_moved 11 = .ok (.if_icmp .ne 5, 3) := by decide +kernel
theorem dX1_moved_14 : decode cX1_moved 14 = .ok (.iconst 1, 1) := by decide +kernel
theorem dX1_moved_15 : decode cX1_moved 15 = .ok (.ireturn, 1) := by decide +kernel
theorem dX1_moved_16 : decode cX1_moved 16 = .ok (.iload_n 0, 1) := by decide +kernel
theorem dX1_moved_17 : decode cX1_moved 17 = .ok (.bipush 10, 2) := by decide +kernel
theorem dX1_moved_19 : decode cX1_moved 19 = .ok (.if_icmp .ne 5, 3) := by decide +kernel
theorem dX1_moved_22 : decode cX1_moved 22 = .ok (.iconst 2, 1) := by decide +kernel
theorem dX1_moved_23 : decode cX1_moved 23 = .ok (.ireturn, 1) := by decide +kernel
theorem dX1_moved_24 : decode cX1_moved 24 = .ok (.iload_n 0, 1) := by decide +kernel
theorem dX1_moved_25 : decode cX1_moved 25 = .ok (.bipush 14, 2) := by decide +kernel
theorem dX1_moved_27 : decode cX1_moved 27 = .ok (.if_icmp .eq 15, 3) := by decide +kernel
theorem dX1_moved_30 : decode cX1_moved 30 = .ok (.iload_n 0, 1) := by decide +kernel
theorem dX1_moved_31 : decode cX1_moved 31 = .ok (.bipush 23, 2) := by decide +kernel
theorem dX1_moved_33 : decode cX1_moved 33 = .ok (.if_icmp .eq 9, 3) := by decide +kernel
theorem dX1_moved_36 : decode cX1_moved 36 = .ok (.iload_n 0, 1) := by decide +kernel
theorem dX1_moved_37 : decode cX1_moved 37 = .ok (.bipush 46, 2) := by decide +kernel
theorem dX1_moved_39 : decode cX1_moved 39 = .ok (.if_icmp .ne 7, 3) := by decide +kernel
theorem dX1_moved_42 : decode cX1_moved 42 = .ok (.iconst 3, 1) := by decide +kernel
theorem dX1_moved_43 : decode cX1_moved 43 = .ok (.goto 4, 3) := by decide +kernel
theorem dX1_moved_46 : decode cX1_moved 46 = .ok (.iconst 0, 1) := by decide +kernel
theorem dX1_moved_47 : decode cX1_moved 47 = .ok (.ireturn, 1) := by decide +kernel
theorem dX1_isStatus_0 : decode cX1_isStatus 0 = .ok (.iload_n 0, 1) := by decide +kernel
theorem dX1_isStatus_1 : decode cX1_isStatus 1 = .ok (.ifCond .lt 13, 3) := by decide +kernel
theorem dX1_isStatus_4 : decode cX1_isStatus 4 = .ok (.iload_n 0, 1) := by decide +kernel
theorem dX1_isStatus_5 : decode cX1_isStatus 5 = .ok (.bipush 100, 2) := by decide +kernel
theorem dX1_isStatus_7 : decode cX1_isStatus 7 = .ok (.if_icmp .ge 7, 3) := by decide +kernel
theorem dX1_isStatus_10 : decode cX1_isStatus 10 = .ok (.iconst 1, 1) := by decide +kernel
theorem dX1_isStatus_11 : decode cX1_isStatus 11 = .ok (.goto 4, 3) := by decide +kernel
theorem dX1_isStatus_14 : decode cX1_isStatus 14 = .ok (.iconst 0, 1) := by decide +kernel
theorem dX1_isStatus_15 : decode cX1_isStatus 15 = .ok (.ireturn, 1) := by decide +kernel
theorem dX1_kindOf_0 : decode cX1_kindOf 0 = .ok (.iload_n 0, 1) := by decide +kernel
theorem dX1_kindOf_1 : decode cX1_kindOf 1 = .ok (.bipush 10, 2) := by decide +kernel
theorem dX1_kindOf_3 : decode cX1_kindOf 3 = .ok (.idiv, 1) := by decide +kernel
theorem dX1_kindOf_4 : decode cX1_kindOf 4 = .ok (.istore_n 1, 1) := by decide +kernel
theorem dX1_kindOf_5 : decode cX1_kindOf 5 = .ok (.iload_n 1, 1) := by decide +kernel
theorem dX1_kindOf_6 : decode cX1_kindOf 6 = .ok (.iconst 5, 1) := by decide +kernel
theorem dX1_kindOf_7 : decode cX1_kindOf 7 = .ok (.if_icmp .ge 7, 3) := by decide +kernel
theorem dX1_kindOf_10 : decode cX1_kindOf 10 = .ok (.iload_n 1, 1) := by decide +kernel
theorem dX1_kindOf_11 : decode cX1_kindOf 11 = .ok (.goto 15, 3) := by decide +kernel
theorem dX1_kindOf_14 : decode cX1_kindOf 14 = .ok (.iload_n 1, 1) := by decide +kernel
theorem dX1_kindOf_15 : decode cX1_kindOf 15 = .ok (.bipush 7, 2) := by decide +kernel
theorem dX1_kindOf_17 : decode cX1_kindOf 17 = .ok (.if_icmp .ge 7, 3) := by decide +kernel
theorem dX1_kindOf_20 : decode cX1_kindOf 20 = .ok (.iconst 5, 1) := by decide +kernel
theorem dX1_kindOf_21 : decode cX1_kindOf 21 = .ok (.goto 5, 3) := by decide +kernel
theorem dX1_kindOf_24 : decode cX1_kindOf 24 = .ok (.bipush 6, 2) := by decide +kernel
theorem dX1_kindOf_26 : decode cX1_kindOf 26 = .ok (.ireturn, 1) := by decide +kernel
theorem dX1_exception_0 : decode cX1_exception 0 = .ok (.aload_n 0, 1) := by decide +kernel
theorem dX1_exception_1 : decode cX1_exception 1 = .ok (.iconst 0, 1) := by decide +kernel
theorem dX1_exception_2 : decode cX1_exception 2 = .ok (.putfield 20, 3) := by decide +kernel
theorem dX1_exception_5 : decode cX1_exception 5 = .ok (.iload_n 1, 1) := by decide +kernel
theorem dX1_exception_6 : decode cX1_exception 6 = .ok (.invokestatic 72, 3) := by decide +kernel
theorem dX1_exception_9 : decode cX1_exception 9 = .ok (.ifCond .eq 10, 3) := by decide +kernel
theorem dX1_exception_12 : decode cX1_exception 12 = .ok (.iload_n 1, 1) := by decide +kernel
theorem dX1_exception_13 : decode cX1_exception 13 = .ok (.invokestatic 76, 3) := by decide +kernel
theorem dX1_exception_16 : decode cX1_exception 16 = .ok (.goto 4, 3) := by decide +kernel
theorem dX1_exception_19 : decode cX1_exception 19 = .ok (.iconst (-1), 1) := by decide +kernel
theorem dX1_exception_20 : decode cX1_exception 20 = .ok (.ireturn, 1) := by decide +kernel
theorem dX1_phrase_0 : decode cX1_phrase 0 = .ok (.aload_n 0, 1) := by decide +kernel
theorem dX1_phrase_1 : decode cX1_phrase 1 = .ok (.iconst 0, 1) := by decide +kernel
theorem dX1_phrase_2 : decode cX1_phrase 2 = .ok (.putfield 20, 3) := by decide +kernel
theorem dX1_phrase_5 : decode cX1_phrase 5 = .ok (.aload_n 0, 1) := by decide +kernel
theorem dX1_phrase_6 : decode cX1_phrase 6 = .ok (.getfield 30, 3) := by decide +kernel
theorem dX1_phrase_9 : decode cX1_phrase 9 = .ok (.invokestatic 76, 3) := by decide +kernel
theorem dX1_phrase_12 : decode cX1_phrase 12 = .ok (.istore_n 2, 1) := by decide +kernel
theorem dX1_phrase_13 : decode cX1_phrase 13 = .ok (.iload_n 2, 1) := by decide +kernel
theorem dX1_phrase_14 : decode cX1_phrase 14 = .ok (.ifCond .ne 5, 3) := by decide +kernel
theorem dX1_phrase_17 : decode cX1_phrase 17 = .ok (.iconst 0, 1) := by decide +kernel
theorem dX1_phrase_18 : decode cX1_phrase 18 = .ok (.ireturn, 1) := by decide +kernel
theorem dX1_phrase_19 : decode cX1_phrase 19 = .ok (.iload_n 1, 1) := by decide +kernel
theorem dX1_phrase_20 : decode cX1_phrase 20 = .ok (.ifCond .eq 10, 3) := by decide +kernel
theorem dX1_phrase_23 : decode cX1_phrase 23 = .ok (.iload_n 2, 1) := by decide +kernel
theorem dX1_phrase_24 : decode cX1_phrase 24 = .ok (.iconst 3, 1) := by decide +kernel
theorem dX1_phrase_25 : decode cX1_phrase 25 = .ok (.if_icmp .ge 5, 3) := by decide +kernel
theorem dX1_phrase_28 : decode cX1_phrase 28 = .ok (.iconst 1, 1) := by decide +kernel
theorem dX1_phrase_29 : decode cX1_phrase 29 = .ok (.ireturn, 1) := by decide +kernel
theorem dX1_phrase_30 : decode cX1_phrase 30 = .ok (.aload_n 0, 1) := by decide +kernel
theorem dX1_phrase_31 : decode cX1_phrase 31 = .ok (.getfield 13, 3) := by decide +kernel
theorem dX1_phrase_34 : decode cX1_phrase 34 = .ok (.iload_n 2, 1) := by decide +kernel
theorem dX1_phrase_35 : decode cX1_phrase 35 = .ok (.baload, 1) := by decide +kernel
theorem dX1_phrase_36 : decode cX1_phrase 36 = .ok (.ifCond .eq 7, 3) := by decide +kernel
theorem dX1_phrase_39 : decode cX1_phrase 39 = .ok (.iconst 2, 1) := by decide +kernel
theorem dX1_phrase_40 : decode cX1_phrase 40 = .ok (.goto 13, 3) := by decide +kernel
theorem dX1_phrase_43 : decode cX1_phrase 43 = .ok (.iload_n 2, 1) := by decide +kernel
theorem dX1_phrase_44 : decode cX1_phrase 44 = .ok (.iconst 2, 1) := by decide +kernel
theorem dX1_phrase_45 : decode cX1_phrase 45 = .ok (.if_icmp .le 7, 3) := by decide +kernel
theorem dX1_phrase_48 : decode cX1_phrase 48 = .ok (.iconst 3, 1) := by decide +kernel
theorem dX1_phrase_49 : decode cX1_phrase 49 = .ok (.goto 4, 3) := by decide +kernel
theorem dX1_phrase_52 : decode cX1_phrase 52 = .ok (.iconst 4, 1) := by decide +kernel
theorem dX1_phrase_53 : decode cX1_phrase 53 = .ok (.ireturn, 1) := by decide +kernel
theorem dX1_declarative_0 : decode cX1_declarative 0 = .ok (.aload_n 0, 1) := by decide +kernel
theorem dX1_declarative_1 : decode cX1_declarative 1 = .ok (.iconst 0, 1) := by decide +kernel
theorem dX1_declarative_2 : decode cX1_declarative 2 = .ok (.putfield 20, 3) := by decide +kernel
theorem dX1_declarative_5 : decode cX1_declarative 5 = .ok (.iload_n 1, 1) := by decide +kernel
theorem dX1_declarative_6 : decode cX1_declarative 6 = .ok (.iconst 1, 1) := by decide +kernel
theorem dX1_declarative_7 : decode cX1_declarative 7 = .ok (.if_icmp .lt 9, 3) := by decide +kernel
theorem dX1_declarative_10 : decode cX1_declarative 10 = .ok (.iload_n 1, 1) := by decide +kernel
theorem dX1_declarative_11 : decode cX1_declarative 11 = .ok (.bipush 6, 2) := by decide +kernel
theorem dX1_declarative_13 : decode cX1_declarative 13 = .ok (.if_icmp .le 6, 3) := by decide +kernel
theorem dX1_declarative_16 : decode cX1_declarative 16 = .ok (.bipush (-4), 2) := by decide +kernel
theorem dX1_declarative_18 : decode cX1_declarative 18 = .ok (.ireturn, 1) := by decide +kernel
theorem dX1_declarative_19 : decode cX1_declarative 19 = .ok (.aload_n 0, 1) := by decide +kernel
theorem dX1_declarative_20 : decode cX1_declarative 20 = .ok (.getfield 13, 3) := by decide +kernel
theorem dX1_declarative_23 : decode cX1_declarative 23 = .ok (.iload_n 1, 1) := by decide +kernel
theorem dX1_declarative_24 : decode cX1_declarative 24 = .ok (.baload, 1) := by decide +kernel
theorem dX1_declarative_25 : decode cX1_declarative 25 = .ok (.ifCond .eq 7, 3) := by decide +kernel
theorem dX1_declarative_28 : decode cX1_declarative 28 = .ok (.iconst 1, 1) := by decide +kernel
theorem dX1_declarative_29 : decode cX1_declarative 29 = .ok (.goto 4, 3) := by decide +kernel
theorem dX1_declarative_32 : decode cX1_declarative 32 = .ok (.iconst 0, 1) := by decide +kernel
theorem dX1_declarative_33 : decode cX1_declarative 33 = .ok (.istore_n 3, 1) := by decide +kernel
theorem dX1_declarative_34 : decode cX1_declarative 34 = .ok (.aload_n 0, 1) := by decide +kernel
theorem dX1_declarative_35 : decode cX1_declarative 35 = .ok (.getfield 13, 3) := by decide +kernel
theorem dX1_declarative_38 : decode cX1_declarative 38 = .ok (.iload_n 1, 1) := by decide +kernel
theorem dX1_declarative_39 : decode cX1_declarative 39 = .ok (.iload_n 2, 1) := by decide +kernel
theorem dX1_declarative_40 : decode cX1_declarative 40 = .ok (.bastore, 1) := by decide +kernel
theorem dX1_declarative_41 : decode cX1_declarative 41 = .ok (.iload_n 3, 1) := by decide +kernel
theorem dX1_declarative_42 : decode cX1_declarative 42 = .ok (.ireturn, 1) := by decide +kernel
theorem dX1_position_0 : decode cX1_position 0 = .ok (.aload_n 0, 1) := by decide +kernel
theorem dX1_position_1 : decode cX1_position 1 = .ok (.iconst 0, 1) := by decide +kernel
theorem dX1_position_2 : decode cX1_position 2 = .ok (.putfield 20, 3) := by decide +kernel
theorem dX1_position_5 : decode cX1_position 5 = .ok (.iload_n 1, 1) := by decide +kernel
theorem dX1_position_6 : decode cX1_position 6 = .ok (.invokestatic 72, 3) := by decide +kernel
theorem dX1_position_9 : decode cX1_position 9 = .ok (.ifCond .eq 10, 3) := by decide +kernel
theorem dX1_position_12 : decode cX1_position 12 = .ok (.iload_n 1, 1) := by decide +kernel
theorem dX1_position_13 : decode cX1_position 13 = .ok (.invokestatic 69, 3) := by decide +kernel
theorem dX1_position_16 : decode cX1_position 16 = .ok (.goto 4, 3) := by decide +kernel
theorem dX1_position_19 : decode cX1_position 19 = .ok (.iconst (-1), 1) := by decide +kernel
theorem dX1_position_20 : decode cX1_position 20 = .ok (.ireturn, 1) := by decide +kernel
theorem dX1_optional_0 : decode cX1_optional 0 = .ok (.aload_n 0, 1) := by decide +kernel
theorem dX1_optional_1 : decode cX1_optional 1 = .ok (.iconst 0, 1) := by decide +kernel
theorem dX1_optional_2 : decode cX1_optional 2 = .ok (.putfield 20, 3) := by decide +kernel
theorem dX1_optional_5 : decode cX1_optional 5 = .ok (.aload_n 0, 1) := by decide +kernel
theorem dX1_optional_6 : decode cX1_optional 6 = .ok (.getfield 23, 3) := by decide +kernel
theorem dX1_optional_9 : decode cX1_optional 9 = .ok (.ifCond .eq 6, 3) := by decide +kernel
theorem dX1_optional_12 : decode cX1_optional 12 = .ok (.bipush (-5), 2) := by decide +kernel
theorem dX1_optional_14 : decode cX1_optional 14 = .ok (.ireturn, 1) := by decide +kernel
theorem dX1_optional_15 : decode cX1_optional 15 = .ok (.aload_n 0, 1) := by decide +kernel
theorem dX1_optional_16 : decode cX1_optional 16 = .ok (.getfield 56, 3) := by decide +kernel
theorem dX1_optional_19 : decode cX1_optional 19 = .ok (.ifCond .eq 7, 3) := by decide +kernel
theorem dX1_optional_22 : decode cX1_optional 22 = .ok (.iconst 1, 1) := by decide +kernel
theorem dX1_optional_23 : decode cX1_optional 23 = .ok (.goto 4, 3) := by decide +kernel
theorem dX1_optional_26 : decode cX1_optional 26 = .ok (.iconst 0, 1) := by decide +kernel
theorem dX1_optional_27 : decode cX1_optional 27 = .ok (.istore_n 2, 1) := by decide +kernel
theorem dX1_optional_28 : decode cX1_optional 28 = .ok (.aload_n 0, 1) := by decide +kernel
theorem dX1_optional_29 : decode cX1_optional 29 = .ok (.iload_n 1, 1) := by decide +kernel
theorem dX1_optional_30 : decode cX1_optional 30 = .ok (.putfield 56, 3) := by decide +kernel
theorem dX1_optional_33 : decode cX1_optional 33 = .ok (.iload_n 2, 1) := by decide +kernel
theorem dX1_optional_34 : decode cX1_optional 34 = .ok (.ireturn, 1) := by decide +kernel
theorem dX1_both_0 : decode cX1_both 0 = .ok (.aload_n 0, 1) := by decide +kernel
theorem dX1_both_1 : decode cX1_both 1 = .ok (.iconst 0, 1) := by decide +kernel
theorem dX1_both_2 : decode cX1_both 2 = .ok (.putfield 20, 3) := by decide +kernel
theorem dX1_both_5 : decode cX1_both 5 = .ok (.iload_n 1, 1) := by decide +kernel
theorem dX1_both_6 : decode cX1_both 6 = .ok (.invokestatic 72, 3) := by decide +kernel
theorem dX1_both_9 : decode cX1_both 9 = .ok (.ifCond .eq 10, 3) := by decide +kernel
theorem dX1_both_12 : decode cX1_both 12 = .ok (.iload_n 2, 1) := by decide +kernel
theorem dX1_both_13 : decode cX1_both 13 = .ok (.invokestatic 72, 3) := by decide +kernel
theorem dX1_both_16 : decode cX1_both 16 = .ok (.ifCond .ne 5, 3) := by decide +kernel
theorem dX1_both_19 : decode cX1_both 19 = .ok (.iconst (-1), 1) := by decide +kernel
theorem dX1_both_20 : decode cX1_both 20 = .ok (.ireturn, 1) := by decide +kernel
theorem dX1_both_21 : decode cX1_both 21 = .ok (.iload_n 1, 1) := by decide +kernel
theorem dX1_both_22 : decode cX1_both 22 = .ok (.invokestatic 76, 3) := by decide +kernel
theorem dX1_both_25 : decode cX1_both 25 = .ok (.iload_n 2, 1) := by decide +kernel
theorem dX1_both_26 : decode cX1_both 26 = .ok (.invokestatic 76, 3) := by decide +kernel
theorem dX1_both_29 : decode cX1_both 29 = .ok (.if_icmp .eq 20, 3) := by decide +kernel
theorem dX1_both_32 : decode cX1_both 32 = .ok (.iload_n 1, 1) := by decide +kernel
theorem dX1_both_33 : decode cX1_both 33 = .ok (.invokestatic 76, 3) := by decide +kernel
theorem dX1_both_36 : decode cX1_both 36 = .ok (.iload_n 2, 1) := by decide +kernel
theorem dX1_both_37 : decode cX1_both 37 = .ok (.invokestatic 76, 3) := by decide +kernel
theorem dX1_both_40 : decode cX1_both 40 = .ok (.if_icmp .le 7, 3) := by decide +kernel
theorem dX1_both_43 : decode cX1_both 43 = .ok (.iload_n 1, 1) := by decide +kernel
theorem dX1_both_44 : decode cX1_both 44 = .ok (.goto 4, 3) := by decide +kernel
theorem dX1_both_47 : decode cX1_both 47 = .ok (.iload_n 2, 1) := by decide +kernel
theorem dX1_both_48 : decode cX1_both 48 = .ok (.ireturn, 1) := by decide +kernel
theorem dX1_both_49 : decode cX1_both 49 = .ok (.iload_n 1, 1) := by decide +kernel
theorem dX1_both_50 : decode cX1_both 50 = .ok (.iload_n 2, 1) := by decide +kernel
theorem dX1_both_51 : decode cX1_both 51 = .ok (.if_icmp .ge 7, 3) := by decide +kernel
theorem dX1_both_54 : decode cX1_both 54 = .ok (.iload_n 1, 1) := by decide +kernel
theorem dX1_both_55 : decode cX1_both 55 = .ok (.goto 4, 3) := by decide +kernel
theorem dX1_both_58 : decode cX1_both 58 = .ok (.iload_n 2, 1) := by decide +kernel
theorem dX1_both_59 : decode cX1_both 59 = .ok (.ireturn, 1) := by decide +kernel
theorem dX1_extended_0 : decode cX1_extended 0 = .ok (.aload_n 0, 1) := by decide +kernel
theorem dX1_extended_1 : decode cX1_extended 1 = .ok (.iconst 0, 1) := by decide +kernel
theorem dX1_extended_2 : decode cX1_extended 2 = .ok (.putfield 20, 3) := by decide +kernel
theorem dX1_extended_5 : decode cX1_extended 5 = .ok (.iload_n 1, 1) := by decide +kernel
theorem dX1_extended_6 : decode cX1_extended 6 = .ok (.invokestatic 72, 3) := by decide +kernel
theorem dX1_extended_9 : decode cX1_extended 9 = .ok (.ifCond .eq 23, 3) := by decide +kernel
theorem dX1_extended_12 : decode cX1_extended 12 = .ok (.bipush 100, 2) := by decide +kernel
theorem dX1_extended_14 : decode cX1_extended 14 = .ok (.iload_n 1, 1) := by decide +kernel
theorem dX1_extended_15 : decode cX1_extended 15 = .ok (.imul, 1) := by decide +kernel
theorem dX1_extended_16 : decode cX1_extended 16 = .ok (.bipush 10, 2) := by decide +kernel
theorem dX1_extended_18 : decode cX1_extended 18 = .ok (.aload_n 0, 1) := by decide +kernel
theorem dX1_extended_19 : decode cX1_extended 19 = .ok (.getfield 17, 3) := by decide +kernel
theorem dX1_extended_22 : decode cX1_extended 22 = .ok (.imul, 1) := by decide +kernel
theorem dX1_extended_23 : decode cX1_extended 23 = .ok (.iadd, 1) := by decide +kernel
theorem dX1_extended_24 : decode cX1_extended 24 = .ok (.aload_n 0, 1) := by decide +kernel
theorem dX1_extended_25 : decode cX1_extended 25 = .ok (.getfield 7, 3) := by decide +kernel
theorem dX1_extended_28 : decode cX1_extended 28 = .ok (.iadd, 1) := by decide +kernel
theorem dX1_extended_29 : decode cX1_extended 29 = .ok (.goto 4, 3) := by decide +kernel
theorem dX1_extended_32 : decode cX1_extended 32 = .ok (.iconst (-1), 1) := by decide +kernel
theorem dX1_extended_33 : decode cX1_extended 33 = .ok (.ireturn, 1) := by decide +kernel
theorem dX1_area_0 : decode cX1_area 0 = .ok (.aload_n 0, 1) := by decide +kernel
theorem dX1_area_1 : decode cX1_area 1 = .ok (.iconst 0, 1) := by decide +kernel
theorem dX1_area_2 : decode cX1_area 2 = .ok (.putfield 20, 3) := by decide +kernel
theorem dX1_area_5 : decode cX1_area 5 = .ok (.iload_n 1, 1) := by decide +kernel
theorem dX1_area_6 : decode cX1_area 6 = .ok (.invokestatic 72, 3) := by decide +kernel
theorem dX1_area_9 : decode cX1_area 9 = .ok (.ifCond .ne 5, 3) := by decide +kernel
theorem dX1_area_12 : decode cX1_area 12 = .ok (.iconst (-1), 1) := by decide +kernel
theorem dX1_area_13 : decode cX1_area 13 = .ok (.ireturn, 1) := by decide +kernel
theorem dX1_area_14 : decode cX1_area 14 = .ok (.iload_n 1, 1) := by decide +kernel
theorem dX1_area_15 : decode cX1_area 15 = .ok (.ifCond .eq 8, 3) := by decide +kernel
theorem dX1_area_18 : decode cX1_area 18 = .ok (.iload_n 1, 1) := by decide +kernel
theorem dX1_area_19 : decode cX1_area 19 = .ok (.iconst 2, 1) := by decide +kernel
theorem dX1_area_20 : decode cX1_area 20 = .ok (.if_icmp .ne 7, 3) := by decide +kernel
theorem dX1_area_23 : decode cX1_area 23 = .ok (.iconst 1, 1) := by decide +kernel
theorem dX1_area_24 : decode cX1_area 24 = .ok (.goto 13, 3) := by decide +kernel
theorem dX1_area_27 : decode cX1_area 27 = .ok (.iload_n 1, 1) := by decide +kernel
theorem dX1_area_28 : decode cX1_area 28 = .ok (.iconst 4, 1) := by decide +kernel
theorem dX1_area_29 : decode cX1_area 29 = .ok (.if_icmp .ne 7, 3) := by decide +kernel
theorem dX1_area_32 : decode cX1_area 32 = .ok (.iconst 2, 1) := by decide +kernel
theorem dX1_area_33 : decode cX1_area 33 = .ok (.goto 4, 3) := by decide +kernel
theorem dX1_area_36 : decode cX1_area 36 = .ok (.iconst 0, 1) := by decide +kernel
theorem dX1_area_37 : decode cX1_area 37 = .ok (.ireturn, 1) := by decide +kernel
theorem dX1_count_0 : decode cX1_count 0 = .ok (.aload_n 0, 1) := by decide +kernel
theorem dX1_count_1 : decode cX1_count 1 = .ok (.iconst 0, 1) := by decide +kernel
theorem dX1_count_2 : decode cX1_count 2 = .ok (.putfield 20, 3) := by decide +kernel
theorem dX1_count_5 : decode cX1_count 5 = .ok (.iload_n 1, 1) := by decide +kernel
theorem dX1_count_6 : decode cX1_count 6 = .ok (.tableswitch 96 0 6 #[42, 58, 63, 76, 81, 86, 91], 42) := by decide +kernel
theorem dX1_count_48 : decode cX1_count 48 = .ok (.aload_n 0, 1) := by decide +kernel
theorem dX1_count_49 : decode cX1_count 49 = .ok (.getfield 23, 3) := by decide +kernel
theorem dX1_count_52 : decode cX1_count 52 = .ok (.ifCond .eq 10, 3) := by decide +kernel
theorem dX1_count_55 : decode cX1_count 55 = .ok (.aload_n 0, 1) := by decide +kernel
theorem dX1_count_56 : decode cX1_count 56 = .ok (.getfield 27, 3) := by decide +kernel
theorem dX1_count_59 : decode cX1_count 59 = .ok (.goto 4, 3) := by decide +kernel
theorem dX1_count_62 : decode cX1_count 62 = .ok (.iconst (-1), 1) := by decide +kernel
theorem dX1_count_63 : decode cX1_count 63 = .ok (.ireturn, 1) := by decide +kernel
theorem dX1_count_64 : decode cX1_count 64 = .ok (.aload_n 0, 1) := by decide +kernel
theorem dX1_count_65 : decode cX1_count 65 = .ok (.getfield 50, 3) := by decide +kernel
theorem dX1_count_68 : decode cX1_count 68 = .ok (.ireturn, 1) := by decide +kernel
theorem dX1_count_69 : decode cX1_count 69 = .ok (.aload_n 0, 1) := by decide +kernel
theorem dX1_count_70 : decode cX1_count 70 = .ok (.getfield 47, 3) := by decide +kernel
theorem dX1_count_73 : decode cX1_count 73 = .ok (.ifCond .eq 7, 3) := by decide +kernel
theorem dX1_count_76 : decode cX1_count 76 = .ok (.iconst 1, 1) := by decide +kernel
theorem dX1_count_77 : decode cX1_count 77 = .ok (.goto 4, 3) := by decide +kernel
theorem dX1_count_80 : decode cX1_count 80 = .ok (.iconst 0, 1) := by decide +kernel
theorem dX1_count_81 : decode cX1_count 81 = .ok (.ireturn, 1) := by decide +kernel
theorem dX1_count_82 : decode cX1_count 82 = .ok (.aload_n 0, 1) := by decide +kernel
theorem dX1_count_83 : decode cX1_count 83 = .ok (.getfield 30, 3) := by decide +kernel
theorem dX1_count_86 : decode cX1_count 86 = .ok (.ireturn, 1) := by decide +kernel
theorem dX1_count_87 : decode cX1_count 87 = .ok (.aload_n 0, 1) := by decide +kernel
theorem dX1_count_88 : decode cX1_count 88 = .ok (.getfield 33, 3) := by decide +kernel
theorem dX1_count_91 : decode cX1_count 91 = .ok (.ireturn, 1) := by decide +kernel
theorem dX1_count_92 : decode cX1_count 92 = .ok (.aload_n 0, 1) := by decide +kernel
theorem dX1_count_93 : decode cX1_count 93 = .ok (.getfield 36, 3) := by decide +kernel
theorem dX1_count_96 : decode cX1_count 96 = .ok (.ireturn, 1) := by decide +kernel
theorem dX1_count_97 : decode cX1_count 97 = .ok (.aload_n 0, 1) := by decide +kernel
theorem dX1_count_98 : decode cX1_count 98 = .ok (.getfield 17, 3) := by decide +kernel
theorem dX1_count_101 : decode cX1_count 101 = .ok (.ireturn, 1) := by decide +kernel
theorem dX1_count_102 : decode cX1_count 102 = .ok (.iconst (-1), 1) := by decide +kernel
theorem dX1_count_103 : decode cX1_count 103 = .ok (.ireturn, 1) := by decide +kernel
theorem dX1_open_0 : decode cX1_open 0 = .ok (.aload_n 0, 1) := by decide +kernel
theorem dX1_open_1 : decode cX1_open 1 = .ok (.iconst 0, 1) := by decide +kernel
theorem dX1_open_2 : decode cX1_open 2 = .ok (.putfield 20, 3) := by decide +kernel
theorem dX1_open_5 : decode cX1_open 5 = .ok (.aload_n 0, 1) := by decide +kernel
theorem dX1_open_6 : decode cX1_open 6 = .ok (.iload_n 1, 1) := by decide +kernel
theorem dX1_open_7 : decode cX1_open 7 = .ok (.invokevirtual 39, 3) := by decide +kernel
theorem dX1_open_10 : decode cX1_open 10 = .ok (.istore_n 2, 1) := by decide +kernel
theorem dX1_open_11 : decode cX1_open 11 = .ok (.aload_n 0, 1) := by decide +kernel
theorem dX1_open_12 : decode cX1_open 12 = .ok (.getfield 33, 3) := by decide +kernel
theorem dX1_open_15 : decode cX1_open 15 = .ok (.istore_n 3, 1) := by decide +kernel
theorem dX1_open_16 : decode cX1_open 16 = .ok (.aload_n 0, 1) := by decide +kernel
theorem dX1_open_17 : decode cX1_open 17 = .ok (.iload_n 2, 1) := by decide +kernel
theorem dX1_open_18 : decode cX1_open 18 = .ok (.bipush 7, 2) := by decide +kernel
theorem dX1_open_20 : decode cX1_open 20 = .ok (.invokevirtual 43, 3) := by decide +kernel
theorem dX1_open_23 : decode cX1_open 23 = .ok (.pop, 1) := by decide +kernel
theorem dX1_open_24 : decode cX1_open 24 = .ok (.aload_n 0, 1) := by decide +kernel
theorem dX1_open_25 : decode cX1_open 25 = .ok (.iload_n 3, 1) := by decide +kernel
theorem dX1_open_26 : decode cX1_open 26 = .ok (.putfield 33, 3) := by decide +kernel
theorem dX1_open_29 : decode cX1_open 29 = .ok (.aload_n 0, 1) := by decide +kernel
theorem dX1_open_30 : decode cX1_open 30 = .ok (.iconst 0, 1) := by decide +kernel
theorem dX1_open_31 : decode cX1_open 31 = .ok (.putfield 47, 3) := by decide +kernel
theorem dX1_open_34 : decode cX1_open 34 = .ok (.iload_n 2, 1) := by decide +kernel
theorem dX1_open_35 : decode cX1_open 35 = .ok (.ifCond .eq 10, 3) := by decide +kernel
theorem dX1_open_38 : decode cX1_open 38 = .ok (.iload_n 2, 1) := by decide +kernel
theorem dX1_open_39 : decode cX1_open 39 = .ok (.iconst 5, 1) := by decide +kernel
theorem dX1_open_40 : decode cX1_open 40 = .ok (.if_icmp .eq 5, 3) := by decide +kernel
theorem dX1_open_43 : decode cX1_open 43 = .ok (.iload_n 2, 1) := by decide +kernel
theorem dX1_open_44 : decode cX1_open 44 = .ok (.ireturn, 1) := by decide +kernel
theorem dX1_open_45 : decode cX1_open 45 = .ok (.aload_n 0, 1) := by decide +kernel
theorem dX1_open_46 : decode cX1_open 46 = .ok (.iconst 1, 1) := by decide +kernel
theorem dX1_open_47 : decode cX1_open 47 = .ok (.putfield 23, 3) := by decide +kernel
theorem dX1_open_50 : decode cX1_open 50 = .ok (.aload_n 0, 1) := by decide +kernel
theorem dX1_open_51 : decode cX1_open 51 = .ok (.iconst 0, 1) := by decide +kernel
theorem dX1_open_52 : decode cX1_open 52 = .ok (.putfield 50, 3) := by decide +kernel
theorem dX1_open_55 : decode cX1_open 55 = .ok (.aload_n 0, 1) := by decide +kernel
theorem dX1_open_56 : decode cX1_open 56 = .ok (.iload_n 2, 1) := by decide +kernel
theorem dX1_open_57 : decode cX1_open 57 = .ok (.iconst 5, 1) := by decide +kernel
theorem dX1_open_58 : decode cX1_open 58 = .ok (.if_icmp .ne 22, 3) := by decide +kernel
theorem dX1_open_61 : decode cX1_open 61 = .ok (.aload_n 0, 1) := by decide +kernel
theorem dX1_open_62 : decode cX1_open 62 = .ok (.getfield 27, 3) := by decide +kernel
theorem dX1_open_65 : decode cX1_open 65 = .ok (.ifCond .eq 11, 3) := by decide +kernel
theorem dX1_open_68 : decode cX1_open 68 = .ok (.aload_n 0, 1) := by decide +kernel
theorem dX1_open_69 : decode cX1_open 69 = .ok (.getfield 27, 3) := by decide +kernel
theorem dX1_open_72 : decode cX1_open 72 = .ok (.iconst 2, 1) := by decide +kernel
theorem dX1_open_73 : decode cX1_open 73 = .ok (.if_icmp .ne 7, 3) := by decide +kernel
theorem dX1_open_76 : decode cX1_open 76 = .ok (.iconst 1, 1) := by decide +kernel
theorem dX1_open_77 : decode cX1_open 77 = .ok (.goto 4, 3) := by decide +kernel
theorem dX1_open_80 : decode cX1_open 80 = .ok (.iconst 0, 1) := by decide +kernel
theorem dX1_open_81 : decode cX1_open 81 = .ok (.putfield 53, 3) := by decide +kernel
theorem dX1_open_84 : decode cX1_open 84 = .ok (.iload_n 2, 1) := by decide +kernel
theorem dX1_open_85 : decode cX1_open 85 = .ok (.ireturn, 1) := by decide +kernel
theorem dX1_act_0 : decode cX1_act 0 = .ok (.aload_n 0, 1) := by decide +kernel
theorem dX1_act_1 : decode cX1_act 1 = .ok (.iconst 0, 1) := by decide +kernel
theorem dX1_act_2 : decode cX1_act 2 = .ok (.putfield 20, 3) := by decide +kernel
theorem dX1_act_5 : decode cX1_act 5 = .ok (.iload_n 1, 1) := by decide +kernel
theorem dX1_act_6 : decode cX1_act 6 = .ok (.ifCond .lt 9, 3) := by decide +kernel
theorem dX1_act_9 : decode cX1_act 9 = .ok (.iload_n 1, 1) := by decide +kernel
theorem dX1_act_10 : decode cX1_act 10 = .ok (.bipush 6, 2) := by decide +kernel
theorem dX1_act_12 : decode cX1_act 12 = .ok (.if_icmp .le 6, 3) := by decide +kernel
theorem dX1_act_15 : decode cX1_act 15 = .ok (.bipush (-4), 2) := by decide +kernel
theorem dX1_act_17 : decode cX1_act 17 = .ok (.ireturn, 1) := by decide +kernel
theorem dX1_act_18 : decode cX1_act 18 = .ok (.aload_n 0, 1) := by decide +kernel
theorem dX1_act_19 : decode cX1_act 19 = .ok (.iload_n 1, 1) := by decide +kernel
theorem dX1_act_20 : decode cX1_act 20 = .ok (.invokevirtual 63, 3) := by decide +kernel
theorem dX1_act_23 : decode cX1_act 23 = .ok (.istore_n 3, 1) := by decide +kernel
theorem dX1_act_24 : decode cX1_act 24 = .ok (.iload_n 3, 1) := by decide +kernel
theorem dX1_act_25 : decode cX1_act 25 = .ok (.ifCond .ne 26, 3) := by decide +kernel
theorem dX1_act_28 : decode cX1_act 28 = .ok (.iload_n 1, 1) := by decide +kernel
theorem dX1_act_29 : decode cX1_act 29 = .ok (.ifCond .ne 15, 3) := by decide +kernel
theorem dX1_act_32 : decode cX1_act 32 = .ok (.aload_n 0, 1) := by decide +kernel
theorem dX1_act_33 : decode cX1_act 33 = .ok (.getfield 53, 3) := by decide +kernel
theorem dX1_act_36 : decode cX1_act 36 = .ok (.ifCond .eq 8, 3) := by decide +kernel
theorem dX1_act_39 : decode cX1_act 39 = .ok (.bipush 10, 2) := by decide +kernel
theorem dX1_act_41 : decode cX1_act 41 = .ok (.goto 9, 3) := by decide +kernel
theorem dX1_act_44 : decode cX1_act 44 = .ok (.aload_n 0, 1) := by decide +kernel
theorem dX1_act_45 : decode cX1_act 45 = .ok (.iload_n 1, 1) := by decide +kernel
theorem dX1_act_46 : decode cX1_act 46 = .ok (.iload_n 2, 1) := by decide +kernel
theorem dX1_act_47 : decode cX1_act 47 = .ok (.invokevirtual 66, 3) := by decide +kernel
theorem dX1_act_50 : decode cX1_act 50 = .ok (.istore_n 3, 1) := by decide +kernel
theorem dX1_act_51 : decode cX1_act 51 = .ok (.aload_n 0, 1) := by decide +kernel
theorem dX1_act_52 : decode cX1_act 52 = .ok (.iload_n 3, 1) := by decide +kernel
theorem dX1_act_53 : decode cX1_act 53 = .ok (.iload_n 1, 1) := by decide +kernel
theorem dX1_act_54 : decode cX1_act 54 = .ok (.invokevirtual 43, 3) := by decide +kernel
theorem dX1_act_57 : decode cX1_act 57 = .ok (.pop, 1) := by decide +kernel
theorem dX1_act_58 : decode cX1_act 58 = .ok (.aload_n 0, 1) := by decide +kernel
theorem dX1_act_59 : decode cX1_act 59 = .ok (.iload_n 1, 1) := by decide +kernel
theorem dX1_act_60 : decode cX1_act 60 = .ok (.ifCond .eq 8, 3) := by decide +kernel
theorem dX1_act_63 : decode cX1_act 63 = .ok (.iload_n 1, 1) := by decide +kernel
theorem dX1_act_64 : decode cX1_act 64 = .ok (.iconst 1, 1) := by decide +kernel
theorem dX1_act_65 : decode cX1_act 65 = .ok (.if_icmp .ne 21, 3) := by decide +kernel
theorem dX1_act_68 : decode cX1_act 68 = .ok (.iload_n 3, 1) := by decide +kernel
theorem dX1_act_69 : decode cX1_act 69 = .ok (.ifCond .eq 13, 3) := by decide +kernel
theorem dX1_act_72 : decode cX1_act 72 = .ok (.iload_n 3, 1) := by decide +kernel
theorem dX1_act_73 : decode cX1_act 73 = .ok (.iconst 2, 1) := by decide +kernel
theorem dX1_act_74 : decode cX1_act 74 = .ok (.if_icmp .eq 8, 3) := by decide +kernel
theorem dX1_act_77 : decode cX1_act 77 = .ok (.iload_n 3, 1) := by decide +kernel
theorem dX1_act_78 : decode cX1_act 78 = .ok (.iconst 4, 1) := by decide +kernel
theorem dX1_act_79 : decode cX1_act 79 = .ok (.if_icmp .ne 7, 3) := by decide +kernel
theorem dX1_act_82 : decode cX1_act 82 = .ok (.iconst 1, 1) := by decide +kernel
theorem dX1_act_83 : decode cX1_act 83 = .ok (.goto 4, 3) := by decide +kernel
theorem dX1_act_86 : decode cX1_act 86 = .ok (.iconst 0, 1) := by decide +kernel
theorem dX1_act_87 : decode cX1_act 87 = .ok (.putfield 47, 3) := by decide +kernel
theorem dX1_act_90 : decode cX1_act 90 = .ok (.iload_n 1, 1) := by decide +kernel
theorem dX1_act_91 : decode cX1_act 91 = .ok (.ifCond .ne 28, 3) := by decide +kernel
theorem dX1_act_94 : decode cX1_act 94 = .ok (.aload_n 0, 1) := by decide +kernel
theorem dX1_act_95 : decode cX1_act 95 = .ok (.getfield 23, 3) := by decide +kernel
theorem dX1_act_98 : decode cX1_act 98 = .ok (.ifCond .eq 21, 3) := by decide +kernel
theorem dX1_act_101 : decode cX1_act 101 = .ok (.aload_n 0, 1) := by decide +kernel
theorem dX1_act_102 : decode cX1_act 102 = .ok (.invokevirtual 59, 3) := by decide +kernel
theorem dX1_act_105 : decode cX1_act 105 = .ok (.ifCond .eq 14, 3) := by decide +kernel
theorem dX1_act_108 : decode cX1_act 108 = .ok (.iload_n 3, 1) := by decide +kernel
theorem dX1_act_109 : decode cX1_act 109 = .ok (.bipush 10, 2) := by decide +kernel
theorem dX1_act_111 : decode cX1_act 111 = .ok (.if_icmp .ne 8, 3) := by decide +kernel
theorem dX1_act_114 : decode cX1_act 114 = .ok (.aload_n 0, 1) := by decide +kernel
theorem dX1_act_115 : decode cX1_act 115 = .ok (.iconst 0, 1) := by decide +kernel
theorem dX1_act_116 : decode cX1_act 116 = .ok (.putfield 53, 3) := by decide +kernel
theorem dX1_act_119 : decode cX1_act 119 = .ok (.iload_n 1, 1) := by decide +kernel
theorem dX1_act_120 : decode cX1_act 120 = .ok (.ifCond .eq 13, 3) := by decide +kernel
theorem dX1_act_123 : decode cX1_act 123 = .ok (.iload_n 1, 1) := by decide +kernel
theorem dX1_act_124 : decode cX1_act 124 = .ok (.iconst 1, 1) := by decide +kernel
theorem dX1_act_125 : decode cX1_act 125 = .ok (.if_icmp .eq 8, 3) := by decide +kernel
theorem dX1_act_128 : decode cX1_act 128 = .ok (.iload_n 1, 1) := by decide +kernel
theorem dX1_act_129 : decode cX1_act 129 = .ok (.iconst 5, 1) := by decide +kernel
theorem dX1_act_130 : decode cX1_act 130 = .ok (.if_icmp .ne 7, 3) := by decide +kernel
theorem dX1_act_133 : decode cX1_act 133 = .ok (.iconst 1, 1) := by decide +kernel
theorem dX1_act_134 : decode cX1_act 134 = .ok (.goto 4, 3) := by decide +kernel
theorem dX1_act_137 : decode cX1_act 137 = .ok (.iconst 0, 1) := by decide +kernel
theorem dX1_act_138 : decode cX1_act 138 = .ok (.istore 4, 2) := by decide +kernel
theorem dX1_act_140 : decode cX1_act 140 = .ok (.iload 4, 2) := by decide +kernel
theorem dX1_act_142 : decode cX1_act 142 = .ok (.ifCond .eq 10, 3) := by decide +kernel
theorem dX1_act_145 : decode cX1_act 145 = .ok (.iload_n 3, 1) := by decide +kernel
theorem dX1_act_146 : decode cX1_act 146 = .ok (.invokestatic 69, 3) := by decide +kernel
theorem dX1_act_149 : decode cX1_act 149 = .ok (.goto 4, 3) := by decide +kernel
theorem dX1_act_152 : decode cX1_act 152 = .ok (.iconst 0, 1) := by decide +kernel
theorem dX1_act_153 : decode cX1_act 153 = .ok (.istore 5, 2) := by decide +kernel
theorem dX1_act_155 : decode cX1_act 155 = .ok (.aload_n 0, 1) := by decide +kernel
theorem dX1_act_156 : decode cX1_act 156 = .ok (.iload 5, 2) := by decide +kernel
theorem dX1_act_158 : decode cX1_act 158 = .ok (.ifCond .eq 10, 3) := by decide +kernel
theorem dX1_act_161 : decode cX1_act 161 = .ok (.aload_n 0, 1) := by decide +kernel
theorem dX1_act_162 : decode cX1_act 162 = .ok (.getfield 23, 3) := by decide +kernel
theorem dX1_act_165 : decode cX1_act 165 = .ok (.ifCond .ne 10, 3) := by decide +kernel
theorem dX1_act_168 : decode cX1_act 168 = .ok (.aload_n 0, 1) := by decide +kernel
theorem dX1_act_169 : decode cX1_act 169 = .ok (.getfield 50, 3) := by decide +kernel
theorem dX1_act_172 : decode cX1_act 172 = .ok (.goto 5, 3) := by decide +kernel
theorem dX1_act_175 : decode cX1_act 175 = .ok (.iload 5, 2) := by decide +kernel
theorem dX1_act_177 : decode cX1_act 177 = .ok (.putfield 50, 3) := by decide +kernel
theorem dX1_act_180 : decode cX1_act 180 = .ok (.iload_n 1, 1) := by decide +kernel
theorem dX1_act_181 : decode cX1_act 181 = .ok (.bipush 6, 2) := by decide +kernel
theorem dX1_act_183 : decode cX1_act 183 = .ok (.if_icmp .ne 12, 3) := by decide +kernel
theorem dX1_act_186 : decode cX1_act 186 = .ok (.iload_n 3, 1) := by decide +kernel
theorem dX1_act_187 : decode cX1_act 187 = .ok (.ifCond .ne 8, 3) := by decide +kernel
theorem dX1_act_190 : decode cX1_act 190 = .ok (.aload_n 0, 1) := by decide +kernel
theorem dX1_act_191 : decode cX1_act 191 = .ok (.iconst 0, 1) := by decide +kernel
theorem dX1_act_192 : decode cX1_act 192 = .ok (.putfield 23, 3) := by decide +kernel
theorem dX1_act_195 : decode cX1_act 195 = .ok (.iload_n 3, 1) := by decide +kernel
theorem dX1_act_196 : decode cX1_act 196 = .ok (.ireturn, 1) := by decide +kernel
