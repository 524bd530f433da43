/-! The instructions of the class, decoded. By program (wip/mkdec.py). -/
theorem dX1_init_0 : decode cX1_init 0 = .ok (.aload_n 0, 1) := by decide +kernel
theorem dX1_init_1 : decode cX1_init 1 = .ok (.invokespecial 3, 3) := by decide +kernel
theorem dX1_init_4 : decode cX1_init 4 = .ok (.aload_n 0, 1) := by decide +kernel
theorem dX1_init_5 : decode cX1_init 5 = .ok (.iconst 0, 1) := by decide +kernel
theorem dX1_init_6 : decode cX1_init 6 = .ok (.putfield 9, 3) := by decide +kernel
theorem dX1_init_9 : decode cX1_init 9 = .ok (.aload_n 0, 1) := by decide +kernel
theorem dX1_init_10 : decode cX1_init 10 = .ok (.iconst 0, 1) := by decide +kernel
theorem dX1_init_11 : decode cX1_init 11 = .ok (.putfield 15, 3) := by decide +kernel
theorem dX1_init_14 : decode cX1_init 14 = .ok (.aload_n 0, 1) := by decide +kernel
theorem dX1_init_15 : decode cX1_init 15 = .ok (.iconst 0, 1) := by decide +kernel
theorem dX1_init_16 : decode cX1_init 16 = .ok (.putfield 18, 3) := by decide +kernel
theorem dX1_init_19 : decode cX1_init 19 = .ok (.aload_n 0, 1) := by decide +kernel
theorem dX1_init_20 : decode cX1_init 20 = .ok (.iconst (-1), 1) := by decide +kernel
theorem dX1_init_21 : decode cX1_init 21 = .ok (.putfield 21, 3) := by decide +kernel
theorem dX1_init_24 : decode cX1_init 24 = .ok (.aload_n 0, 1) := by decide +kernel
theorem dX1_init_25 : decode cX1_init 25 = .ok (.iconst 0, 1) := by decide +kernel
theorem dX1_init_26 : decode cX1_init 26 = .ok (.putfield 24, 3) := by decide +kernel
theorem dX1_init_29 : decode cX1_init 29 = .ok (.aload_n 0, 1) := by decide +kernel
theorem dX1_init_30 : decode cX1_init 30 = .ok (.aload_n 1, 1) := by decide +kernel
theorem dX1_init_31 : decode cX1_init 31 = .ok (.putfield 28, 3) := by decide +kernel
theorem dX1_init_34 : decode cX1_init 34 = .ok (.aload_n 0, 1) := by decide +kernel
theorem dX1_init_35 : decode cX1_init 35 = .ok (.aload_n 2, 1) := by decide +kernel
theorem dX1_init_36 : decode cX1_init 36 = .ok (.putfield 32, 3) := by decide +kernel
theorem dX1_init_39 : decode cX1_init 39 = .ok (.return_, 1) := by decide +kernel
theorem dX1_lastFault_0 : decode cX1_lastFault 0 = .ok (.aload_n 0, 1) := by decide +kernel
theorem dX1_lastFault_1 : decode cX1_lastFault 1 = .ok (.getfield 18, 3) := by decide +kernel
theorem dX1_lastFault_4 : decode cX1_lastFault 4 = .ok (.ireturn, 1) := by decide +kernel
theorem dX1_lastFaultPlace_0 : decode cX1_lastFaultPlace 0 = .ok (.aload_n 0, 1) := by decide +kernel
theorem dX1_lastFaultPlace_1 : decode cX1_lastFaultPlace 1 = .ok (.getfield 21, 3) := by decide +kernel
theorem dX1_lastFaultPlace_4 : decode cX1_lastFaultPlace 4 = .ok (.ireturn, 1) := by decide +kernel
theorem dX1_forgetFault_0 : decode cX1_forgetFault 0 = .ok (.aload_n 0, 1) := by decide +kernel
theorem dX1_forgetFault_1 : decode cX1_forgetFault 1 = .ok (.iconst 0, 1) := by decide +kernel
theorem dX1_forgetFault_2 : decode cX1_forgetFault 2 = .ok (.putfield 18, 3) := by decide +kernel
theorem dX1_forgetFault_5 : decode cX1_forgetFault 5 = .ok (.aload_n 0, 1) := by decide +kernel
theorem dX1_forgetFault_6 : decode cX1_forgetFault 6 = .ok (.iconst (-1), 1) := by decide +kernel
theorem dX1_forgetFault_7 : decode cX1_forgetFault 7 = .ok (.putfield 21, 3) := by decide +kernel
theorem dX1_forgetFault_10 : decode cX1_forgetFault 10 = .ok (.return_, 1) := by decide +kernel
theorem dX1_reads_0 : decode cX1_reads 0 = .ok (.aload_n 0, 1) := by decide +kernel
theorem dX1_reads_1 : decode cX1_reads 1 = .ok (.aload_n 1, 1) := by decide +kernel
theorem dX1_reads_2 : decode cX1_reads 2 = .ok (.putfield 28, 3) := by decide +kernel
theorem dX1_reads_5 : decode cX1_reads 5 = .ok (.aload_n 0, 1) := by decide +kernel
theorem dX1_reads_6 : decode cX1_reads 6 = .ok (.iconst 0, 1) := by decide +kernel
theorem dX1_reads_7 : decode cX1_reads 7 = .ok (.putfield 24, 3) := by decide +kernel
theorem dX1_reads_10 : decode cX1_reads 10 = .ok (.aload_n 0, 1) := by decide +kernel
theorem dX1_reads_11 : decode cX1_reads 11 = .ok (.invokevirtual 36, 3) := by decide +kernel
theorem dX1_reads_14 : decode cX1_reads 14 = .ok (.aload_n 0, 1) := by decide +kernel
theorem dX1_reads_15 : decode cX1_reads 15 = .ok (.getfield 32, 3) := by decide +kernel
theorem dX1_reads_18 : decode cX1_reads 18 = .ok (.invokevirtual 39, 3) := by decide +kernel
theorem dX1_reads_21 : decode cX1_reads 21 = .ok (.istore_n 2, 1) := by decide +kernel
theorem dX1_reads_22 : decode cX1_reads 22 = .ok (.aload_n 0, 1) := by decide +kernel
theorem dX1_reads_23 : decode cX1_reads 23 = .ok (.invokevirtual 45, 3) := by decide +kernel
theorem dX1_reads_26 : decode cX1_reads 26 = .ok (.ifCond .eq 21, 3) := by decide +kernel
theorem dX1_reads_29 : decode cX1_reads 29 = .ok (.aload_n 0, 1) := by decide +kernel
theorem dX1_reads_30 : decode cX1_reads 30 = .ok (.invokevirtual 49, 3) := by decide +kernel
theorem dX1_reads_33 : decode cX1_reads 33 = .ok (.ifCond .eq 14, 3) := by decide +kernel
theorem dX1_reads_36 : decode cX1_reads 36 = .ok (.aload_n 0, 1) := by decide +kernel
theorem dX1_reads_37 : decode cX1_reads 37 = .ok (.invokevirtual 52, 3) := by decide +kernel
theorem dX1_reads_40 : decode cX1_reads 40 = .ok (.ifCond .eq 7, 3) := by decide +kernel
theorem dX1_reads_43 : decode cX1_reads 43 = .ok (.iconst 1, 1) := by decide +kernel
theorem dX1_reads_44 : decode cX1_reads 44 = .ok (.goto 4, 3) := by decide +kernel
theorem dX1_reads_47 : decode cX1_reads 47 = .ok (.iconst 0, 1) := by decide +kernel
theorem dX1_reads_48 : decode cX1_reads 48 = .ok (.istore_n 3, 1) := by decide +kernel
theorem dX1_reads_49 : decode cX1_reads 49 = .ok (.aload_n 0, 1) := by decide +kernel
theorem dX1_reads_50 : decode cX1_reads 50 = .ok (.bipush 19, 2) := by decide +kernel
theorem dX1_reads_52 : decode cX1_reads 52 = .ok (.putfield 9, 3) := by decide +kernel
theorem dX1_reads_55 : decode cX1_reads 55 = .ok (.iconst 0, 1) := by decide +kernel
theorem dX1_reads_56 : decode cX1_reads 56 = .ok (.istore 4, 2) := by decide +kernel
theorem dX1_reads_58 : decode cX1_reads 58 = .ok (.iload 4, 2) := by decide +kernel
theorem dX1_reads_60 : decode cX1_reads 60 = .ok (.sipush 300, 3) := by decide +kernel
theorem dX1_reads_63 : decode cX1_reads 63 = .ok (.if_icmp .ge 29, 3) := by decide +kernel
theorem dX1_reads_66 : decode cX1_reads 66 = .ok (.iload_n 3, 1) := by decide +kernel
theorem dX1_reads_67 : decode cX1_reads 67 = .ok (.ifCond .eq 25, 3) := by decide +kernel
theorem dX1_reads_70 : decode cX1_reads 70 = .ok (.aload_n 0, 1) := by decide +kernel
theorem dX1_reads_71 : decode cX1_reads 71 = .ok (.getfield 9, 3) := by decide +kernel
theorem dX1_reads_74 : decode cX1_reads 74 = .ok (.aload_n 0, 1) := by decide +kernel
theorem dX1_reads_75 : decode cX1_reads 75 = .ok (.getfield 15, 3) := by decide +kernel
theorem dX1_reads_78 : decode cX1_reads 78 = .ok (.if_icmp .ge 14, 3) := by decide +kernel
theorem dX1_reads_81 : decode cX1_reads 81 = .ok (.aload_n 0, 1) := by decide +kernel
theorem dX1_reads_82 : decode cX1_reads 82 = .ok (.invokevirtual 55, 3) := by decide +kernel
theorem dX1_reads_85 : decode cX1_reads 85 = .ok (.istore_n 3, 1) := by decide +kernel
theorem dX1_reads_86 : decode cX1_reads 86 = .ok (.iinc 4 1, 3) := by decide +kernel
theorem dX1_reads_89 : decode cX1_reads 89 = .ok (.goto (-31), 3) := by decide +kernel
theorem dX1_reads_92 : decode cX1_reads 92 = .ok (.iload_n 3, 1) := by decide +kernel
theorem dX1_reads_93 : decode cX1_reads 93 = .ok (.ifCond .ne 11, 3) := by decide +kernel
theorem dX1_reads_96 : decode cX1_reads 96 = .ok (.aload_n 0, 1) := by decide +kernel
theorem dX1_reads_97 : decode cX1_reads 97 = .ok (.getfield 32, 3) := by decide +kernel
theorem dX1_reads_100 : decode cX1_reads 100 = .ok (.iload_n 2, 1) := by decide +kernel
theorem dX1_reads_101 : decode cX1_reads 101 = .ok (.invokevirtual 58, 3) := by decide +kernel
theorem dX1_reads_104 : decode cX1_reads 104 = .ok (.iload_n 3, 1) := by decide +kernel
theorem dX1_reads_105 : decode cX1_reads 105 = .ok (.ireturn, 1) := by decide +kernel
theorem dX1_wrong_0 : decode cX1_wrong 0 = .ok (.aload_n 0, 1) := by decide +kernel
theorem dX1_wrong_1 : decode cX1_wrong 1 = .ok (.iload_n 1, 1) := by decide +kernel
theorem dX1_wrong_2 : decode cX1_wrong 2 = .ok (.putfield 18, 3) := by decide +kernel
theorem dX1_wrong_5 : decode cX1_wrong 5 = .ok (.aload_n 0, 1) := by decide +kernel
theorem dX1_wrong_6 : decode cX1_wrong 6 = .ok (.iload_n 2, 1) := by decide +kernel
theorem dX1_wrong_7 : decode cX1_wrong 7 = .ok (.putfield 21, 3) := by decide +kernel
theorem dX1_wrong_10 : decode cX1_wrong 10 = .ok (.iconst 0, 1) := by decide +kernel
theorem dX1_wrong_11 : decode cX1_wrong 11 = .ok (.ireturn, 1) := by decide +kernel
theorem dX1_frameIsWell_0 : decode cX1_frameIsWell 0 = .ok (.aload_n 0, 1) := by decide +kernel
theorem dX1_frameIsWell_1 : decode cX1_frameIsWell 1 = .ok (.getfield 28, 3) := by decide +kernel
theorem dX1_frameIsWell_4 : decode cX1_frameIsWell 4 = .ok (.iconst 1, 1) := by decide +kernel
theorem dX1_frameIsWell_5 : decode cX1_frameIsWell 5 = .ok (.invokevirtual 62, 3) := by decide +kernel
theorem dX1_frameIsWell_8 : decode cX1_frameIsWell 8 = .ok (.istore_n 1, 1) := by decide +kernel
theorem dX1_frameIsWell_9 : decode cX1_frameIsWell 9 = .ok (.aload_n 0, 1) := by decide +kernel
theorem dX1_frameIsWell_10 : decode cX1_frameIsWell 10 = .ok (.getfield 28, 3) := by decide +kernel
theorem dX1_frameIsWell_13 : decode cX1_frameIsWell 13 = .ok (.iconst 0, 1) := by decide +kernel
theorem dX1_frameIsWell_14 : decode cX1_frameIsWell 14 = .ok (.invokevirtual 62, 3) := by decide +kernel
theorem dX1_frameIsWell_17 : decode cX1_frameIsWell 17 = .ok (.bipush 104, 2) := by decide +kernel
theorem dX1_frameIsWell_19 : decode cX1_frameIsWell 19 = .ok (.if_icmp .eq 10, 3) := by decide +kernel
theorem dX1_frameIsWell_22 : decode cX1_frameIsWell 22 = .ok (.aload_n 0, 1) := by decide +kernel
theorem dX1_frameIsWell_23 : decode cX1_frameIsWell 23 = .ok (.iconst 1, 1) := by decide +kernel
theorem dX1_frameIsWell_24 : decode cX1_frameIsWell 24 = .ok (.iconst 0, 1) := by decide +kernel
theorem dX1_frameIsWell_25 : decode cX1_frameIsWell 25 = .ok (.invokevirtual 67, 3) := by decide +kernel
theorem dX1_frameIsWell_28 : decode cX1_frameIsWell 28 = .ok (.ireturn, 1) := by decide +kernel
theorem dX1_frameIsWell_29 : decode cX1_frameIsWell 29 = .ok (.iload_n 1, 1) := by decide +kernel
theorem dX1_frameIsWell_30 : decode cX1_frameIsWell 30 = .ok (.bipush 15, 2) := by decide +kernel
theorem dX1_frameIsWell_32 : decode cX1_frameIsWell 32 = .ok (.if_icmp .lt 10, 3) := by decide +kernel
theorem dX1_frameIsWell_35 : decode cX1_frameIsWell 35 = .ok (.iload_n 1, 1) := by decide +kernel
theorem dX1_frameIsWell_36 : decode cX1_frameIsWell 36 = .ok (.sipush 252, 3) := by decide +kernel
theorem dX1_frameIsWell_39 : decode cX1_frameIsWell 39 = .ok (.if_icmp .le 10, 3) := by decide +kernel
theorem dX1_frameIsWell_42 : decode cX1_frameIsWell 42 = .ok (.aload_n 0, 1) := by decide +kernel
theorem dX1_frameIsWell_43 : decode cX1_frameIsWell 43 = .ok (.iconst 1, 1) := by decide +kernel
theorem dX1_frameIsWell_44 : decode cX1_frameIsWell 44 = .ok (.iconst 1, 1) := by decide +kernel
theorem dX1_frameIsWell_45 : decode cX1_frameIsWell 45 = .ok (.invokevirtual 67, 3) := by decide +kernel
theorem dX1_frameIsWell_48 : decode cX1_frameIsWell 48 = .ok (.ireturn, 1) := by decide +kernel
theorem dX1_frameIsWell_49 : decode cX1_frameIsWell 49 = .ok (.aload_n 0, 1) := by decide +kernel
theorem dX1_frameIsWell_50 : decode cX1_frameIsWell 50 = .ok (.getfield 28, 3) := by decide +kernel
theorem dX1_frameIsWell_53 : decode cX1_frameIsWell 53 = .ok (.iconst 2, 1) := by decide +kernel
theorem dX1_frameIsWell_54 : decode cX1_frameIsWell 54 = .ok (.invokevirtual 62, 3) := by decide +kernel
theorem dX1_frameIsWell_57 : decode cX1_frameIsWell 57 = .ok (.iload_n 1, 1) := by decide +kernel
theorem dX1_frameIsWell_58 : decode cX1_frameIsWell 58 = .ok (.if_icmp .eq 10, 3) := by decide +kernel
theorem dX1_frameIsWell_61 : decode cX1_frameIsWell 61 = .ok (.aload_n 0, 1) := by decide +kernel
theorem dX1_frameIsWell_62 : decode cX1_frameIsWell 62 = .ok (.iconst 1, 1) := by decide +kernel
theorem dX1_frameIsWell_63 : decode cX1_frameIsWell 63 = .ok (.iconst 2, 1) := by decide +kernel
theorem dX1_frameIsWell_64 : decode cX1_frameIsWell 64 = .ok (.invokevirtual 67, 3) := by decide +kernel
theorem dX1_frameIsWell_67 : decode cX1_frameIsWell 67 = .ok (.ireturn, 1) := by decide +kernel
theorem dX1_frameIsWell_68 : decode cX1_frameIsWell 68 = .ok (.aload_n 0, 1) := by decide +kernel
theorem dX1_frameIsWell_69 : decode cX1_frameIsWell 69 = .ok (.getfield 28, 3) := by decide +kernel
theorem dX1_frameIsWell_72 : decode cX1_frameIsWell 72 = .ok (.iconst 3, 1) := by decide +kernel
theorem dX1_frameIsWell_73 : decode cX1_frameIsWell 73 = .ok (.invokevirtual 62, 3) := by decide +kernel
theorem dX1_frameIsWell_76 : decode cX1_frameIsWell 76 = .ok (.bipush 104, 2) := by decide +kernel
theorem dX1_frameIsWell_78 : decode cX1_frameIsWell 78 = .ok (.if_icmp .eq 10, 3) := by decide +kernel
theorem dX1_frameIsWell_81 : decode cX1_frameIsWell 81 = .ok (.aload_n 0, 1) := by decide +kernel
theorem dX1_frameIsWell_82 : decode cX1_frameIsWell 82 = .ok (.iconst 1, 1) := by decide +kernel
theorem dX1_frameIsWell_83 : decode cX1_frameIsWell 83 = .ok (.iconst 3, 1) := by decide +kernel
theorem dX1_frameIsWell_84 : decode cX1_frameIsWell 84 = .ok (.invokevirtual 67, 3) := by decide +kernel
theorem dX1_frameIsWell_87 : decode cX1_frameIsWell 87 = .ok (.ireturn, 1) := by decide +kernel
theorem dX1_frameIsWell_88 : decode cX1_frameIsWell 88 = .ok (.aload_n 0, 1) := by decide +kernel
theorem dX1_frameIsWell_89 : decode cX1_frameIsWell 89 = .ok (.getfield 28, 3) := by decide +kernel
theorem dX1_frameIsWell_92 : decode cX1_frameIsWell 92 = .ok (.invokevirtual 71, 3) := by decide +kernel
theorem dX1_frameIsWell_95 : decode cX1_frameIsWell 95 = .ok (.iload_n 1, 1) := by decide +kernel
theorem dX1_frameIsWell_96 : decode cX1_frameIsWell 96 = .ok (.bipush 6, 2) := by decide +kernel
theorem dX1_frameIsWell_98 : decode cX1_frameIsWell 98 = .ok (.iadd, 1) := by decide +kernel
theorem dX1_frameIsWell_99 : decode cX1_frameIsWell 99 = .ok (.if_icmp .eq 23, 3) := by decide +kernel
theorem dX1_frameIsWell_102 : decode cX1_frameIsWell 102 = .ok (.aload_n 0, 1) := by decide +kernel
theorem dX1_frameIsWell_103 : decode cX1_frameIsWell 103 = .ok (.iconst 1, 1) := by decide +kernel
theorem dX1_frameIsWell_104 : decode cX1_frameIsWell 104 = .ok (.aload_n 0, 1) := by decide +kernel
theorem dX1_frameIsWell_105 : decode cX1_frameIsWell 105 = .ok (.getfield 28, 3) := by decide +kernel
theorem dX1_frameIsWell_108 : decode cX1_frameIsWell 108 = .ok (.invokevirtual 71, 3) := by decide +kernel
theorem dX1_frameIsWell_111 : decode cX1_frameIsWell 111 = .ok (.iload_n 1, 1) := by decide +kernel
theorem dX1_frameIsWell_112 : decode cX1_frameIsWell 112 = .ok (.bipush 6, 2) := by decide +kernel
theorem dX1_frameIsWell_114 : decode cX1_frameIsWell 114 = .ok (.iadd, 1) := by decide +kernel
theorem dX1_frameIsWell_115 : decode cX1_frameIsWell 115 = .ok (.invokestatic 72, 3) := by decide +kernel
theorem dX1_frameIsWell_118 : decode cX1_frameIsWell 118 = .ok (.invokevirtual 67, 3) := by decide +kernel
theorem dX1_frameIsWell_121 : decode cX1_frameIsWell 121 = .ok (.ireturn, 1) := by decide +kernel
theorem dX1_frameIsWell_122 : decode cX1_frameIsWell 122 = .ok (.aload_n 0, 1) := by decide +kernel
theorem dX1_frameIsWell_123 : decode cX1_frameIsWell 123 = .ok (.getfield 28, 3) := by decide +kernel
theorem dX1_frameIsWell_126 : decode cX1_frameIsWell 126 = .ok (.iconst 4, 1) := by decide +kernel
theorem dX1_frameIsWell_127 : decode cX1_frameIsWell 127 = .ok (.invokevirtual 62, 3) := by decide +kernel
theorem dX1_frameIsWell_130 : decode cX1_frameIsWell 130 = .ok (.bipush 8, 2) := by decide +kernel
theorem dX1_frameIsWell_132 : decode cX1_frameIsWell 132 = .ok (.if_icmp .eq 10, 3) := by decide +kernel
theorem dX1_frameIsWell_135 : decode cX1_frameIsWell 135 = .ok (.aload_n 0, 1) := by decide +kernel
theorem dX1_frameIsWell_136 : decode cX1_frameIsWell 136 = .ok (.iconst 1, 1) := by decide +kernel
theorem dX1_frameIsWell_137 : decode cX1_frameIsWell 137 = .ok (.iconst 4, 1) := by decide +kernel
theorem dX1_frameIsWell_138 : decode cX1_frameIsWell 138 = .ok (.invokevirtual 67, 3) := by decide +kernel
theorem dX1_frameIsWell_141 : decode cX1_frameIsWell 141 = .ok (.ireturn, 1) := by decide +kernel
theorem dX1_frameIsWell_142 : decode cX1_frameIsWell 142 = .ok (.aload_n 0, 1) := by decide +kernel
theorem dX1_frameIsWell_143 : decode cX1_frameIsWell 143 = .ok (.getfield 28, 3) := by decide +kernel
theorem dX1_frameIsWell_146 : decode cX1_frameIsWell 146 = .ok (.bipush 6, 2) := by decide +kernel
theorem dX1_frameIsWell_148 : decode cX1_frameIsWell 148 = .ok (.invokevirtual 62, 3) := by decide +kernel
theorem dX1_frameIsWell_151 : decode cX1_frameIsWell 151 = .ok (.bipush 114, 2) := by decide +kernel
theorem dX1_frameIsWell_153 : decode cX1_frameIsWell 153 = .ok (.if_icmp .eq 11, 3) := by decide +kernel
theorem dX1_frameIsWell_156 : decode cX1_frameIsWell 156 = .ok (.aload_n 0, 1) := by decide +kernel
theorem dX1_frameIsWell_157 : decode cX1_frameIsWell 157 = .ok (.iconst 1, 1) := by decide +kernel
theorem dX1_frameIsWell_158 : decode cX1_frameIsWell 158 = .ok (.bipush 6, 2) := by decide +kernel
theorem dX1_frameIsWell_160 : decode cX1_frameIsWell 160 = .ok (.invokevirtual 67, 3) := by decide +kernel
theorem dX1_frameIsWell_163 : decode cX1_frameIsWell 163 = .ok (.ireturn, 1) := by decide +kernel
theorem dX1_frameIsWell_164 : decode cX1_frameIsWell 164 = .ok (.aload_n 0, 1) := by decide +kernel
theorem dX1_frameIsWell_165 : decode cX1_frameIsWell 165 = .ok (.iload_n 1, 1) := by decide +kernel
theorem dX1_frameIsWell_166 : decode cX1_frameIsWell 166 = .ok (.iconst 4, 1) := by decide +kernel
theorem dX1_frameIsWell_167 : decode cX1_frameIsWell 167 = .ok (.iadd, 1) := by decide +kernel
theorem dX1_frameIsWell_168 : decode cX1_frameIsWell 168 = .ok (.putfield 15, 3) := by decide +kernel
theorem dX1_frameIsWell_171 : decode cX1_frameIsWell 171 = .ok (.aload_n 0, 1) := by decide +kernel
theorem dX1_frameIsWell_172 : decode cX1_frameIsWell 172 = .ok (.getfield 28, 3) := by decide +kernel
theorem dX1_frameIsWell_175 : decode cX1_frameIsWell 175 = .ok (.aload_n 0, 1) := by decide +kernel
theorem dX1_frameIsWell_176 : decode cX1_frameIsWell 176 = .ok (.getfield 15, 3) := by decide +kernel
theorem dX1_frameIsWell_179 : decode cX1_frameIsWell 179 = .ok (.iconst 1, 1) := by decide +kernel
theorem dX1_frameIsWell_180 : decode cX1_frameIsWell 180 = .ok (.iadd, 1) := by decide +kernel
theorem dX1_frameIsWell_181 : decode cX1_frameIsWell 181 = .ok (.invokevirtual 62, 3) := by decide +kernel
theorem dX1_frameIsWell_184 : decode cX1_frameIsWell 184 = .ok (.bipush 22, 2) := by decide +kernel
theorem dX1_frameIsWell_186 : decode cX1_frameIsWell 186 = .ok (.if_icmp .eq 17, 3) := by decide +kernel
theorem dX1_frameIsWell_189 : decode cX1_frameIsWell 189 = .ok (.aload_n 0, 1) := by decide +kernel
theorem dX1_frameIsWell_190 : decode cX1_frameIsWell 190 = .ok (.iconst 1, 1) := by decide +kernel
theorem dX1_frameIsWell_191 : decode cX1_frameIsWell 191 = .ok (.aload_n 0, 1) := by decide +kernel
theorem dX1_frameIsWell_192 : decode cX1_frameIsWell 192 = .ok (.getfield 15, 3) := by decide +kernel
theorem dX1_frameIsWell_195 : decode cX1_frameIsWell 195 = .ok (.iconst 1, 1) := by decide +kernel
theorem dX1_frameIsWell_196 : decode cX1_frameIsWell 196 = .ok (.iadd, 1) := by decide +kernel
theorem dX1_frameIsWell_197 : decode cX1_frameIsWell 197 = .ok (.invokevirtual 67, 3) := by decide +kernel
theorem dX1_frameIsWell_200 : decode cX1_frameIsWell 200 = .ok (.ifCond .eq 7, 3) := by decide +kernel
theorem dX1_frameIsWell_203 : decode cX1_frameIsWell 203 = .ok (.iconst 1, 1) := by decide +kernel
theorem dX1_frameIsWell_204 : decode cX1_frameIsWell 204 = .ok (.goto 4, 3) := by decide +kernel
theorem dX1_frameIsWell_207 : decode cX1_frameIsWell 207 = .ok (.iconst 0, 1) := by decide +kernel
theorem dX1_frameIsWell_208 : decode cX1_frameIsWell 208 = .ok (.ireturn, 1) := by decide +kernel
theorem dX4_init_0 : decode cX4_init 0 = .ok (.aload_n 0, 1) := by decide +kernel
theorem dX4_init_1 : decode cX4_init 1 = .ok (.invokespecial 3, 3) := by decide +kernel
theorem dX4_init_4 : decode cX4_init 4 = .ok (.aload_n 0, 1) := by decide +kernel
theorem dX4_init_5 : decode cX4_init 5 = .ok (.bipush 101, 2) := by decide +kernel
theorem dX4_init_7 : decode cX4_init 7 = .ok (.anewarray 9, 3) := by decide +kernel
theorem dX4_init_10 : decode cX4_init 10 = .ok (.putfield 11, 3) := by decide +kernel
theorem dX4_init_13 : decode cX4_init 13 = .ok (.aload_n 0, 1) := by decide +kernel
theorem dX4_init_14 : decode cX4_init 14 = .ok (.iconst 0, 1) := by decide +kernel
theorem dX4_init_15 : decode cX4_init 15 = .ok (.putfield 17, 3) := by decide +kernel
theorem dX4_init_18 : decode cX4_init 18 = .ok (.return_, 1) := by decide +kernel
theorem dX4_size_0 : decode cX4_size 0 = .ok (.aload_n 0, 1) := by decide +kernel
theorem dX4_size_1 : decode cX4_size 1 = .ok (.getfield 17, 3) := by decide +kernel
theorem dX4_size_4 : decode cX4_size 4 = .ok (.ireturn, 1) := by decide +kernel
theorem dX4_at_0 : decode cX4_at 0 = .ok (.iload_n 1, 1) := by decide +kernel
theorem dX4_at_1 : decode cX4_at 1 = .ok (.ifCond .lt 29, 3) := by decide +kernel
theorem dX4_at_4 : decode cX4_at 4 = .ok (.iload_n 1, 1) := by decide +kernel
theorem dX4_at_5 : decode cX4_at 5 = .ok (.aload_n 0, 1) := by decide +kernel
theorem dX4_at_6 : decode cX4_at 6 = .ok (.getfield 17, 3) := by decide +kernel
theorem dX4_at_9 : decode cX4_at 9 = .ok (.if_icmp .ge 21, 3) := by decide +kernel
theorem dX4_at_12 : decode cX4_at 12 = .ok (.iload_n 1, 1) := by decide +kernel
theorem dX4_at_13 : decode cX4_at 13 = .ok (.aload_n 0, 1) := by decide +kernel
theorem dX4_at_14 : decode cX4_at 14 = .ok (.getfield 11, 3) := by decide +kernel
theorem dX4_at_17 : decode cX4_at 17 = .ok (.arraylength, 1) := by decide +kernel
theorem dX4_at_18 : decode cX4_at 18 = .ok (.if_icmp .ge 12, 3) := by decide +kernel
theorem dX4_at_21 : decode cX4_at 21 = .ok (.aload_n 0, 1) := by decide +kernel
theorem dX4_at_22 : decode cX4_at 22 = .ok (.getfield 11, 3) := by decide +kernel
theorem dX4_at_25 : decode cX4_at 25 = .ok (.iload_n 1, 1) := by decide +kernel
theorem dX4_at_26 : decode cX4_at 26 = .ok (.aaload, 1) := by decide +kernel
theorem dX4_at_27 : decode cX4_at 27 = .ok (.goto 4, 3) := by decide +kernel
theorem dX4_at_30 : decode cX4_at 30 = .ok (.aconst_null, 1) := by decide +kernel
theorem dX4_at_31 : decode cX4_at 31 = .ok (.areturn, 1) := by decide +kernel
theorem dX4_draft_0 : decode cX4_draft 0 = .ok (.aload_n 0, 1) := by decide +kernel
theorem dX4_draft_1 : decode cX4_draft 1 = .ok (.getfield 17, 3) := by decide +kernel
theorem dX4_draft_4 : decode cX4_draft 4 = .ok (.bipush 100, 2) := by decide +kernel
theorem dX4_draft_6 : decode cX4_draft 6 = .ok (.invokestatic 21, 3) := by decide +kernel
theorem dX4_draft_9 : decode cX4_draft 9 = .ok (.istore_n 1, 1) := by decide +kernel
theorem dX4_draft_10 : decode cX4_draft 10 = .ok (.aload_n 0, 1) := by decide +kernel
theorem dX4_draft_11 : decode cX4_draft 11 = .ok (.getfield 11, 3) := by decide +kernel
theorem dX4_draft_14 : decode cX4_draft 14 = .ok (.iload_n 1, 1) := by decide +kernel
theorem dX4_draft_15 : decode cX4_draft 15 = .ok (.aaload, 1) := by decide +kernel
theorem dX4_draft_16 : decode cX4_draft 16 = .ok (.ifnonnull 16, 3) := by decide +kernel
theorem dX4_draft_19 : decode cX4_draft 19 = .ok (.aload_n 0, 1) := by decide +kernel
theorem dX4_draft_20 : decode cX4_draft 20 = .ok (.getfield 11, 3) := by decide +kernel
theorem dX4_draft_23 : decode cX4_draft 23 = .ok (.iload_n 1, 1) := by decide +kernel
theorem dX4_draft_24 : decode cX4_draft 24 = .ok (.new 9, 3) := by decide +kernel
theorem dX4_draft_27 : decode cX4_draft 27 = .ok (.dup, 1) := by decide +kernel
theorem dX4_draft_28 : decode cX4_draft 28 = .ok (.invokespecial 27, 3) := by decide +kernel
theorem dX4_draft_31 : decode cX4_draft 31 = .ok (.aastore, 1) := by decide +kernel
theorem dX4_draft_32 : decode cX4_draft 32 = .ok (.aload_n 0, 1) := by decide +kernel
theorem dX4_draft_33 : decode cX4_draft 33 = .ok (.getfield 11, 3) := by decide +kernel
theorem dX4_draft_36 : decode cX4_draft 36 = .ok (.iload_n 1, 1) := by decide +kernel
theorem dX4_draft_37 : decode cX4_draft 37 = .ok (.aaload, 1) := by decide +kernel
theorem dX4_draft_38 : decode cX4_draft 38 = .ok (.areturn, 1) := by decide +kernel
theorem dX4_takesDraft_0 : decode cX4_takesDraft 0 = .ok (.aload_n 0, 1) := by decide +kernel
theorem dX4_takesDraft_1 : decode cX4_takesDraft 1 = .ok (.getfield 17, 3) := by decide +kernel
theorem dX4_takesDraft_4 : decode cX4_takesDraft 4 = .ok (.bipush 100, 2) := by decide +kernel
theorem dX4_takesDraft_6 : decode cX4_takesDraft 6 = .ok (.if_icmp .lt 5, 3) := by decide +kernel
theorem dX4_takesDraft_9 : decode cX4_takesDraft 9 = .ok (.iconst 0, 1) := by decide +kernel
theorem dX4_takesDraft_10 : decode cX4_takesDraft 10 = .ok (.ireturn, 1) := by decide +kernel
theorem dX4_takesDraft_11 : decode cX4_takesDraft 11 = .ok (.aload_n 0, 1) := by decide +kernel
theorem dX4_takesDraft_12 : decode cX4_takesDraft 12 = .ok (.dup, 1) := by decide +kernel
theorem dX4_takesDraft_13 : decode cX4_takesDraft 13 = .ok (.getfield 17, 3) := by decide +kernel
theorem dX4_takesDraft_16 : decode cX4_takesDraft 16 = .ok (.iconst 1, 1) := by decide +kernel
theorem dX4_takesDraft_17 : decode cX4_takesDraft 17 = .ok (.iadd, 1) := by decide +kernel
theorem dX4_takesDraft_18 : decode cX4_takesDraft 18 = .ok (.putfield 17, 3) := by decide +kernel
theorem dX4_takesDraft_21 : decode cX4_takesDraft 21 = .ok (.iconst 1, 1) := by decide +kernel
theorem dX4_takesDraft_22 : decode cX4_takesDraft 22 = .ok (.ireturn, 1) := by decide +kernel
theorem dX4_cutTo_0 : decode cX4_cutTo 0 = .ok (.iload_n 1, 1) := by decide +kernel
theorem dX4_cutTo_1 : decode cX4_cutTo 1 = .ok (.ifCond .lt 16, 3) := by decide +kernel
theorem dX4_cutTo_4 : decode cX4_cutTo 4 = .ok (.iload_n 1, 1) := by decide +kernel
theorem dX4_cutTo_5 : decode cX4_cutTo 5 = .ok (.aload_n 0, 1) := by decide +kernel
theorem dX4_cutTo_6 : decode cX4_cutTo 6 = .ok (.getfield 17, 3) := by decide +kernel
theorem dX4_cutTo_9 : decode cX4_cutTo 9 = .ok (.if_icmp .ge 8, 3) := by decide +kernel
theorem dX4_cutTo_12 : decode cX4_cutTo 12 = .ok (.aload_n 0, 1) := by decide +kernel
theorem dX4_cutTo_13 : decode cX4_cutTo 13 = .ok (.iload_n 1, 1) := by decide +kernel
theorem dX4_cutTo_14 : decode cX4_cutTo 14 = .ok (.putfield 17, 3) := by decide +kernel
theorem dX4_cutTo_17 : decode cX4_cutTo 17 = .ok (.return_, 1) := by decide +kernel
