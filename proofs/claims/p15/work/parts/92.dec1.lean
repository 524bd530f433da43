/-! The instructions of the class, decoded. By program (wip/mkdec.py). -/
theorem dX1_endsByMore_0 : decode cX1_endsByMore 0 = .ok (.aload_n 0, 1) := by decide +kernel
theorem dX1_endsByMore_1 : decode cX1_endsByMore 1 = .ok (.getfield 24, 3) := by decide +kernel
theorem dX1_endsByMore_4 : decode cX1_endsByMore 4 = .ok (.ireturn, 1) := by decide +kernel
theorem dX1_sumIsWell_0 : decode cX1_sumIsWell 0 = .ok (.aload_n 0, 1) := by decide +kernel
theorem dX1_sumIsWell_1 : decode cX1_sumIsWell 1 = .ok (.getfield 28, 3) := by decide +kernel
theorem dX1_sumIsWell_4 : decode cX1_sumIsWell 4 = .ok (.aload_n 0, 1) := by decide +kernel
theorem dX1_sumIsWell_5 : decode cX1_sumIsWell 5 = .ok (.getfield 15, 3) := by decide +kernel
theorem dX1_sumIsWell_8 : decode cX1_sumIsWell 8 = .ok (.invokevirtual 62, 3) := by decide +kernel
theorem dX1_sumIsWell_11 : decode cX1_sumIsWell 11 = .ok (.aload_n 0, 1) := by decide +kernel
theorem dX1_sumIsWell_12 : decode cX1_sumIsWell 12 = .ok (.getfield 28, 3) := by decide +kernel
theorem dX1_sumIsWell_15 : decode cX1_sumIsWell 15 = .ok (.iconst 4, 1) := by decide +kernel
theorem dX1_sumIsWell_16 : decode cX1_sumIsWell 16 = .ok (.aload_n 0, 1) := by decide +kernel
theorem dX1_sumIsWell_17 : decode cX1_sumIsWell 17 = .ok (.getfield 15, 3) := by decide +kernel
theorem dX1_sumIsWell_20 : decode cX1_sumIsWell 20 = .ok (.invokevirtual 78, 3) := by decide +kernel
theorem dX1_sumIsWell_23 : decode cX1_sumIsWell 23 = .ok (.if_icmp .eq 15, 3) := by decide +kernel
theorem dX1_sumIsWell_26 : decode cX1_sumIsWell 26 = .ok (.aload_n 0, 1) := by decide +kernel
theorem dX1_sumIsWell_27 : decode cX1_sumIsWell 27 = .ok (.iconst 2, 1) := by decide +kernel
theorem dX1_sumIsWell_28 : decode cX1_sumIsWell 28 = .ok (.aload_n 0, 1) := by decide +kernel
theorem dX1_sumIsWell_29 : decode cX1_sumIsWell 29 = .ok (.getfield 15, 3) := by decide +kernel
theorem dX1_sumIsWell_32 : decode cX1_sumIsWell 32 = .ok (.invokevirtual 67, 3) := by decide +kernel
theorem dX1_sumIsWell_35 : decode cX1_sumIsWell 35 = .ok (.ifCond .eq 7, 3) := by decide +kernel
theorem dX1_sumIsWell_38 : decode cX1_sumIsWell 38 = .ok (.iconst 1, 1) := by decide +kernel
theorem dX1_sumIsWell_39 : decode cX1_sumIsWell 39 = .ok (.goto 4, 3) := by decide +kernel
theorem dX1_sumIsWell_42 : decode cX1_sumIsWell 42 = .ok (.iconst 0, 1) := by decide +kernel
theorem dX1_sumIsWell_43 : decode cX1_sumIsWell 43 = .ok (.ireturn, 1) := by decide +kernel
theorem dX1_identIsWell_0 : decode cX1_identIsWell 0 = .ok (.bipush 7, 2) := by decide +kernel
theorem dX1_identIsWell_2 : decode cX1_identIsWell 2 = .ok (.istore_n 1, 1) := by decide +kernel
theorem dX1_identIsWell_3 : decode cX1_identIsWell 3 = .ok (.iload_n 1, 1) := by decide +kernel
theorem dX1_identIsWell_4 : decode cX1_identIsWell 4 = .ok (.bipush 11, 2) := by decide +kernel
theorem dX1_identIsWell_6 : decode cX1_identIsWell 6 = .ok (.if_icmp .ge 30, 3) := by decide +kernel
theorem dX1_identIsWell_9 : decode cX1_identIsWell 9 = .ok (.aload_n 0, 1) := by decide +kernel
theorem dX1_identIsWell_10 : decode cX1_identIsWell 10 = .ok (.getfield 28, 3) := by decide +kernel
theorem dX1_identIsWell_13 : decode cX1_identIsWell 13 = .ok (.iload_n 1, 1) := by decide +kernel
theorem dX1_identIsWell_14 : decode cX1_identIsWell 14 = .ok (.invokevirtual 62, 3) := by decide +kernel
theorem dX1_identIsWell_17 : decode cX1_identIsWell 17 = .ok (.invokestatic 81, 3) := by decide +kernel
theorem dX1_identIsWell_20 : decode cX1_identIsWell 20 = .ok (.ifCond .ne 10, 3) := by decide +kernel
theorem dX1_identIsWell_23 : decode cX1_identIsWell 23 = .ok (.aload_n 0, 1) := by decide +kernel
theorem dX1_identIsWell_24 : decode cX1_identIsWell 24 = .ok (.iconst 3, 1) := by decide +kernel
theorem dX1_identIsWell_25 : decode cX1_identIsWell 25 = .ok (.iload_n 1, 1) := by decide +kernel
theorem dX1_identIsWell_26 : decode cX1_identIsWell 26 = .ok (.invokevirtual 67, 3) := by decide +kernel
theorem dX1_identIsWell_29 : decode cX1_identIsWell 29 = .ok (.ireturn, 1) := by decide +kernel
theorem dX1_identIsWell_30 : decode cX1_identIsWell 30 = .ok (.iinc 1 1, 3) := by decide +kernel
theorem dX1_identIsWell_33 : decode cX1_identIsWell 33 = .ok (.goto (-30), 3) := by decide +kernel
theorem dX1_identIsWell_36 : decode cX1_identIsWell 36 = .ok (.iconst 1, 1) := by decide +kernel
theorem dX1_identIsWell_37 : decode cX1_identIsWell 37 = .ok (.ireturn, 1) := by decide +kernel
theorem dX1_readItem_0 : decode cX1_readItem 0 = .ok (.aload_n 0, 1) := by decide +kernel
theorem dX1_readItem_1 : decode cX1_readItem 1 = .ok (.getfield 9, 3) := by decide +kernel
theorem dX1_readItem_4 : decode cX1_readItem 4 = .ok (.istore_n 1, 1) := by decide +kernel
theorem dX1_readItem_5 : decode cX1_readItem 5 = .ok (.aload_n 0, 1) := by decide +kernel
theorem dX1_readItem_6 : decode cX1_readItem 6 = .ok (.invokevirtual 85, 3) := by decide +kernel
theorem dX1_readItem_9 : decode cX1_readItem 9 = .ok (.istore_n 2, 1) := by decide +kernel
theorem dX1_readItem_10 : decode cX1_readItem 10 = .ok (.iload_n 2, 1) := by decide +kernel
theorem dX1_readItem_11 : decode cX1_readItem 11 = .ok (.bipush 47, 2) := by decide +kernel
theorem dX1_readItem_13 : decode cX1_readItem 13 = .ok (.if_icmp .ne 5, 3) := by decide +kernel
theorem dX1_readItem_16 : decode cX1_readItem 16 = .ok (.iconst 1, 1) := by decide +kernel
theorem dX1_readItem_17 : decode cX1_readItem 17 = .ok (.ireturn, 1) := by decide +kernel
theorem dX1_readItem_18 : decode cX1_readItem 18 = .ok (.iload_n 2, 1) := by decide +kernel
theorem dX1_readItem_19 : decode cX1_readItem 19 = .ok (.bipush 31, 2) := by decide +kernel
theorem dX1_readItem_21 : decode cX1_readItem 21 = .ok (.if_icmp .ne 37, 3) := by decide +kernel
theorem dX1_readItem_24 : decode cX1_readItem 24 = .ok (.aload_n 0, 1) := by decide +kernel
theorem dX1_readItem_25 : decode cX1_readItem 25 = .ok (.iconst 1, 1) := by decide +kernel
theorem dX1_readItem_26 : decode cX1_readItem 26 = .ok (.putfield 24, 3) := by decide +kernel
theorem dX1_readItem_29 : decode cX1_readItem 29 = .ok (.aload_n 0, 1) := by decide +kernel
theorem dX1_readItem_30 : decode cX1_readItem 30 = .ok (.getfield 9, 3) := by decide +kernel
theorem dX1_readItem_33 : decode cX1_readItem 33 = .ok (.aload_n 0, 1) := by decide +kernel
theorem dX1_readItem_34 : decode cX1_readItem 34 = .ok (.getfield 15, 3) := by decide +kernel
theorem dX1_readItem_37 : decode cX1_readItem 37 = .ok (.if_icmp .eq 15, 3) := by decide +kernel
theorem dX1_readItem_40 : decode cX1_readItem 40 = .ok (.aload_n 0, 1) := by decide +kernel
theorem dX1_readItem_41 : decode cX1_readItem 41 = .ok (.iconst 4, 1) := by decide +kernel
theorem dX1_readItem_42 : decode cX1_readItem 42 = .ok (.aload_n 0, 1) := by decide +kernel
theorem dX1_readItem_43 : decode cX1_readItem 43 = .ok (.getfield 9, 3) := by decide +kernel
theorem dX1_readItem_46 : decode cX1_readItem 46 = .ok (.invokevirtual 67, 3) := by decide +kernel
theorem dX1_readItem_49 : decode cX1_readItem 49 = .ok (.ifCond .eq 7, 3) := by decide +kernel
theorem dX1_readItem_52 : decode cX1_readItem 52 = .ok (.iconst 1, 1) := by decide +kernel
theorem dX1_readItem_53 : decode cX1_readItem 53 = .ok (.goto 4, 3) := by decide +kernel
theorem dX1_readItem_56 : decode cX1_readItem 56 = .ok (.iconst 0, 1) := by decide +kernel
theorem dX1_readItem_57 : decode cX1_readItem 57 = .ok (.ireturn, 1) := by decide +kernel
theorem dX1_readItem_58 : decode cX1_readItem 58 = .ok (.aload_n 0, 1) := by decide +kernel
theorem dX1_readItem_59 : decode cX1_readItem 59 = .ok (.getfield 32, 3) := by decide +kernel
theorem dX1_readItem_62 : decode cX1_readItem 62 = .ok (.invokevirtual 88, 3) := by decide +kernel
theorem dX1_readItem_65 : decode cX1_readItem 65 = .ok (.astore_n 3, 1) := by decide +kernel
theorem dX1_readItem_66 : decode cX1_readItem 66 = .ok (.aload_n 3, 1) := by decide +kernel
theorem dX1_readItem_67 : decode cX1_readItem 67 = .ok (.iload_n 2, 1) := by decide +kernel
theorem dX1_readItem_68 : decode cX1_readItem 68 = .ok (.invokevirtual 92, 3) := by decide +kernel
theorem dX1_readItem_71 : decode cX1_readItem 71 = .ok (.iload_n 2, 1) := by decide +kernel
theorem dX1_readItem_72 : decode cX1_readItem 72 = .ok (.bipush 15, 2) := by decide +kernel
theorem dX1_readItem_74 : decode cX1_readItem 74 = .ok (.if_icmp .ne 22, 3) := by decide +kernel
theorem dX1_readItem_77 : decode cX1_readItem 77 = .ok (.aload_n 0, 1) := by decide +kernel
theorem dX1_readItem_78 : decode cX1_readItem 78 = .ok (.aload_n 3, 1) := by decide +kernel
theorem dX1_readItem_79 : decode cX1_readItem 79 = .ok (.aload_n 0, 1) := by decide +kernel
theorem dX1_readItem_80 : decode cX1_readItem 80 = .ok (.getfield 15, 3) := by decide +kernel
theorem dX1_readItem_83 : decode cX1_readItem 83 = .ok (.aload_n 0, 1) := by decide +kernel
theorem dX1_readItem_84 : decode cX1_readItem 84 = .ok (.getfield 9, 3) := by decide +kernel
theorem dX1_readItem_87 : decode cX1_readItem 87 = .ok (.isub, 1) := by decide +kernel
theorem dX1_readItem_88 : decode cX1_readItem 88 = .ok (.invokevirtual 97, 3) := by decide +kernel
theorem dX1_readItem_91 : decode cX1_readItem 91 = .ok (.istore 4, 2) := by decide +kernel
theorem dX1_readItem_93 : decode cX1_readItem 93 = .ok (.goto 57, 3) := by decide +kernel
theorem dX1_readItem_96 : decode cX1_readItem 96 = .ok (.aload_n 3, 1) := by decide +kernel
theorem dX1_readItem_97 : decode cX1_readItem 97 = .ok (.invokevirtual 101, 3) := by decide +kernel
theorem dX1_readItem_100 : decode cX1_readItem 100 = .ok (.bipush 15, 2) := by decide +kernel
theorem dX1_readItem_102 : decode cX1_readItem 102 = .ok (.if_icmp .ne 15, 3) := by decide +kernel
theorem dX1_readItem_105 : decode cX1_readItem 105 = .ok (.aload_n 0, 1) := by decide +kernel
theorem dX1_readItem_106 : decode cX1_readItem 106 = .ok (.bipush 9, 2) := by decide +kernel
theorem dX1_readItem_108 : decode cX1_readItem 108 = .ok (.iload_n 1, 1) := by decide +kernel
theorem dX1_readItem_109 : decode cX1_readItem 109 = .ok (.invokevirtual 67, 3) := by decide +kernel
theorem dX1_readItem_112 : decode cX1_readItem 112 = .ok (.istore 4, 2) := by decide +kernel
theorem dX1_readItem_114 : decode cX1_readItem 114 = .ok (.goto 36, 3) := by decide +kernel
theorem dX1_readItem_117 : decode cX1_readItem 117 = .ok (.aload_n 0, 1) := by decide +kernel
theorem dX1_readItem_118 : decode cX1_readItem 118 = .ok (.aload_n 3, 1) := by decide +kernel
theorem dX1_readItem_119 : decode cX1_readItem 119 = .ok (.iload_n 2, 1) := by decide +kernel
theorem dX1_readItem_120 : decode cX1_readItem 120 = .ok (.invokevirtual 104, 3) := by decide +kernel
theorem dX1_readItem_123 : decode cX1_readItem 123 = .ok (.ifCond .eq 24, 3) := by decide +kernel
theorem dX1_readItem_126 : decode cX1_readItem 126 = .ok (.aload_n 0, 1) := by decide +kernel
theorem dX1_readItem_127 : decode cX1_readItem 127 = .ok (.aload_n 3, 1) := by decide +kernel
theorem dX1_readItem_128 : decode cX1_readItem 128 = .ok (.invokevirtual 107, 3) := by decide +kernel
theorem dX1_readItem_131 : decode cX1_readItem 131 = .ok (.ifCond .eq 16, 3) := by decide +kernel
theorem dX1_readItem_134 : decode cX1_readItem 134 = .ok (.aload_n 0, 1) := by decide +kernel
theorem dX1_readItem_135 : decode cX1_readItem 135 = .ok (.aload_n 3, 1) := by decide +kernel
theorem dX1_readItem_136 : decode cX1_readItem 136 = .ok (.iload_n 1, 1) := by decide +kernel
theorem dX1_readItem_137 : decode cX1_readItem 137 = .ok (.invokevirtual 111, 3) := by decide +kernel
theorem dX1_readItem_140 : decode cX1_readItem 140 = .ok (.ifCond .eq 7, 3) := by decide +kernel
theorem dX1_readItem_143 : decode cX1_readItem 143 = .ok (.iconst 1, 1) := by decide +kernel
theorem dX1_readItem_144 : decode cX1_readItem 144 = .ok (.goto 4, 3) := by decide +kernel
theorem dX1_readItem_147 : decode cX1_readItem 147 = .ok (.iconst 0, 1) := by decide +kernel
theorem dX1_readItem_148 : decode cX1_readItem 148 = .ok (.istore 4, 2) := by decide +kernel
theorem dX1_readItem_150 : decode cX1_readItem 150 = .ok (.iload 4, 2) := by decide +kernel
theorem dX1_readItem_152 : decode cX1_readItem 152 = .ok (.ifCond .eq 27, 3) := by decide +kernel
theorem dX1_readItem_155 : decode cX1_readItem 155 = .ok (.aload_n 0, 1) := by decide +kernel
theorem dX1_readItem_156 : decode cX1_readItem 156 = .ok (.getfield 32, 3) := by decide +kernel
theorem dX1_readItem_159 : decode cX1_readItem 159 = .ok (.invokevirtual 114, 3) := by decide +kernel
theorem dX1_readItem_162 : decode cX1_readItem 162 = .ok (.ifCond .ne 13, 3) := by decide +kernel
theorem dX1_readItem_165 : decode cX1_readItem 165 = .ok (.aload_n 0, 1) := by decide +kernel
theorem dX1_readItem_166 : decode cX1_readItem 166 = .ok (.bipush 10, 2) := by decide +kernel
theorem dX1_readItem_168 : decode cX1_readItem 168 = .ok (.iload_n 1, 1) := by decide +kernel
theorem dX1_readItem_169 : decode cX1_readItem 169 = .ok (.invokevirtual 67, 3) := by decide +kernel
theorem dX1_readItem_172 : decode cX1_readItem 172 = .ok (.ifCond .eq 7, 3) := by decide +kernel
theorem dX1_readItem_175 : decode cX1_readItem 175 = .ok (.iconst 1, 1) := by decide +kernel
theorem dX1_readItem_176 : decode cX1_readItem 176 = .ok (.goto 4, 3) := by decide +kernel
theorem dX1_readItem_179 : decode cX1_readItem 179 = .ok (.iconst 0, 1) := by decide +kernel
theorem dX1_readItem_180 : decode cX1_readItem 180 = .ok (.ireturn, 1) := by decide +kernel
theorem dX1_take_0 : decode cX1_take 0 = .ok (.aload_n 0, 1) := by decide +kernel
theorem dX1_take_1 : decode cX1_take 1 = .ok (.getfield 28, 3) := by decide +kernel
theorem dX1_take_4 : decode cX1_take 4 = .ok (.aload_n 0, 1) := by decide +kernel
theorem dX1_take_5 : decode cX1_take 5 = .ok (.getfield 9, 3) := by decide +kernel
theorem dX1_take_8 : decode cX1_take 8 = .ok (.invokevirtual 62, 3) := by decide +kernel
theorem dX1_take_11 : decode cX1_take 11 = .ok (.istore_n 1, 1) := by decide +kernel
theorem dX1_take_12 : decode cX1_take 12 = .ok (.aload_n 0, 1) := by decide +kernel
theorem dX1_take_13 : decode cX1_take 13 = .ok (.dup, 1) := by decide +kernel
theorem dX1_take_14 : decode cX1_take 14 = .ok (.getfield 9, 3) := by decide +kernel
theorem dX1_take_17 : decode cX1_take 17 = .ok (.iconst 1, 1) := by decide +kernel
theorem dX1_take_18 : decode cX1_take 18 = .ok (.iadd, 1) := by decide +kernel
theorem dX1_take_19 : decode cX1_take 19 = .ok (.putfield 9, 3) := by decide +kernel
theorem dX1_take_22 : decode cX1_take 22 = .ok (.iload_n 1, 1) := by decide +kernel
theorem dX1_take_23 : decode cX1_take 23 = .ok (.ireturn, 1) := by decide +kernel
theorem dX1_areThere_0 : decode cX1_areThere 0 = .ok (.aload_n 0, 1) := by decide +kernel
theorem dX1_areThere_1 : decode cX1_areThere 1 = .ok (.getfield 9, 3) := by decide +kernel
theorem dX1_areThere_4 : decode cX1_areThere 4 = .ok (.iload_n 1, 1) := by decide +kernel
theorem dX1_areThere_5 : decode cX1_areThere 5 = .ok (.iadd, 1) := by decide +kernel
theorem dX1_areThere_6 : decode cX1_areThere 6 = .ok (.aload_n 0, 1) := by decide +kernel
theorem dX1_areThere_7 : decode cX1_areThere 7 = .ok (.getfield 15, 3) := by decide +kernel
theorem dX1_areThere_10 : decode cX1_areThere 10 = .ok (.if_icmp .le 15, 3) := by decide +kernel
theorem dX1_areThere_13 : decode cX1_areThere 13 = .ok (.aload_n 0, 1) := by decide +kernel
theorem dX1_areThere_14 : decode cX1_areThere 14 = .ok (.iconst 4, 1) := by decide +kernel
theorem dX1_areThere_15 : decode cX1_areThere 15 = .ok (.aload_n 0, 1) := by decide +kernel
theorem dX1_areThere_16 : decode cX1_areThere 16 = .ok (.getfield 15, 3) := by decide +kernel
theorem dX1_areThere_19 : decode cX1_areThere 19 = .ok (.invokevirtual 67, 3) := by decide +kernel
theorem dX1_areThere_22 : decode cX1_areThere 22 = .ok (.ifCond .eq 7, 3) := by decide +kernel
theorem dX1_areThere_25 : decode cX1_areThere 25 = .ok (.iconst 1, 1) := by decide +kernel
theorem dX1_areThere_26 : decode cX1_areThere 26 = .ok (.goto 4, 3) := by decide +kernel
theorem dX1_areThere_29 : decode cX1_areThere 29 = .ok (.iconst 0, 1) := by decide +kernel
theorem dX1_areThere_30 : decode cX1_areThere 30 = .ok (.ireturn, 1) := by decide +kernel
theorem dX1_readDifes_0 : decode cX1_readDifes 0 = .ok (.iload_n 2, 1) := by decide +kernel
theorem dX1_readDifes_1 : decode cX1_readDifes 1 = .ok (.istore_n 3, 1) := by decide +kernel
theorem dX1_readDifes_2 : decode cX1_readDifes 2 = .ok (.iconst 0, 1) := by decide +kernel
theorem dX1_readDifes_3 : decode cX1_readDifes 3 = .ok (.istore 4, 2) := by decide +kernel
theorem dX1_readDifes_5 : decode cX1_readDifes 5 = .ok (.iload 4, 2) := by decide +kernel
theorem dX1_readDifes_7 : decode cX1_readDifes 7 = .ok (.bipush 10, 2) := by decide +kernel
theorem dX1_readDifes_9 : decode cX1_readDifes 9 = .ok (.if_icmp .gt 56, 3) := by decide +kernel
theorem dX1_readDifes_12 : decode cX1_readDifes 12 = .ok (.iload_n 3, 1) := by decide +kernel
theorem dX1_readDifes_13 : decode cX1_readDifes 13 = .ok (.sipush 128, 3) := by decide +kernel
theorem dX1_readDifes_16 : decode cX1_readDifes 16 = .ok (.iand, 1) := by decide +kernel
theorem dX1_readDifes_17 : decode cX1_readDifes 17 = .ok (.ifCond .eq 48, 3) := by decide +kernel
theorem dX1_readDifes_20 : decode cX1_readDifes 20 = .ok (.aload_n 0, 1) := by decide +kernel
theorem dX1_readDifes_21 : decode cX1_readDifes 21 = .ok (.iconst 1, 1) := by decide +kernel
theorem dX1_readDifes_22 : decode cX1_readDifes 22 = .ok (.invokevirtual 117, 3) := by decide +kernel
theorem dX1_readDifes_25 : decode cX1_readDifes 25 = .ok (.ifCond .ne 5, 3) := by decide +kernel
theorem dX1_readDifes_28 : decode cX1_readDifes 28 = .ok (.iconst 0, 1) := by decide +kernel
theorem dX1_readDifes_29 : decode cX1_readDifes 29 = .ok (.ireturn, 1) := by decide +kernel
theorem dX1_readDifes_30 : decode cX1_readDifes 30 = .ok (.iload 4, 2) := by decide +kernel
theorem dX1_readDifes_32 : decode cX1_readDifes 32 = .ok (.bipush 10, 2) := by decide +kernel
theorem dX1_readDifes_34 : decode cX1_readDifes 34 = .ok (.if_icmp .ne 13, 3) := by decide +kernel
theorem dX1_readDifes_37 : decode cX1_readDifes 37 = .ok (.aload_n 0, 1) := by decide +kernel
theorem dX1_readDifes_38 : decode cX1_readDifes 38 = .ok (.iconst 5, 1) := by decide +kernel
theorem dX1_readDifes_39 : decode cX1_readDifes 39 = .ok (.aload_n 0, 1) := by decide +kernel
theorem dX1_readDifes_40 : decode cX1_readDifes 40 = .ok (.getfield 9, 3) := by decide +kernel
theorem dX1_readDifes_43 : decode cX1_readDifes 43 = .ok (.invokevirtual 67, 3) := by decide +kernel
theorem dX1_readDifes_46 : decode cX1_readDifes 46 = .ok (.ireturn, 1) := by decide +kernel
theorem dX1_readDifes_47 : decode cX1_readDifes 47 = .ok (.aload_n 0, 1) := by decide +kernel
theorem dX1_readDifes_48 : decode cX1_readDifes 48 = .ok (.invokevirtual 85, 3) := by decide +kernel
theorem dX1_readDifes_51 : decode cX1_readDifes 51 = .ok (.istore_n 3, 1) := by decide +kernel
theorem dX1_readDifes_52 : decode cX1_readDifes 52 = .ok (.aload_n 1, 1) := by decide +kernel
theorem dX1_readDifes_53 : decode cX1_readDifes 53 = .ok (.iload 4, 2) := by decide +kernel
theorem dX1_readDifes_55 : decode cX1_readDifes 55 = .ok (.iload_n 3, 1) := by decide +kernel
theorem dX1_readDifes_56 : decode cX1_readDifes 56 = .ok (.invokevirtual 120, 3) := by decide +kernel
theorem dX1_readDifes_59 : decode cX1_readDifes 59 = .ok (.iinc 4 1, 3) := by decide +kernel
theorem dX1_readDifes_62 : decode cX1_readDifes 62 = .ok (.goto (-57), 3) := by decide +kernel
theorem dX1_readDifes_65 : decode cX1_readDifes 65 = .ok (.iconst 1, 1) := by decide +kernel
theorem dX1_readDifes_66 : decode cX1_readDifes 66 = .ok (.ireturn, 1) := by decide +kernel
theorem dX1_readVifs_0 : decode cX1_readVifs 0 = .ok (.sipush 128, 3) := by decide +kernel
theorem dX1_readVifs_3 : decode cX1_readVifs 3 = .ok (.istore_n 2, 1) := by decide +kernel
theorem dX1_readVifs_4 : decode cX1_readVifs 4 = .ok (.iconst 0, 1) := by decide +kernel
theorem dX1_readVifs_5 : decode cX1_readVifs 5 = .ok (.istore_n 3, 1) := by decide +kernel
theorem dX1_readVifs_6 : decode cX1_readVifs 6 = .ok (.iload_n 3, 1) := by decide +kernel
theorem dX1_readVifs_7 : decode cX1_readVifs 7 = .ok (.bipush 11, 2) := by decide +kernel
theorem dX1_readVifs_9 : decode cX1_readVifs 9 = .ok (.if_icmp .gt 54, 3) := by decide +kernel
theorem dX1_readVifs_12 : decode cX1_readVifs 12 = .ok (.iload_n 2, 1) := by decide +kernel
theorem dX1_readVifs_13 : decode cX1_readVifs 13 = .ok (.sipush 128, 3) := by decide +kernel
theorem dX1_readVifs_16 : decode cX1_readVifs 16 = .ok (.iand, 1) := by decide +kernel
theorem dX1_readVifs_17 : decode cX1_readVifs 17 = .ok (.ifCond .eq 46, 3) := by decide +kernel
theorem dX1_readVifs_20 : decode cX1_readVifs 20 = .ok (.aload_n 0, 1) := by decide +kernel
theorem dX1_readVifs_21 : decode cX1_readVifs 21 = .ok (.iconst 1, 1) := by decide +kernel
theorem dX1_readVifs_22 : decode cX1_readVifs 22 = .ok (.invokevirtual 117, 3) := by decide +kernel
theorem dX1_readVifs_25 : decode cX1_readVifs 25 = .ok (.ifCond .ne 5, 3) := by decide +kernel
theorem dX1_readVifs_28 : decode cX1_readVifs 28 = .ok (.iconst 0, 1) := by decide +kernel
theorem dX1_readVifs_29 : decode cX1_readVifs 29 = .ok (.ireturn, 1) := by decide +kernel
theorem dX1_readVifs_30 : decode cX1_readVifs 30 = .ok (.iload_n 3, 1) := by decide +kernel
theorem dX1_readVifs_31 : decode cX1_readVifs 31 = .ok (.bipush 10, 2) := by decide +kernel
theorem dX1_readVifs_33 : decode cX1_readVifs 33 = .ok (.if_icmp .le 14, 3) := by decide +kernel
theorem dX1_readVifs_36 : decode cX1_readVifs 36 = .ok (.aload_n 0, 1) := by decide +kernel
theorem dX1_readVifs_37 : decode cX1_readVifs 37 = .ok (.bipush 6, 2) := by decide +kernel
theorem dX1_readVifs_39 : decode cX1_readVifs 39 = .ok (.aload_n 0, 1) := by decide +kernel
theorem dX1_readVifs_40 : decode cX1_readVifs 40 = .ok (.getfield 9, 3) := by decide +kernel
theorem dX1_readVifs_43 : decode cX1_readVifs 43 = .ok (.invokevirtual 67, 3) := by decide +kernel
theorem dX1_readVifs_46 : decode cX1_readVifs 46 = .ok (.ireturn, 1) := by decide +kernel
theorem dX1_readVifs_47 : decode cX1_readVifs 47 = .ok (.aload_n 0, 1) := by decide +kernel
theorem dX1_readVifs_48 : decode cX1_readVifs 48 = .ok (.invokevirtual 85, 3) := by decide +kernel
theorem dX1_readVifs_51 : decode cX1_readVifs 51 = .ok (.istore_n 2, 1) := by decide +kernel
theorem dX1_readVifs_52 : decode cX1_readVifs 52 = .ok (.aload_n 1, 1) := by decide +kernel
theorem dX1_readVifs_53 : decode cX1_readVifs 53 = .ok (.iload_n 2, 1) := by decide +kernel
theorem dX1_readVifs_54 : decode cX1_readVifs 54 = .ok (.invokevirtual 124, 3) := by decide +kernel
theorem dX1_readVifs_57 : decode cX1_readVifs 57 = .ok (.iinc 3 1, 3) := by decide +kernel
theorem dX1_readVifs_60 : decode cX1_readVifs 60 = .ok (.goto (-54), 3) := by decide +kernel
theorem dX1_readVifs_63 : decode cX1_readVifs 63 = .ok (.iconst 1, 1) := by decide +kernel
theorem dX1_readVifs_64 : decode cX1_readVifs 64 = .ok (.ireturn, 1) := by decide +kernel
theorem dX1_readValue_0 : decode cX1_readValue 0 = .ok (.aload_n 1, 1) := by decide +kernel
theorem dX1_readValue_1 : decode cX1_readValue 1 = .ok (.invokevirtual 101, 3) := by decide +kernel
theorem dX1_readValue_4 : decode cX1_readValue 4 = .ok (.istore_n 3, 1) := by decide +kernel
theorem dX1_readValue_5 : decode cX1_readValue 5 = .ok (.iload_n 3, 1) := by decide +kernel
theorem dX1_readValue_6 : decode cX1_readValue 6 = .ok (.tableswitch 130 0 14 #[74, 76, 76, 76, 76, 83, 90, 98, 130, 106, 106, 106, 106, 124, 116], 74) := by decide +kernel
theorem dX1_readValue_80 : decode cX1_readValue 80 = .ok (.iconst 1, 1) := by decide +kernel
theorem dX1_readValue_81 : decode cX1_readValue 81 = .ok (.ireturn, 1) := by decide +kernel
theorem dX1_readValue_82 : decode cX1_readValue 82 = .ok (.aload_n 0, 1) := by decide +kernel
theorem dX1_readValue_83 : decode cX1_readValue 83 = .ok (.aload_n 1, 1) := by decide +kernel
theorem dX1_readValue_84 : decode cX1_readValue 84 = .ok (.iload_n 3, 1) := by decide +kernel
theorem dX1_readValue_85 : decode cX1_readValue 85 = .ok (.invokevirtual 127, 3) := by decide +kernel
theorem dX1_readValue_88 : decode cX1_readValue 88 = .ok (.ireturn, 1) := by decide +kernel
theorem dX1_readValue_89 : decode cX1_readValue 89 = .ok (.aload_n 0, 1) := by decide +kernel
theorem dX1_readValue_90 : decode cX1_readValue 90 = .ok (.aload_n 1, 1) := by decide +kernel
theorem dX1_readValue_91 : decode cX1_readValue 91 = .ok (.iconst 4, 1) := by decide +kernel
theorem dX1_readValue_92 : decode cX1_readValue 92 = .ok (.invokevirtual 127, 3) := by decide +kernel
theorem dX1_readValue_95 : decode cX1_readValue 95 = .ok (.ireturn, 1) := by decide +kernel
theorem dX1_readValue_96 : decode cX1_readValue 96 = .ok (.aload_n 0, 1) := by decide +kernel
theorem dX1_readValue_97 : decode cX1_readValue 97 = .ok (.aload_n 1, 1) := by decide +kernel
theorem dX1_readValue_98 : decode cX1_readValue 98 = .ok (.bipush 6, 2) := by decide +kernel
theorem dX1_readValue_100 : decode cX1_readValue 100 = .ok (.invokevirtual 127, 3) := by decide +kernel
theorem dX1_readValue_103 : decode cX1_readValue 103 = .ok (.ireturn, 1) := by decide +kernel
theorem dX1_readValue_104 : decode cX1_readValue 104 = .ok (.aload_n 0, 1) := by decide +kernel
theorem dX1_readValue_105 : decode cX1_readValue 105 = .ok (.aload_n 1, 1) := by decide +kernel
theorem dX1_readValue_106 : decode cX1_readValue 106 = .ok (.bipush 8, 2) := by decide +kernel
theorem dX1_readValue_108 : decode cX1_readValue 108 = .ok (.invokevirtual 127, 3) := by decide +kernel
theorem dX1_readValue_111 : decode cX1_readValue 111 = .ok (.ireturn, 1) := by decide +kernel
theorem dX1_readValue_112 : decode cX1_readValue 112 = .ok (.aload_n 0, 1) := by decide +kernel
theorem dX1_readValue_113 : decode cX1_readValue 113 = .ok (.aload_n 1, 1) := by decide +kernel
theorem dX1_readValue_114 : decode cX1_readValue 114 = .ok (.iload_n 3, 1) := by decide +kernel
theorem dX1_readValue_115 : decode cX1_readValue 115 = .ok (.bipush 8, 2) := by decide +kernel
theorem dX1_readValue_117 : decode cX1_readValue 117 = .ok (.isub, 1) := by decide +kernel
theorem dX1_readValue_118 : decode cX1_readValue 118 = .ok (.invokevirtual 130, 3) := by decide +kernel
theorem dX1_readValue_121 : decode cX1_readValue 121 = .ok (.ireturn, 1) := by decide +kernel
theorem dX1_readValue_122 : decode cX1_readValue 122 = .ok (.aload_n 0, 1) := by decide +kernel
theorem dX1_readValue_123 : decode cX1_readValue 123 = .ok (.aload_n 1, 1) := by decide +kernel
theorem dX1_readValue_124 : decode cX1_readValue 124 = .ok (.bipush 6, 2) := by decide +kernel
theorem dX1_readValue_126 : decode cX1_readValue 126 = .ok (.invokevirtual 130, 3) := by decide +kernel
theorem dX1_readValue_129 : decode cX1_readValue 129 = .ok (.ireturn, 1) := by decide +kernel
theorem dX1_readValue_130 : decode cX1_readValue 130 = .ok (.aload_n 0, 1) := by decide +kernel
theorem dX1_readValue_131 : decode cX1_readValue 131 = .ok (.aload_n 1, 1) := by decide +kernel
theorem dX1_readValue_132 : decode cX1_readValue 132 = .ok (.invokevirtual 133, 3) := by decide +kernel
theorem dX1_readValue_135 : decode cX1_readValue 135 = .ok (.ireturn, 1) := by decide +kernel
theorem dX1_readValue_136 : decode cX1_readValue 136 = .ok (.aload_n 0, 1) := by decide +kernel
theorem dX1_readValue_137 : decode cX1_readValue 137 = .ok (.bipush 9, 2) := by decide +kernel
theorem dX1_readValue_139 : decode cX1_readValue 139 = .ok (.iload_n 2, 1) := by decide +kernel
theorem dX1_readValue_140 : decode cX1_readValue 140 = .ok (.invokevirtual 67, 3) := by decide +kernel
theorem dX1_readValue_143 : decode cX1_readValue 143 = .ok (.ireturn, 1) := by decide +kernel
theorem dX1_readSized_0 : decode cX1_readSized 0 = .ok (.aload_n 0, 1) := by decide +kernel
theorem dX1_readSized_1 : decode cX1_readSized 1 = .ok (.iconst 1, 1) := by decide +kernel
theorem dX1_readSized_2 : decode cX1_readSized 2 = .ok (.invokevirtual 117, 3) := by decide +kernel
theorem dX1_readSized_5 : decode cX1_readSized 5 = .ok (.ifCond .ne 5, 3) := by decide +kernel
theorem dX1_readSized_8 : decode cX1_readSized 8 = .ok (.iconst 0, 1) := by decide +kernel
theorem dX1_readSized_9 : decode cX1_readSized 9 = .ok (.ireturn, 1) := by decide +kernel
theorem dX1_readSized_10 : decode cX1_readSized 10 = .ok (.aload_n 0, 1) := by decide +kernel
theorem dX1_readSized_11 : decode cX1_readSized 11 = .ok (.invokevirtual 85, 3) := by decide +kernel
theorem dX1_readSized_14 : decode cX1_readSized 14 = .ok (.istore_n 2, 1) := by decide +kernel
theorem dX1_readSized_15 : decode cX1_readSized 15 = .ok (.iload_n 2, 1) := by decide +kernel
theorem dX1_readSized_16 : decode cX1_readSized 16 = .ok (.sipush 191, 3) := by decide +kernel
theorem dX1_readSized_19 : decode cX1_readSized 19 = .ok (.if_icmp .gt 10, 3) := by decide +kernel
theorem dX1_readSized_22 : decode cX1_readSized 22 = .ok (.aload_n 0, 1) := by decide +kernel
theorem dX1_readSized_23 : decode cX1_readSized 23 = .ok (.aload_n 1, 1) := by decide +kernel
theorem dX1_readSized_24 : decode cX1_readSized 24 = .ok (.iload_n 2, 1) := by decide +kernel
theorem dX1_readSized_25 : decode cX1_readSized 25 = .ok (.invokevirtual 97, 3) := by decide +kernel
theorem dX1_readSized_28 : decode cX1_readSized 28 = .ok (.ireturn, 1) := by decide +kernel
theorem dX1_readSized_29 : decode cX1_readSized 29 = .ok (.iload_n 2, 1) := by decide +kernel
theorem dX1_readSized_30 : decode cX1_readSized 30 = .ok (.sipush 201, 3) := by decide +kernel
theorem dX1_readSized_33 : decode cX1_readSized 33 = .ok (.if_icmp .gt 16, 3) := by decide +kernel
theorem dX1_readSized_36 : decode cX1_readSized 36 = .ok (.aload_n 0, 1) := by decide +kernel
theorem dX1_readSized_37 : decode cX1_readSized 37 = .ok (.aload_n 1, 1) := by decide +kernel
theorem dX1_readSized_38 : decode cX1_readSized 38 = .ok (.iload_n 2, 1) := by decide +kernel
theorem dX1_readSized_39 : decode cX1_readSized 39 = .ok (.sipush 192, 3) := by decide +kernel
theorem dX1_readSized_42 : decode cX1_readSized 42 = .ok (.isub, 1) := by decide +kernel
theorem dX1_readSized_43 : decode cX1_readSized 43 = .ok (.iconst 1, 1) := by decide +kernel
theorem dX1_readSized_44 : decode cX1_readSized 44 = .ok (.iconst 0, 1) := by decide +kernel
theorem dX1_readSized_45 : decode cX1_readSized 45 = .ok (.invokevirtual 136, 3) := by decide +kernel
theorem dX1_readSized_48 : decode cX1_readSized 48 = .ok (.ireturn, 1) := by decide +kernel
theorem dX1_readSized_49 : decode cX1_readSized 49 = .ok (.iload_n 2, 1) := by decide +kernel
theorem dX1_readSized_50 : decode cX1_readSized 50 = .ok (.sipush 208, 3) := by decide +kernel
theorem dX1_readSized_53 : decode cX1_readSized 53 = .ok (.if_icmp .lt 23, 3) := by decide +kernel
theorem dX1_readSized_56 : decode cX1_readSized 56 = .ok (.iload_n 2, 1) := by decide +kernel
theorem dX1_readSized_57 : decode cX1_readSized 57 = .ok (.sipush 217, 3) := by decide +kernel
theorem dX1_readSized_60 : decode cX1_readSized 60 = .ok (.if_icmp .gt 16, 3) := by decide +kernel
theorem dX1_readSized_63 : decode cX1_readSized 63 = .ok (.aload_n 0, 1) := by decide +kernel
theorem dX1_readSized_64 : decode cX1_readSized 64 = .ok (.aload_n 1, 1) := by decide +kernel
theorem dX1_readSized_65 : decode cX1_readSized 65 = .ok (.iload_n 2, 1) := by decide +kernel
theorem dX1_readSized_66 : decode cX1_readSized 66 = .ok (.sipush 208, 3) := by decide +kernel
theorem dX1_readSized_69 : decode cX1_readSized 69 = .ok (.isub, 1) := by decide +kernel
theorem dX1_readSized_70 : decode cX1_readSized 70 = .ok (.iconst (-1), 1) := by decide +kernel
theorem dX1_readSized_71 : decode cX1_readSized 71 = .ok (.iconst 0, 1) := by decide +kernel
theorem dX1_readSized_72 : decode cX1_readSized 72 = .ok (.invokevirtual 136, 3) := by decide +kernel
theorem dX1_readSized_75 : decode cX1_readSized 75 = .ok (.ireturn, 1) := by decide +kernel
theorem dX1_readSized_76 : decode cX1_readSized 76 = .ok (.iload_n 2, 1) := by decide +kernel
theorem dX1_readSized_77 : decode cX1_readSized 77 = .ok (.sipush 224, 3) := by decide +kernel
theorem dX1_readSized_80 : decode cX1_readSized 80 = .ok (.if_icmp .lt 21, 3) := by decide +kernel
theorem dX1_readSized_83 : decode cX1_readSized 83 = .ok (.iload_n 2, 1) := by decide +kernel
theorem dX1_readSized_84 : decode cX1_readSized 84 = .ok (.sipush 232, 3) := by decide +kernel
theorem dX1_readSized_87 : decode cX1_readSized 87 = .ok (.if_icmp .gt 14, 3) := by decide +kernel
theorem dX1_readSized_90 : decode cX1_readSized 90 = .ok (.aload_n 0, 1) := by decide +kernel
theorem dX1_readSized_91 : decode cX1_readSized 91 = .ok (.aload_n 1, 1) := by decide +kernel
theorem dX1_readSized_92 : decode cX1_readSized 92 = .ok (.iload_n 2, 1) := by decide +kernel
theorem dX1_readSized_93 : decode cX1_readSized 93 = .ok (.sipush 224, 3) := by decide +kernel
theorem dX1_readSized_96 : decode cX1_readSized 96 = .ok (.isub, 1) := by decide +kernel
theorem dX1_readSized_97 : decode cX1_readSized 97 = .ok (.invokevirtual 127, 3) := by decide +kernel
theorem dX1_readSized_100 : decode cX1_readSized 100 = .ok (.ireturn, 1) := by decide +kernel
theorem dX1_readSized_101 : decode cX1_readSized 101 = .ok (.aload_n 0, 1) := by decide +kernel
theorem dX1_readSized_102 : decode cX1_readSized 102 = .ok (.bipush 8, 2) := by decide +kernel
theorem dX1_readSized_104 : decode cX1_readSized 104 = .ok (.aload_n 0, 1) := by decide +kernel
theorem dX1_readSized_105 : decode cX1_readSized 105 = .ok (.getfield 9, 3) := by decide +kernel
theorem dX1_readSized_108 : decode cX1_readSized 108 = .ok (.iconst 1, 1) := by decide +kernel
theorem dX1_readSized_109 : decode cX1_readSized 109 = .ok (.isub, 1) := by decide +kernel
theorem dX1_readSized_110 : decode cX1_readSized 110 = .ok (.invokevirtual 67, 3) := by decide +kernel
theorem dX1_readSized_113 : decode cX1_readSized 113 = .ok (.ireturn, 1) := by decide +kernel
theorem dX1_readText_0 : decode cX1_readText 0 = .ok (.aload_n 0, 1) := by decide +kernel
theorem dX1_readText_1 : decode cX1_readText 1 = .ok (.iload_n 2, 1) := by decide +kernel
theorem dX1_readText_2 : decode cX1_readText 2 = .ok (.invokevirtual 117, 3) := by decide +kernel
theorem dX1_readText_5 : decode cX1_readText 5 = .ok (.ifCond .ne 5, 3) := by decide +kernel
theorem dX1_readText_8 : decode cX1_readText 8 = .ok (.iconst 0, 1) := by decide +kernel
theorem dX1_readText_9 : decode cX1_readText 9 = .ok (.ireturn, 1) := by decide +kernel
theorem dX1_readText_10 : decode cX1_readText 10 = .ok (.aload_n 1, 1) := by decide +kernel
theorem dX1_readText_11 : decode cX1_readText 11 = .ok (.aload_n 0, 1) := by decide +kernel
theorem dX1_readText_12 : decode cX1_readText 12 = .ok (.getfield 28, 3) := by decide +kernel
theorem dX1_readText_15 : decode cX1_readText 15 = .ok (.aload_n 0, 1) := by decide +kernel
theorem dX1_readText_16 : decode cX1_readText 16 = .ok (.getfield 9, 3) := by decide +kernel
theorem dX1_readText_19 : decode cX1_readText 19 = .ok (.iload_n 2, 1) := by decide +kernel
theorem dX1_readText_20 : decode cX1_readText 20 = .ok (.invokevirtual 140, 3) := by decide +kernel
theorem dX1_readText_23 : decode cX1_readText 23 = .ok (.aload_n 0, 1) := by decide +kernel
theorem dX1_readText_24 : decode cX1_readText 24 = .ok (.dup, 1) := by decide +kernel
theorem dX1_readText_25 : decode cX1_readText 25 = .ok (.getfield 9, 3) := by decide +kernel
theorem dX1_readText_28 : decode cX1_readText 28 = .ok (.iload_n 2, 1) := by decide +kernel
theorem dX1_readText_29 : decode cX1_readText 29 = .ok (.iadd, 1) := by decide +kernel
theorem dX1_readText_30 : decode cX1_readText 30 = .ok (.putfield 9, 3) := by decide +kernel
theorem dX1_readText_33 : decode cX1_readText 33 = .ok (.iconst 1, 1) := by decide +kernel
theorem dX1_readText_34 : decode cX1_readText 34 = .ok (.ireturn, 1) := by decide +kernel
theorem dX1_readNumber_0 : decode cX1_readNumber 0 = .ok (.aload_n 0, 1) := by decide +kernel
theorem dX1_readNumber_1 : decode cX1_readNumber 1 = .ok (.iload_n 2, 1) := by decide +kernel
theorem dX1_readNumber_2 : decode cX1_readNumber 2 = .ok (.invokevirtual 117, 3) := by decide +kernel
theorem dX1_readNumber_5 : decode cX1_readNumber 5 = .ok (.ifCond .ne 5, 3) := by decide +kernel
theorem dX1_readNumber_8 : decode cX1_readNumber 8 = .ok (.iconst 0, 1) := by decide +kernel
theorem dX1_readNumber_9 : decode cX1_readNumber 9 = .ok (.ireturn, 1) := by decide +kernel
theorem dX1_readNumber_10 : decode cX1_readNumber 10 = .ok (.iload_n 2, 1) := by decide +kernel
theorem dX1_readNumber_11 : decode cX1_readNumber 11 = .ok (.ifCond .le 29, 3) := by decide +kernel
theorem dX1_readNumber_14 : decode cX1_readNumber 14 = .ok (.aload_n 0, 1) := by decide +kernel
theorem dX1_readNumber_15 : decode cX1_readNumber 15 = .ok (.getfield 28, 3) := by decide +kernel
theorem dX1_readNumber_18 : decode cX1_readNumber 18 = .ok (.aload_n 0, 1) := by decide +kernel
theorem dX1_readNumber_19 : decode cX1_readNumber 19 = .ok (.getfield 9, 3) := by decide +kernel
theorem dX1_readNumber_22 : decode cX1_readNumber 22 = .ok (.iload_n 2, 1) := by decide +kernel
theorem dX1_readNumber_23 : decode cX1_readNumber 23 = .ok (.iadd, 1) := by decide +kernel
theorem dX1_readNumber_24 : decode cX1_readNumber 24 = .ok (.iconst 1, 1) := by decide +kernel
theorem dX1_readNumber_25 : decode cX1_readNumber 25 = .ok (.isub, 1) := by decide +kernel
theorem dX1_readNumber_26 : decode cX1_readNumber 26 = .ok (.invokevirtual 62, 3) := by decide +kernel
theorem dX1_readNumber_29 : decode cX1_readNumber 29 = .ok (.sipush 128, 3) := by decide +kernel
theorem dX1_readNumber_32 : decode cX1_readNumber 32 = .ok (.iand, 1) := by decide +kernel
theorem dX1_readNumber_33 : decode cX1_readNumber 33 = .ok (.ifCond .eq 7, 3) := by decide +kernel
theorem dX1_readNumber_36 : decode cX1_readNumber 36 = .ok (.iconst 1, 1) := by decide +kernel
theorem dX1_readNumber_37 : decode cX1_readNumber 37 = .ok (.goto 4, 3) := by decide +kernel
theorem dX1_readNumber_40 : decode cX1_readNumber 40 = .ok (.iconst 0, 1) := by decide +kernel
theorem dX1_readNumber_41 : decode cX1_readNumber 41 = .ok (.istore_n 3, 1) := by decide +kernel
theorem dX1_readNumber_42 : decode cX1_readNumber 42 = .ok (.iload_n 3, 1) := by decide +kernel
theorem dX1_readNumber_43 : decode cX1_readNumber 43 = .ok (.ifCond .eq 9, 3) := by decide +kernel
theorem dX1_readNumber_46 : decode cX1_readNumber 46 = .ok (.ldc2_w 144, 3) := by decide +kernel
theorem dX1_readNumber_49 : decode cX1_readNumber 49 = .ok (.goto 4, 3) := by decide +kernel
theorem dX1_readNumber_52 : decode cX1_readNumber 52 = .ok (.lconst 0, 1) := by decide +kernel
theorem dX1_readNumber_53 : decode cX1_readNumber 53 = .ok (.lstore 4, 2) := by decide +kernel
theorem dX1_readNumber_55 : decode cX1_readNumber 55 = .ok (.iload_n 2, 1) := by decide +kernel
theorem dX1_readNumber_56 : decode cX1_readNumber 56 = .ok (.iconst 1, 1) := by decide +kernel
theorem dX1_readNumber_57 : decode cX1_readNumber 57 = .ok (.isub, 1) := by decide +kernel
theorem dX1_readNumber_58 : decode cX1_readNumber 58 = .ok (.istore 6, 2) := by decide +kernel
theorem dX1_readNumber_60 : decode cX1_readNumber 60 = .ok (.iload 6, 2) := by decide +kernel
theorem dX1_readNumber_62 : decode cX1_readNumber 62 = .ok (.ifCond .lt 32, 3) := by decide +kernel
theorem dX1_readNumber_65 : decode cX1_readNumber 65 = .ok (.lload 4, 2) := by decide +kernel
theorem dX1_readNumber_67 : decode cX1_readNumber 67 = .ok (.bipush 8, 2) := by decide +kernel
theorem dX1_readNumber_69 : decode cX1_readNumber 69 = .ok (.lshl, 1) := by decide +kernel
theorem dX1_readNumber_70 : decode cX1_readNumber 70 = .ok (.aload_n 0, 1) := by decide +kernel
theorem dX1_readNumber_71 : decode cX1_readNumber 71 = .ok (.getfield 28, 3) := by decide +kernel
theorem dX1_readNumber_74 : decode cX1_readNumber 74 = .ok (.aload_n 0, 1) := by decide +kernel
theorem dX1_readNumber_75 : decode cX1_readNumber 75 = .ok (.getfield 9, 3) := by decide +kernel
theorem dX1_readNumber_78 : decode cX1_readNumber 78 = .ok (.iload 6, 2) := by decide +kernel
theorem dX1_readNumber_80 : decode cX1_readNumber 80 = .ok (.iadd, 1) := by decide +kernel
theorem dX1_readNumber_81 : decode cX1_readNumber 81 = .ok (.invokevirtual 62, 3) := by decide +kernel
theorem dX1_readNumber_84 : decode cX1_readNumber 84 = .ok (.i2l, 1) := by decide +kernel
theorem dX1_readNumber_85 : decode cX1_readNumber 85 = .ok (.lor, 1) := by decide +kernel
theorem dX1_readNumber_86 : decode cX1_readNumber 86 = .ok (.lstore 4, 2) := by decide +kernel
theorem dX1_readNumber_88 : decode cX1_readNumber 88 = .ok (.iinc 6 (-1), 3) := by decide +kernel
theorem dX1_readNumber_91 : decode cX1_readNumber 91 = .ok (.goto (-31), 3) := by decide +kernel
theorem dX1_readNumber_94 : decode cX1_readNumber 94 = .ok (.aload_n 1, 1) := by decide +kernel
theorem dX1_readNumber_95 : decode cX1_readNumber 95 = .ok (.lload 4, 2) := by decide +kernel
theorem dX1_readNumber_97 : decode cX1_readNumber 97 = .ok (.invokevirtual 146, 3) := by decide +kernel
theorem dX1_readNumber_100 : decode cX1_readNumber 100 = .ok (.aload_n 0, 1) := by decide +kernel
theorem dX1_readNumber_101 : decode cX1_readNumber 101 = .ok (.dup, 1) := by decide +kernel
theorem dX1_readNumber_102 : decode cX1_readNumber 102 = .ok (.getfield 9, 3) := by decide +kernel
theorem dX1_readNumber_105 : decode cX1_readNumber 105 = .ok (.iload_n 2, 1) := by decide +kernel
theorem dX1_readNumber_106 : decode cX1_readNumber 106 = .ok (.iadd, 1) := by decide +kernel
theorem dX1_readNumber_107 : decode cX1_readNumber 107 = .ok (.putfield 9, 3) := by decide +kernel
theorem dX1_readNumber_110 : decode cX1_readNumber 110 = .ok (.iconst 1, 1) := by decide +kernel
theorem dX1_readNumber_111 : decode cX1_readNumber 111 = .ok (.ireturn, 1) := by decide +kernel
theorem dX1_readSignedBcd_0 : decode cX1_readSignedBcd 0 = .ok (.aload_n 0, 1) := by decide +kernel
theorem dX1_readSignedBcd_1 : decode cX1_readSignedBcd 1 = .ok (.getfield 28, 3) := by decide +kernel
theorem dX1_readSignedBcd_4 : decode cX1_readSignedBcd 4 = .ok (.aload_n 0, 1) := by decide +kernel
theorem dX1_readSignedBcd_5 : decode cX1_readSignedBcd 5 = .ok (.getfield 9, 3) := by decide +kernel
theorem dX1_readSignedBcd_8 : decode cX1_readSignedBcd 8 = .ok (.iload_n 2, 1) := by decide +kernel
theorem dX1_readSignedBcd_9 : decode cX1_readSignedBcd 9 = .ok (.iadd, 1) := by decide +kernel
theorem dX1_readSignedBcd_10 : decode cX1_readSignedBcd 10 = .ok (.iconst 1, 1) := by decide +kernel
theorem dX1_readSignedBcd_11 : decode cX1_readSignedBcd 11 = .ok (.isub, 1) := by decide +kernel
theorem dX1_readSignedBcd_12 : decode cX1_readSignedBcd 12 = .ok (.invokevirtual 62, 3) := by decide +kernel
theorem dX1_readSignedBcd_15 : decode cX1_readSignedBcd 15 = .ok (.iconst 4, 1) := by decide +kernel
theorem dX1_readSignedBcd_16 : decode cX1_readSignedBcd 16 = .ok (.ishr, 1) := by decide +kernel
theorem dX1_readSignedBcd_17 : decode cX1_readSignedBcd 17 = .ok (.bipush 15, 2) := by decide +kernel
theorem dX1_readSignedBcd_19 : decode cX1_readSignedBcd 19 = .ok (.if_icmp .ne 7, 3) := by decide +kernel
theorem dX1_readSignedBcd_22 : decode cX1_readSignedBcd 22 = .ok (.iconst 1, 1) := by decide +kernel
theorem dX1_readSignedBcd_23 : decode cX1_readSignedBcd 23 = .ok (.goto 4, 3) := by decide +kernel
theorem dX1_readSignedBcd_26 : decode cX1_readSignedBcd 26 = .ok (.iconst 0, 1) := by decide +kernel
theorem dX1_readSignedBcd_27 : decode cX1_readSignedBcd 27 = .ok (.istore_n 3, 1) := by decide +kernel
theorem dX1_readSignedBcd_28 : decode cX1_readSignedBcd 28 = .ok (.aload_n 0, 1) := by decide +kernel
theorem dX1_readSignedBcd_29 : decode cX1_readSignedBcd 29 = .ok (.aload_n 1, 1) := by decide +kernel
theorem dX1_readSignedBcd_30 : decode cX1_readSignedBcd 30 = .ok (.iload_n 2, 1) := by decide +kernel
theorem dX1_readSignedBcd_31 : decode cX1_readSignedBcd 31 = .ok (.iload_n 3, 1) := by decide +kernel
theorem dX1_readSignedBcd_32 : decode cX1_readSignedBcd 32 = .ok (.ifCond .eq 7, 3) := by decide +kernel
theorem dX1_readSignedBcd_35 : decode cX1_readSignedBcd 35 = .ok (.iconst (-1), 1) := by decide +kernel
theorem dX1_readSignedBcd_36 : decode cX1_readSignedBcd 36 = .ok (.goto 4, 3) := by decide +kernel
theorem dX1_readSignedBcd_39 : decode cX1_readSignedBcd 39 = .ok (.iconst 1, 1) := by decide +kernel
theorem dX1_readSignedBcd_40 : decode cX1_readSignedBcd 40 = .ok (.iload_n 3, 1) := by decide +kernel
theorem dX1_readSignedBcd_41 : decode cX1_readSignedBcd 41 = .ok (.invokevirtual 136, 3) := by decide +kernel
theorem dX1_readSignedBcd_44 : decode cX1_readSignedBcd 44 = .ok (.ireturn, 1) := by decide +kernel
theorem dX1_readBcd_0 : decode cX1_readBcd 0 = .ok (.aload_n 0, 1) := by decide +kernel
theorem dX1_readBcd_1 : decode cX1_readBcd 1 = .ok (.iload_n 2, 1) := by decide +kernel
theorem dX1_readBcd_2 : decode cX1_readBcd 2 = .ok (.invokevirtual 117, 3) := by decide +kernel
theorem dX1_readBcd_5 : decode cX1_readBcd 5 = .ok (.ifCond .ne 5, 3) := by decide +kernel
theorem dX1_readBcd_8 : decode cX1_readBcd 8 = .ok (.iconst 0, 1) := by decide +kernel
theorem dX1_readBcd_9 : decode cX1_readBcd 9 = .ok (.ireturn, 1) := by decide +kernel
theorem dX1_readBcd_10 : decode cX1_readBcd 10 = .ok (.lconst 0, 1) := by decide +kernel
theorem dX1_readBcd_11 : decode cX1_readBcd 11 = .ok (.lstore 5, 2) := by decide +kernel
theorem dX1_readBcd_13 : decode cX1_readBcd 13 = .ok (.lconst 1, 1) := by decide +kernel
theorem dX1_readBcd_14 : decode cX1_readBcd 14 = .ok (.lstore 7, 2) := by decide +kernel
theorem dX1_readBcd_16 : decode cX1_readBcd 16 = .ok (.iconst 0, 1) := by decide +kernel
theorem dX1_readBcd_17 : decode cX1_readBcd 17 = .ok (.istore 9, 2) := by decide +kernel
theorem dX1_readBcd_19 : decode cX1_readBcd 19 = .ok (.iload 9, 2) := by decide +kernel
theorem dX1_readBcd_21 : decode cX1_readBcd 21 = .ok (.iload_n 2, 1) := by decide +kernel
theorem dX1_readBcd_22 : decode cX1_readBcd 22 = .ok (.if_icmp .ge 97, 3) := by decide +kernel
theorem dX1_readBcd_25 : decode cX1_readBcd 25 = .ok (.aload_n 0, 1) := by decide +kernel
theorem dX1_readBcd_26 : decode cX1_readBcd 26 = .ok (.getfield 28, 3) := by decide +kernel
theorem dX1_readBcd_29 : decode cX1_readBcd 29 = .ok (.aload_n 0, 1) := by decide +kernel
theorem dX1_readBcd_30 : decode cX1_readBcd 30 = .ok (.getfield 9, 3) := by decide +kernel
theorem dX1_readBcd_33 : decode cX1_readBcd 33 = .ok (.iload 9, 2) := by decide +kernel
theorem dX1_readBcd_35 : decode cX1_readBcd 35 = .ok (.iadd, 1) := by decide +kernel
theorem dX1_readBcd_36 : decode cX1_readBcd 36 = .ok (.invokevirtual 62, 3) := by decide +kernel
theorem dX1_readBcd_39 : decode cX1_readBcd 39 = .ok (.istore 10, 2) := by decide +kernel
theorem dX1_readBcd_41 : decode cX1_readBcd 41 = .ok (.iload 4, 2) := by decide +kernel
theorem dX1_readBcd_43 : decode cX1_readBcd 43 = .ok (.ifCond .eq 18, 3) := by decide +kernel
theorem dX1_readBcd_46 : decode cX1_readBcd 46 = .ok (.iload 9, 2) := by decide +kernel
theorem dX1_readBcd_48 : decode cX1_readBcd 48 = .ok (.iload_n 2, 1) := by decide +kernel
theorem dX1_readBcd_49 : decode cX1_readBcd 49 = .ok (.iconst 1, 1) := by decide +kernel
theorem dX1_readBcd_50 : decode cX1_readBcd 50 = .ok (.isub, 1) := by decide +kernel
theorem dX1_readBcd_51 : decode cX1_readBcd 51 = .ok (.if_icmp .ne 10, 3) := by decide +kernel
theorem dX1_readBcd_54 : decode cX1_readBcd 54 = .ok (.iload 10, 2) := by decide +kernel
theorem dX1_readBcd_56 : decode cX1_readBcd 56 = .ok (.bipush 15, 2) := by decide +kernel
theorem dX1_readBcd_58 : decode cX1_readBcd 58 = .ok (.iand, 1) := by decide +kernel
theorem dX1_readBcd_59 : decode cX1_readBcd 59 = .ok (.istore 10, 2) := by decide +kernel
theorem dX1_readBcd_61 : decode cX1_readBcd 61 = .ok (.iload 10, 2) := by decide +kernel
theorem dX1_readBcd_63 : decode cX1_readBcd 63 = .ok (.invokestatic 81, 3) := by decide +kernel
theorem dX1_readBcd_66 : decode cX1_readBcd 66 = .ok (.ifCond .ne 17, 3) := by decide +kernel
theorem dX1_readBcd_69 : decode cX1_readBcd 69 = .ok (.aload_n 0, 1) := by decide +kernel
theorem dX1_readBcd_70 : decode cX1_readBcd 70 = .ok (.bipush 7, 2) := by decide +kernel
theorem dX1_readBcd_72 : decode cX1_readBcd 72 = .ok (.aload_n 0, 1) := by decide +kernel
theorem dX1_readBcd_73 : decode cX1_readBcd 73 = .ok (.getfield 9, 3) := by decide +kernel
theorem dX1_readBcd_76 : decode cX1_readBcd 76 = .ok (.iload 9, 2) := by decide +kernel
theorem dX1_readBcd_78 : decode cX1_readBcd 78 = .ok (.iadd, 1) := by decide +kernel
theorem dX1_readBcd_79 : decode cX1_readBcd 79 = .ok (.invokevirtual 67, 3) := by decide +kernel
theorem dX1_readBcd_82 : decode cX1_readBcd 82 = .ok (.ireturn, 1) := by decide +kernel
theorem dX1_readBcd_83 : decode cX1_readBcd 83 = .ok (.lload 5, 2) := by decide +kernel
theorem dX1_readBcd_85 : decode cX1_readBcd 85 = .ok (.lload 7, 2) := by decide +kernel
theorem dX1_readBcd_87 : decode cX1_readBcd 87 = .ok (.iload 10, 2) := by decide +kernel
theorem dX1_readBcd_89 : decode cX1_readBcd 89 = .ok (.iconst 4, 1) := by decide +kernel
theorem dX1_readBcd_90 : decode cX1_readBcd 90 = .ok (.ishr, 1) := by decide +kernel
theorem dX1_readBcd_91 : decode cX1_readBcd 91 = .ok (.bipush 10, 2) := by decide +kernel
theorem dX1_readBcd_93 : decode cX1_readBcd 93 = .ok (.imul, 1) := by decide +kernel
theorem dX1_readBcd_94 : decode cX1_readBcd 94 = .ok (.iload 10, 2) := by decide +kernel
theorem dX1_readBcd_96 : decode cX1_readBcd 96 = .ok (.bipush 15, 2) := by decide +kernel
theorem dX1_readBcd_98 : decode cX1_readBcd 98 = .ok (.iand, 1) := by decide +kernel
theorem dX1_readBcd_99 : decode cX1_readBcd 99 = .ok (.iadd, 1) := by decide +kernel
theorem dX1_readBcd_100 : decode cX1_readBcd 100 = .ok (.i2l, 1) := by decide +kernel
theorem dX1_readBcd_101 : decode cX1_readBcd 101 = .ok (.lmul, 1) := by decide +kernel
theorem dX1_readBcd_102 : decode cX1_readBcd 102 = .ok (.ladd, 1) := by decide +kernel
theorem dX1_readBcd_103 : decode cX1_readBcd 103 = .ok (.lstore 5, 2) := by decide +kernel
theorem dX1_readBcd_105 : decode cX1_readBcd 105 = .ok (.lload 7, 2) := by decide +kernel
theorem dX1_readBcd_107 : decode cX1_readBcd 107 = .ok (.ldc2_w 150, 3) := by decide +kernel
theorem dX1_readBcd_110 : decode cX1_readBcd 110 = .ok (.lmul, 1) := by decide +kernel
theorem dX1_readBcd_111 : decode cX1_readBcd 111 = .ok (.lstore 7, 2) := by decide +kernel
theorem dX1_readBcd_113 : decode cX1_readBcd 113 = .ok (.iinc 9 1, 3) := by decide +kernel
theorem dX1_readBcd_116 : decode cX1_readBcd 116 = .ok (.goto (-97), 3) := by decide +kernel
theorem dX1_readBcd_119 : decode cX1_readBcd 119 = .ok (.aload_n 1, 1) := by decide +kernel
theorem dX1_readBcd_120 : decode cX1_readBcd 120 = .ok (.iload_n 3, 1) := by decide +kernel
theorem dX1_readBcd_121 : decode cX1_readBcd 121 = .ok (.i2l, 1) := by decide +kernel
theorem dX1_readBcd_122 : decode cX1_readBcd 122 = .ok (.lload 5, 2) := by decide +kernel
theorem dX1_readBcd_124 : decode cX1_readBcd 124 = .ok (.lmul, 1) := by decide +kernel
theorem dX1_readBcd_125 : decode cX1_readBcd 125 = .ok (.invokevirtual 146, 3) := by decide +kernel
theorem dX1_readBcd_128 : decode cX1_readBcd 128 = .ok (.aload_n 0, 1) := by decide +kernel
theorem dX1_readBcd_129 : decode cX1_readBcd 129 = .ok (.dup, 1) := by decide +kernel
theorem dX1_readBcd_130 : decode cX1_readBcd 130 = .ok (.getfield 9, 3) := by decide +kernel
theorem dX1_readBcd_133 : decode cX1_readBcd 133 = .ok (.iload_n 2, 1) := by decide +kernel
theorem dX1_readBcd_134 : decode cX1_readBcd 134 = .ok (.iadd, 1) := by decide +kernel
theorem dX1_readBcd_135 : decode cX1_readBcd 135 = .ok (.putfield 9, 3) := by decide +kernel
theorem dX1_readBcd_138 : decode cX1_readBcd 138 = .ok (.iconst 1, 1) := by decide +kernel
theorem dX1_readBcd_139 : decode cX1_readBcd 139 = .ok (.ireturn, 1) := by decide +kernel
