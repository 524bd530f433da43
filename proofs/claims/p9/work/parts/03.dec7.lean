section
/-! The instructions of MeterBusModel, decoded. By program. -/
theorem dX7_init_0 : decode cX7_init 0 = .ok (.aload_n 0, 1) := by decide +kernel
theorem dX7_init_1 : decode cX7_init 1 = .ok (.invokespecial 1, 3) := by decide +kernel
theorem dX7_init_4 : decode cX7_init 4 = .ok (.aload_n 0, 1) := by decide +kernel
theorem dX7_init_5 : decode cX7_init 5 = .ok (.sipush 300, 3) := by decide +kernel
theorem dX7_init_8 : decode cX7_init 8 = .ok (.newarray .int, 2) := by decide +kernel
theorem dX7_init_10 : decode cX7_init 10 = .ok (.putfield 7, 3) := by decide +kernel
theorem dX7_init_13 : decode cX7_init 13 = .ok (.aload_n 0, 1) := by decide +kernel
theorem dX7_init_14 : decode cX7_init 14 = .ok (.sipush 300, 3) := by decide +kernel
theorem dX7_init_17 : decode cX7_init 17 = .ok (.newarray .int, 2) := by decide +kernel
theorem dX7_init_19 : decode cX7_init 19 = .ok (.putfield 13, 3) := by decide +kernel
theorem dX7_init_22 : decode cX7_init 22 = .ok (.aload_n 0, 1) := by decide +kernel
theorem dX7_init_23 : decode cX7_init 23 = .ok (.sipush 300, 3) := by decide +kernel
theorem dX7_init_26 : decode cX7_init 26 = .ok (.newarray .int, 2) := by decide +kernel
theorem dX7_init_28 : decode cX7_init 28 = .ok (.putfield 16, 3) := by decide +kernel
theorem dX7_init_31 : decode cX7_init 31 = .ok (.aload_n 0, 1) := by decide +kernel
theorem dX7_init_32 : decode cX7_init 32 = .ok (.bipush 12, 2) := by decide +kernel
theorem dX7_init_34 : decode cX7_init 34 = .ok (.newarray .boolean, 2) := by decide +kernel
theorem dX7_init_36 : decode cX7_init 36 = .ok (.putfield 19, 3) := by decide +kernel
theorem dX7_init_39 : decode cX7_init 39 = .ok (.aload_n 0, 1) := by decide +kernel
theorem dX7_init_40 : decode cX7_init 40 = .ok (.bipush 12, 2) := by decide +kernel
theorem dX7_init_42 : decode cX7_init 42 = .ok (.newarray .int, 2) := by decide +kernel
theorem dX7_init_44 : decode cX7_init 44 = .ok (.putfield 23, 3) := by decide +kernel
theorem dX7_init_47 : decode cX7_init 47 = .ok (.aload_n 0, 1) := by decide +kernel
theorem dX7_init_48 : decode cX7_init 48 = .ok (.bipush 96, 2) := by decide +kernel
theorem dX7_init_50 : decode cX7_init 50 = .ok (.newarray .int, 2) := by decide +kernel
theorem dX7_init_52 : decode cX7_init 52 = .ok (.putfield 26, 3) := by decide +kernel
theorem dX7_init_55 : decode cX7_init 55 = .ok (.aload_n 0, 1) := by decide +kernel
theorem dX7_init_56 : decode cX7_init 56 = .ok (.bipush 12, 2) := by decide +kernel
theorem dX7_init_58 : decode cX7_init 58 = .ok (.newarray .boolean, 2) := by decide +kernel
theorem dX7_init_60 : decode cX7_init 60 = .ok (.putfield 29, 3) := by decide +kernel
theorem dX7_init_63 : decode cX7_init 63 = .ok (.aload_n 0, 1) := by decide +kernel
theorem dX7_init_64 : decode cX7_init 64 = .ok (.bipush 12, 2) := by decide +kernel
theorem dX7_init_66 : decode cX7_init 66 = .ok (.newarray .int, 2) := by decide +kernel
theorem dX7_init_68 : decode cX7_init 68 = .ok (.putfield 32, 3) := by decide +kernel
theorem dX7_init_71 : decode cX7_init 71 = .ok (.aload_n 0, 1) := by decide +kernel
theorem dX7_init_72 : decode cX7_init 72 = .ok (.bipush 12, 2) := by decide +kernel
theorem dX7_init_74 : decode cX7_init 74 = .ok (.newarray .int, 2) := by decide +kernel
theorem dX7_init_76 : decode cX7_init 76 = .ok (.putfield 35, 3) := by decide +kernel
theorem dX7_init_79 : decode cX7_init 79 = .ok (.aload_n 0, 1) := by decide +kernel
theorem dX7_init_80 : decode cX7_init 80 = .ok (.bipush 12, 2) := by decide +kernel
theorem dX7_init_82 : decode cX7_init 82 = .ok (.newarray .int, 2) := by decide +kernel
theorem dX7_init_84 : decode cX7_init 84 = .ok (.putfield 38, 3) := by decide +kernel
theorem dX7_init_87 : decode cX7_init 87 = .ok (.aload_n 0, 1) := by decide +kernel
theorem dX7_init_88 : decode cX7_init 88 = .ok (.bipush 36, 2) := by decide +kernel
theorem dX7_init_90 : decode cX7_init 90 = .ok (.newarray .int, 2) := by decide +kernel
theorem dX7_init_92 : decode cX7_init 92 = .ok (.putfield 41, 3) := by decide +kernel
theorem dX7_init_95 : decode cX7_init 95 = .ok (.aload_n 0, 1) := by decide +kernel
theorem dX7_init_96 : decode cX7_init 96 = .ok (.sipush 2160, 3) := by decide +kernel
theorem dX7_init_99 : decode cX7_init 99 = .ok (.newarray .int, 2) := by decide +kernel
theorem dX7_init_101 : decode cX7_init 101 = .ok (.putfield 44, 3) := by decide +kernel
theorem dX7_init_104 : decode cX7_init 104 = .ok (.aload_n 0, 1) := by decide +kernel
theorem dX7_init_105 : decode cX7_init 105 = .ok (.bipush 8, 2) := by decide +kernel
theorem dX7_init_107 : decode cX7_init 107 = .ok (.newarray .int, 2) := by decide +kernel
theorem dX7_init_109 : decode cX7_init 109 = .ok (.putfield 47, 3) := by decide +kernel
theorem dX7_init_112 : decode cX7_init 112 = .ok (.aload_n 0, 1) := by decide +kernel
theorem dX7_init_113 : decode cX7_init 113 = .ok (.sipush 800, 3) := by decide +kernel
theorem dX7_init_116 : decode cX7_init 116 = .ok (.newarray .int, 2) := by decide +kernel
theorem dX7_init_118 : decode cX7_init 118 = .ok (.putfield 50, 3) := by decide +kernel
theorem dX7_init_121 : decode cX7_init 121 = .ok (.aload_n 0, 1) := by decide +kernel
theorem dX7_init_122 : decode cX7_init 122 = .ok (.bipush 13, 2) := by decide +kernel
theorem dX7_init_124 : decode cX7_init 124 = .ok (.newarray .int, 2) := by decide +kernel
theorem dX7_init_126 : decode cX7_init 126 = .ok (.putfield 53, 3) := by decide +kernel
theorem dX7_init_129 : decode cX7_init 129 = .ok (.aload_n 0, 1) := by decide +kernel
theorem dX7_init_130 : decode cX7_init 130 = .ok (.bipush 100, 2) := by decide +kernel
theorem dX7_init_132 : decode cX7_init 132 = .ok (.newarray .long, 2) := by decide +kernel
theorem dX7_init_134 : decode cX7_init 134 = .ok (.putfield 56, 3) := by decide +kernel
theorem dX7_init_137 : decode cX7_init 137 = .ok (.aload_n 0, 1) := by decide +kernel
theorem dX7_init_138 : decode cX7_init 138 = .ok (.bipush 100, 2) := by decide +kernel
theorem dX7_init_140 : decode cX7_init 140 = .ok (.newarray .int, 2) := by decide +kernel
theorem dX7_init_142 : decode cX7_init 142 = .ok (.putfield 60, 3) := by decide +kernel
theorem dX7_init_145 : decode cX7_init 145 = .ok (.aload_n 0, 1) := by decide +kernel
theorem dX7_init_146 : decode cX7_init 146 = .ok (.bipush 100, 2) := by decide +kernel
theorem dX7_init_148 : decode cX7_init 148 = .ok (.newarray .int, 2) := by decide +kernel
theorem dX7_init_150 : decode cX7_init 150 = .ok (.putfield 63, 3) := by decide +kernel
theorem dX7_init_153 : decode cX7_init 153 = .ok (.aload_n 0, 1) := by decide +kernel
theorem dX7_init_154 : decode cX7_init 154 = .ok (.bipush 100, 2) := by decide +kernel
theorem dX7_init_156 : decode cX7_init 156 = .ok (.newarray .long, 2) := by decide +kernel
theorem dX7_init_158 : decode cX7_init 158 = .ok (.putfield 66, 3) := by decide +kernel
theorem dX7_init_161 : decode cX7_init 161 = .ok (.aload_n 0, 1) := by decide +kernel
theorem dX7_init_162 : decode cX7_init 162 = .ok (.bipush 100, 2) := by decide +kernel
theorem dX7_init_164 : decode cX7_init 164 = .ok (.newarray .int, 2) := by decide +kernel
theorem dX7_init_166 : decode cX7_init 166 = .ok (.putfield 69, 3) := by decide +kernel
theorem dX7_init_169 : decode cX7_init 169 = .ok (.aload_n 0, 1) := by decide +kernel
theorem dX7_init_170 : decode cX7_init 170 = .ok (.bipush 100, 2) := by decide +kernel
theorem dX7_init_172 : decode cX7_init 172 = .ok (.newarray .int, 2) := by decide +kernel
theorem dX7_init_174 : decode cX7_init 174 = .ok (.putfield 72, 3) := by decide +kernel
theorem dX7_init_177 : decode cX7_init 177 = .ok (.aload_n 0, 1) := by decide +kernel
theorem dX7_init_178 : decode cX7_init 178 = .ok (.bipush 100, 2) := by decide +kernel
theorem dX7_init_180 : decode cX7_init 180 = .ok (.newarray .int, 2) := by decide +kernel
theorem dX7_init_182 : decode cX7_init 182 = .ok (.putfield 75, 3) := by decide +kernel
theorem dX7_init_185 : decode cX7_init 185 = .ok (.aload_n 0, 1) := by decide +kernel
theorem dX7_init_186 : decode cX7_init 186 = .ok (.sipush 1100, 3) := by decide +kernel
theorem dX7_init_189 : decode cX7_init 189 = .ok (.newarray .int, 2) := by decide +kernel
theorem dX7_init_191 : decode cX7_init 191 = .ok (.putfield 78, 3) := by decide +kernel
theorem dX7_init_194 : decode cX7_init 194 = .ok (.aload_n 0, 1) := by decide +kernel
theorem dX7_init_195 : decode cX7_init 195 = .ok (.bipush 100, 2) := by decide +kernel
theorem dX7_init_197 : decode cX7_init 197 = .ok (.newarray .int, 2) := by decide +kernel
theorem dX7_init_199 : decode cX7_init 199 = .ok (.putfield 81, 3) := by decide +kernel
theorem dX7_init_202 : decode cX7_init 202 = .ok (.aload_n 0, 1) := by decide +kernel
theorem dX7_init_203 : decode cX7_init 203 = .ok (.bipush 100, 2) := by decide +kernel
theorem dX7_init_205 : decode cX7_init 205 = .ok (.newarray .int, 2) := by decide +kernel
theorem dX7_init_207 : decode cX7_init 207 = .ok (.putfield 84, 3) := by decide +kernel
theorem dX7_init_210 : decode cX7_init 210 = .ok (.aload_n 0, 1) := by decide +kernel
theorem dX7_init_211 : decode cX7_init 211 = .ok (.sipush 26000, 3) := by decide +kernel
theorem dX7_init_214 : decode cX7_init 214 = .ok (.newarray .int, 2) := by decide +kernel
theorem dX7_init_216 : decode cX7_init 216 = .ok (.putfield 87, 3) := by decide +kernel
theorem dX7_init_219 : decode cX7_init 219 = .ok (.aload_n 0, 1) := by decide +kernel
theorem dX7_init_220 : decode cX7_init 220 = .ok (.iconst (-1), 1) := by decide +kernel
theorem dX7_init_221 : decode cX7_init 221 = .ok (.putfield 90, 3) := by decide +kernel
theorem dX7_init_224 : decode cX7_init 224 = .ok (.aload_n 0, 1) := by decide +kernel
theorem dX7_init_225 : decode cX7_init 225 = .ok (.sipush 300, 3) := by decide +kernel
theorem dX7_init_228 : decode cX7_init 228 = .ok (.newarray .int, 2) := by decide +kernel
theorem dX7_init_230 : decode cX7_init 230 = .ok (.putfield 94, 3) := by decide +kernel
theorem dX7_init_233 : decode cX7_init 233 = .ok (.return_, 1) := by decide +kernel
theorem dX7_fails_0 : decode cX7_fails 0 = .ok (.aload_n 0, 1) := by decide +kernel
theorem dX7_fails_1 : decode cX7_fails 1 = .ok (.iload_n 1, 1) := by decide +kernel
theorem dX7_fails_2 : decode cX7_fails 2 = .ok (.ifCond .ne 7, 3) := by decide +kernel
theorem dX7_fails_5 : decode cX7_fails 5 = .ok (.iconst 1, 1) := by decide +kernel
theorem dX7_fails_6 : decode cX7_fails 6 = .ok (.goto 12, 3) := by decide +kernel
theorem dX7_fails_9 : decode cX7_fails 9 = .ok (.iload_n 2, 1) := by decide +kernel
theorem dX7_fails_10 : decode cX7_fails 10 = .ok (.ifCond .ne 7, 3) := by decide +kernel
theorem dX7_fails_13 : decode cX7_fails 13 = .ok (.iconst 2, 1) := by decide +kernel
theorem dX7_fails_14 : decode cX7_fails 14 = .ok (.goto 4, 3) := by decide +kernel
theorem dX7_fails_17 : decode cX7_fails 17 = .ok (.iconst 0, 1) := by decide +kernel
theorem dX7_fails_18 : decode cX7_fails 18 = .ok (.putfield 97, 3) := by decide +kernel
theorem dX7_fails_21 : decode cX7_fails 21 = .ok (.aload_n 0, 1) := by decide +kernel
theorem dX7_fails_22 : decode cX7_fails 22 = .ok (.getfield 97, 3) := by decide +kernel
theorem dX7_fails_25 : decode cX7_fails 25 = .ok (.ifCond .le 7, 3) := by decide +kernel
theorem dX7_fails_28 : decode cX7_fails 28 = .ok (.iconst 1, 1) := by decide +kernel
theorem dX7_fails_29 : decode cX7_fails 29 = .ok (.goto 4, 3) := by decide +kernel
theorem dX7_fails_32 : decode cX7_fails 32 = .ok (.iconst 0, 1) := by decide +kernel
theorem dX7_fails_33 : decode cX7_fails 33 = .ok (.ireturn, 1) := by decide +kernel
theorem dX7_in_0 : decode cX7_in 0 = .ok (.iload_n 0, 1) := by decide +kernel
theorem dX7_in_1 : decode cX7_in 1 = .ok (.iload_n 1, 1) := by decide +kernel
theorem dX7_in_2 : decode cX7_in 2 = .ok (.if_icmp .lt 12, 3) := by decide +kernel
theorem dX7_in_5 : decode cX7_in 5 = .ok (.iload_n 0, 1) := by decide +kernel
theorem dX7_in_6 : decode cX7_in 6 = .ok (.iload_n 2, 1) := by decide +kernel
theorem dX7_in_7 : decode cX7_in 7 = .ok (.if_icmp .gt 7, 3) := by decide +kernel
theorem dX7_in_10 : decode cX7_in 10 = .ok (.iconst 1, 1) := by decide +kernel
theorem dX7_in_11 : decode cX7_in 11 = .ok (.goto 4, 3) := by decide +kernel
theorem dX7_in_14 : decode cX7_in 14 = .ok (.iconst 0, 1) := by decide +kernel
theorem dX7_in_15 : decode cX7_in 15 = .ok (.ireturn, 1) := by decide +kernel
theorem dX7_type_0 : decode cX7_type 0 = .ok (.aload_n 0, 1) := by decide +kernel
theorem dX7_type_1 : decode cX7_type 1 = .ok (.iload_n 3, 1) := by decide +kernel
theorem dX7_type_2 : decode cX7_type 2 = .ok (.iconst 1, 1) := by decide +kernel
theorem dX7_type_3 : decode cX7_type 3 = .ok (.bipush 8, 2) := by decide +kernel
theorem dX7_type_5 : decode cX7_type 5 = .ok (.invokestatic 100, 3) := by decide +kernel
theorem dX7_type_8 : decode cX7_type 8 = .ok (.iload_n 3, 1) := by decide +kernel
theorem dX7_type_9 : decode cX7_type 9 = .ok (.iconst 1, 1) := by decide +kernel
theorem dX7_type_10 : decode cX7_type 10 = .ok (.bipush 8, 2) := by decide +kernel
theorem dX7_type_12 : decode cX7_type 12 = .ok (.invokestatic 100, 3) := by decide +kernel
theorem dX7_type_15 : decode cX7_type 15 = .ok (.ifCond .eq 15, 3) := by decide +kernel
theorem dX7_type_18 : decode cX7_type 18 = .ok (.aload_n 0, 1) := by decide +kernel
theorem dX7_type_19 : decode cX7_type 19 = .ok (.getfield 104, 3) := by decide +kernel
theorem dX7_type_22 : decode cX7_type 22 = .ok (.iload_n 3, 1) := by decide +kernel
theorem dX7_type_23 : decode cX7_type 23 = .ok (.iadd, 1) := by decide +kernel
theorem dX7_type_24 : decode cX7_type 24 = .ok (.sipush 300, 3) := by decide +kernel
theorem dX7_type_27 : decode cX7_type 27 = .ok (.if_icmp .gt 7, 3) := by decide +kernel
theorem dX7_type_30 : decode cX7_type 30 = .ok (.iconst 1, 1) := by decide +kernel
theorem dX7_type_31 : decode cX7_type 31 = .ok (.goto 4, 3) := by decide +kernel
theorem dX7_type_34 : decode cX7_type 34 = .ok (.iconst 0, 1) := by decide +kernel
theorem dX7_type_35 : decode cX7_type 35 = .ok (.invokevirtual 107, 3) := by decide +kernel
theorem dX7_type_38 : decode cX7_type 38 = .ok (.ifCond .eq 5, 3) := by decide +kernel
theorem dX7_type_41 : decode cX7_type 41 = .ok (.iconst 0, 1) := by decide +kernel
theorem dX7_type_42 : decode cX7_type 42 = .ok (.ireturn, 1) := by decide +kernel
theorem dX7_type_43 : decode cX7_type 43 = .ok (.iload_n 3, 1) := by decide +kernel
theorem dX7_type_44 : decode cX7_type 44 = .ok (.iconst 1, 1) := by decide +kernel
theorem dX7_type_45 : decode cX7_type 45 = .ok (.isub, 1) := by decide +kernel
theorem dX7_type_46 : decode cX7_type 46 = .ok (.istore 4, 2) := by decide +kernel
theorem dX7_type_48 : decode cX7_type 48 = .ok (.iload 4, 2) := by decide +kernel
theorem dX7_type_50 : decode cX7_type 50 = .ok (.ifCond .lt 40, 3) := by decide +kernel
theorem dX7_type_53 : decode cX7_type 53 = .ok (.aload_n 0, 1) := by decide +kernel
theorem dX7_type_54 : decode cX7_type 54 = .ok (.getfield 7, 3) := by decide +kernel
theorem dX7_type_57 : decode cX7_type 57 = .ok (.aload_n 0, 1) := by decide +kernel
theorem dX7_type_58 : decode cX7_type 58 = .ok (.getfield 104, 3) := by decide +kernel
theorem dX7_type_61 : decode cX7_type 61 = .ok (.lload_n 1, 1) := by decide +kernel
theorem dX7_type_62 : decode cX7_type 62 = .ok (.bipush 8, 2) := by decide +kernel
theorem dX7_type_64 : decode cX7_type 64 = .ok (.iload 4, 2) := by decide +kernel
theorem dX7_type_66 : decode cX7_type 66 = .ok (.imul, 1) := by decide +kernel
theorem dX7_type_67 : decode cX7_type 67 = .ok (.lshr, 1) := by decide +kernel
theorem dX7_type_68 : decode cX7_type 68 = .ok (.ldc2_w 111, 3) := by decide +kernel
theorem dX7_type_71 : decode cX7_type 71 = .ok (.land, 1) := by decide +kernel
theorem dX7_type_72 : decode cX7_type 72 = .ok (.l2i, 1) := by decide +kernel
theorem dX7_type_73 : decode cX7_type 73 = .ok (.iastore, 1) := by decide +kernel
theorem dX7_type_74 : decode cX7_type 74 = .ok (.aload_n 0, 1) := by decide +kernel
theorem dX7_type_75 : decode cX7_type 75 = .ok (.dup, 1) := by decide +kernel
theorem dX7_type_76 : decode cX7_type 76 = .ok (.getfield 104, 3) := by decide +kernel
theorem dX7_type_79 : decode cX7_type 79 = .ok (.iconst 1, 1) := by decide +kernel
theorem dX7_type_80 : decode cX7_type 80 = .ok (.iadd, 1) := by decide +kernel
theorem dX7_type_81 : decode cX7_type 81 = .ok (.putfield 104, 3) := by decide +kernel
theorem dX7_type_84 : decode cX7_type 84 = .ok (.iinc 4 (-1), 3) := by decide +kernel
theorem dX7_type_87 : decode cX7_type 87 = .ok (.goto (-39), 3) := by decide +kernel
theorem dX7_type_90 : decode cX7_type 90 = .ok (.aload_n 0, 1) := by decide +kernel
theorem dX7_type_91 : decode cX7_type 91 = .ok (.getfield 104, 3) := by decide +kernel
theorem dX7_type_94 : decode cX7_type 94 = .ok (.ireturn, 1) := by decide +kernel
theorem dX7_keep_0 : decode cX7_keep 0 = .ok (.aload_n 0, 1) := by decide +kernel
theorem dX7_keep_1 : decode cX7_keep 1 = .ok (.iload_n 1, 1) := by decide +kernel
theorem dX7_keep_2 : decode cX7_keep 2 = .ok (.iconst 0, 1) := by decide +kernel
theorem dX7_keep_3 : decode cX7_keep 3 = .ok (.aload_n 0, 1) := by decide +kernel
theorem dX7_keep_4 : decode cX7_keep 4 = .ok (.getfield 104, 3) := by decide +kernel
theorem dX7_keep_7 : decode cX7_keep 7 = .ok (.invokestatic 100, 3) := by decide +kernel
theorem dX7_keep_10 : decode cX7_keep 10 = .ok (.iconst 1, 1) := by decide +kernel
theorem dX7_keep_11 : decode cX7_keep 11 = .ok (.invokevirtual 107, 3) := by decide +kernel
theorem dX7_keep_14 : decode cX7_keep 14 = .ok (.ifCond .ne 8, 3) := by decide +kernel
theorem dX7_keep_17 : decode cX7_keep 17 = .ok (.aload_n 0, 1) := by decide +kernel
theorem dX7_keep_18 : decode cX7_keep 18 = .ok (.iload_n 1, 1) := by decide +kernel
theorem dX7_keep_19 : decode cX7_keep 19 = .ok (.putfield 104, 3) := by decide +kernel
theorem dX7_keep_22 : decode cX7_keep 22 = .ok (.return_, 1) := by decide +kernel
theorem dX7_typed_0 : decode cX7_typed 0 = .ok (.aload_n 0, 1) := by decide +kernel
theorem dX7_typed_1 : decode cX7_typed 1 = .ok (.iload_n 1, 1) := by decide +kernel
theorem dX7_typed_2 : decode cX7_typed 2 = .ok (.iconst 0, 1) := by decide +kernel
theorem dX7_typed_3 : decode cX7_typed 3 = .ok (.aload_n 0, 1) := by decide +kernel
theorem dX7_typed_4 : decode cX7_typed 4 = .ok (.getfield 104, 3) := by decide +kernel
theorem dX7_typed_7 : decode cX7_typed 7 = .ok (.iconst 1, 1) := by decide +kernel
theorem dX7_typed_8 : decode cX7_typed 8 = .ok (.isub, 1) := by decide +kernel
theorem dX7_typed_9 : decode cX7_typed 9 = .ok (.invokestatic 100, 3) := by decide +kernel
theorem dX7_typed_12 : decode cX7_typed 12 = .ok (.iconst 1, 1) := by decide +kernel
theorem dX7_typed_13 : decode cX7_typed 13 = .ok (.invokevirtual 107, 3) := by decide +kernel
theorem dX7_typed_16 : decode cX7_typed 16 = .ok (.ifCond .eq 7, 3) := by decide +kernel
theorem dX7_typed_19 : decode cX7_typed 19 = .ok (.iconst 0, 1) := by decide +kernel
theorem dX7_typed_20 : decode cX7_typed 20 = .ok (.goto 9, 3) := by decide +kernel
theorem dX7_typed_23 : decode cX7_typed 23 = .ok (.aload_n 0, 1) := by decide +kernel
theorem dX7_typed_24 : decode cX7_typed 24 = .ok (.getfield 7, 3) := by decide +kernel
theorem dX7_typed_27 : decode cX7_typed 27 = .ok (.iload_n 1, 1) := by decide +kernel
theorem dX7_typed_28 : decode cX7_typed 28 = .ok (.iaload, 1) := by decide +kernel
theorem dX7_typed_29 : decode cX7_typed 29 = .ok (.ireturn, 1) := by decide +kernel
theorem dX7_isMeter_0 : decode cX7_isMeter 0 = .ok (.iload_n 1, 1) := by decide +kernel
theorem dX7_isMeter_1 : decode cX7_isMeter 1 = .ok (.iconst 0, 1) := by decide +kernel
theorem dX7_isMeter_2 : decode cX7_isMeter 2 = .ok (.bipush 11, 2) := by decide +kernel
theorem dX7_isMeter_4 : decode cX7_isMeter 4 = .ok (.invokestatic 100, 3) := by decide +kernel
theorem dX7_isMeter_7 : decode cX7_isMeter 7 = .ok (.ifCond .eq 16, 3) := by decide +kernel
theorem dX7_isMeter_10 : decode cX7_isMeter 10 = .ok (.aload_n 0, 1) := by decide +kernel
theorem dX7_isMeter_11 : decode cX7_isMeter 11 = .ok (.getfield 19, 3) := by decide +kernel
theorem dX7_isMeter_14 : decode cX7_isMeter 14 = .ok (.iload_n 1, 1) := by decide +kernel
theorem dX7_isMeter_15 : decode cX7_isMeter 15 = .ok (.baload, 1) := by decide +kernel
theorem dX7_isMeter_16 : decode cX7_isMeter 16 = .ok (.ifCond .eq 7, 3) := by decide +kernel
theorem dX7_isMeter_19 : decode cX7_isMeter 19 = .ok (.iconst 1, 1) := by decide +kernel
theorem dX7_isMeter_20 : decode cX7_isMeter 20 = .ok (.goto 4, 3) := by decide +kernel
theorem dX7_isMeter_23 : decode cX7_isMeter 23 = .ok (.iconst 0, 1) := by decide +kernel
theorem dX7_isMeter_24 : decode cX7_isMeter 24 = .ok (.ireturn, 1) := by decide +kernel
theorem dX7_meter_0 : decode cX7_meter 0 = .ok (.iload_n 2, 1) := by decide +kernel
theorem dX7_meter_1 : decode cX7_meter 1 = .ok (.iconst 0, 1) := by decide +kernel
theorem dX7_meter_2 : decode cX7_meter 2 = .ok (.sipush 250, 3) := by decide +kernel
theorem dX7_meter_5 : decode cX7_meter 5 = .ok (.invokestatic 100, 3) := by decide +kernel
theorem dX7_meter_8 : decode cX7_meter 8 = .ok (.ifCond .eq 73, 3) := by decide +kernel
theorem dX7_meter_11 : decode cX7_meter 11 = .ok (.iload 4, 2) := by decide +kernel
theorem dX7_meter_13 : decode cX7_meter 13 = .ok (.iconst 0, 1) := by decide +kernel
theorem dX7_meter_14 : decode cX7_meter 14 = .ok (.ldc 113, 2) := by decide +kernel
theorem dX7_meter_16 : decode cX7_meter 16 = .ok (.invokestatic 100, 3) := by decide +kernel
theorem dX7_meter_19 : decode cX7_meter 19 = .ok (.ifCond .eq 62, 3) := by decide +kernel
theorem dX7_meter_22 : decode cX7_meter 22 = .ok (.iload 4, 2) := by decide +kernel
theorem dX7_meter_24 : decode cX7_meter 24 = .ok (.sipush 255, 3) := by decide +kernel
theorem dX7_meter_27 : decode cX7_meter 27 = .ok (.iand, 1) := by decide +kernel
theorem dX7_meter_28 : decode cX7_meter 28 = .ok (.iconst 0, 1) := by decide +kernel
theorem dX7_meter_29 : decode cX7_meter 29 = .ok (.sipush 254, 3) := by decide +kernel
theorem dX7_meter_32 : decode cX7_meter 32 = .ok (.invokestatic 100, 3) := by decide +kernel
theorem dX7_meter_35 : decode cX7_meter 35 = .ok (.ifCond .eq 46, 3) := by decide +kernel
theorem dX7_meter_38 : decode cX7_meter 38 = .ok (.iload 4, 2) := by decide +kernel
theorem dX7_meter_40 : decode cX7_meter 40 = .ok (.bipush 8, 2) := by decide +kernel
theorem dX7_meter_42 : decode cX7_meter 42 = .ok (.ishr, 1) := by decide +kernel
theorem dX7_meter_43 : decode cX7_meter 43 = .ok (.iconst 0, 1) := by decide +kernel
theorem dX7_meter_44 : decode cX7_meter 44 = .ok (.sipush 254, 3) := by decide +kernel
theorem dX7_meter_47 : decode cX7_meter 47 = .ok (.invokestatic 100, 3) := by decide +kernel
theorem dX7_meter_50 : decode cX7_meter 50 = .ok (.ifCond .eq 31, 3) := by decide +kernel
theorem dX7_meter_53 : decode cX7_meter 53 = .ok (.iload 5, 2) := by decide +kernel
theorem dX7_meter_55 : decode cX7_meter 55 = .ok (.iconst 0, 1) := by decide +kernel
theorem dX7_meter_56 : decode cX7_meter 56 = .ok (.sipush 254, 3) := by decide +kernel
theorem dX7_meter_59 : decode cX7_meter 59 = .ok (.invokestatic 100, 3) := by decide +kernel
theorem dX7_meter_62 : decode cX7_meter 62 = .ok (.ifCond .eq 19, 3) := by decide +kernel
theorem dX7_meter_65 : decode cX7_meter 65 = .ok (.iload 6, 2) := by decide +kernel
theorem dX7_meter_67 : decode cX7_meter 67 = .ok (.iconst 0, 1) := by decide +kernel
theorem dX7_meter_68 : decode cX7_meter 68 = .ok (.sipush 254, 3) := by decide +kernel
theorem dX7_meter_71 : decode cX7_meter 71 = .ok (.invokestatic 100, 3) := by decide +kernel
theorem dX7_meter_74 : decode cX7_meter 74 = .ok (.ifCond .eq 7, 3) := by decide +kernel
theorem dX7_meter_77 : decode cX7_meter 77 = .ok (.iconst 1, 1) := by decide +kernel
theorem dX7_meter_78 : decode cX7_meter 78 = .ok (.goto 4, 3) := by decide +kernel
theorem dX7_meter_81 : decode cX7_meter 81 = .ok (.iconst 0, 1) := by decide +kernel
theorem dX7_meter_82 : decode cX7_meter 82 = .ok (.istore 7, 2) := by decide +kernel
theorem dX7_meter_84 : decode cX7_meter 84 = .ok (.iconst 0, 1) := by decide +kernel
theorem dX7_meter_85 : decode cX7_meter 85 = .ok (.istore 8, 2) := by decide +kernel
theorem dX7_meter_87 : decode cX7_meter 87 = .ok (.iload 8, 2) := by decide +kernel
theorem dX7_meter_89 : decode cX7_meter 89 = .ok (.bipush 8, 2) := by decide +kernel
theorem dX7_meter_91 : decode cX7_meter 91 = .ok (.if_icmp .ge 35, 3) := by decide +kernel
theorem dX7_meter_94 : decode cX7_meter 94 = .ok (.iload 7, 2) := by decide +kernel
theorem dX7_meter_96 : decode cX7_meter 96 = .ok (.ifCond .eq 21, 3) := by decide +kernel
theorem dX7_meter_99 : decode cX7_meter 99 = .ok (.iload_n 3, 1) := by decide +kernel
theorem dX7_meter_100 : decode cX7_meter 100 = .ok (.iconst 4, 1) := by decide +kernel
theorem dX7_meter_101 : decode cX7_meter 101 = .ok (.iload 8, 2) := by decide +kernel
theorem dX7_meter_103 : decode cX7_meter 103 = .ok (.imul, 1) := by decide +kernel
theorem dX7_meter_104 : decode cX7_meter 104 = .ok (.ishr, 1) := by decide +kernel
theorem dX7_meter_105 : decode cX7_meter 105 = .ok (.bipush 15, 2) := by decide +kernel
theorem dX7_meter_107 : decode cX7_meter 107 = .ok (.iand, 1) := by decide +kernel
theorem dX7_meter_108 : decode cX7_meter 108 = .ok (.bipush 10, 2) := by decide +kernel
theorem dX7_meter_110 : decode cX7_meter 110 = .ok (.if_icmp .ge 7, 3) := by decide +kernel
theorem dX7_meter_113 : decode cX7_meter 113 = .ok (.iconst 1, 1) := by decide +kernel
theorem dX7_meter_114 : decode cX7_meter 114 = .ok (.goto 4, 3) := by decide +kernel
theorem dX7_meter_117 : decode cX7_meter 117 = .ok (.iconst 0, 1) := by decide +kernel
theorem dX7_meter_118 : decode cX7_meter 118 = .ok (.istore 7, 2) := by decide +kernel
theorem dX7_meter_120 : decode cX7_meter 120 = .ok (.iinc 8 1, 3) := by decide +kernel
theorem dX7_meter_123 : decode cX7_meter 123 = .ok (.goto (-36), 3) := by decide +kernel
theorem dX7_meter_126 : decode cX7_meter 126 = .ok (.iconst 0, 1) := by decide +kernel
theorem dX7_meter_127 : decode cX7_meter 127 = .ok (.istore 8, 2) := by decide +kernel
theorem dX7_meter_129 : decode cX7_meter 129 = .ok (.iload 8, 2) := by decide +kernel
theorem dX7_meter_131 : decode cX7_meter 131 = .ok (.bipush 12, 2) := by decide +kernel
theorem dX7_meter_133 : decode cX7_meter 133 = .ok (.if_icmp .ge 105, 3) := by decide +kernel
theorem dX7_meter_136 : decode cX7_meter 136 = .ok (.iload 7, 2) := by decide +kernel
theorem dX7_meter_138 : decode cX7_meter 138 = .ok (.ifCond .eq 100, 3) := by decide +kernel
theorem dX7_meter_141 : decode cX7_meter 141 = .ok (.aload_n 0, 1) := by decide +kernel
theorem dX7_meter_142 : decode cX7_meter 142 = .ok (.getfield 19, 3) := by decide +kernel
theorem dX7_meter_145 : decode cX7_meter 145 = .ok (.iload 8, 2) := by decide +kernel
theorem dX7_meter_147 : decode cX7_meter 147 = .ok (.baload, 1) := by decide +kernel
theorem dX7_meter_148 : decode cX7_meter 148 = .ok (.ifCond .eq 13, 3) := by decide +kernel
theorem dX7_meter_151 : decode cX7_meter 151 = .ok (.iload 8, 2) := by decide +kernel
theorem dX7_meter_153 : decode cX7_meter 153 = .ok (.iload_n 1, 1) := by decide +kernel
theorem dX7_meter_154 : decode cX7_meter 154 = .ok (.if_icmp .eq 7, 3) := by decide +kernel
theorem dX7_meter_157 : decode cX7_meter 157 = .ok (.iconst 1, 1) := by decide +kernel
theorem dX7_meter_158 : decode cX7_meter 158 = .ok (.goto 4, 3) := by decide +kernel
theorem dX7_meter_161 : decode cX7_meter 161 = .ok (.iconst 0, 1) := by decide +kernel
theorem dX7_meter_162 : decode cX7_meter 162 = .ok (.istore 9, 2) := by decide +kernel
theorem dX7_meter_164 : decode cX7_meter 164 = .ok (.iconst 0, 1) := by decide +kernel
theorem dX7_meter_165 : decode cX7_meter 165 = .ok (.istore 10, 2) := by decide +kernel
theorem dX7_meter_167 : decode cX7_meter 167 = .ok (.iload 10, 2) := by decide +kernel
theorem dX7_meter_169 : decode cX7_meter 169 = .ok (.bipush 8, 2) := by decide +kernel
theorem dX7_meter_171 : decode cX7_meter 171 = .ok (.if_icmp .ge 49, 3) := by decide +kernel
theorem dX7_meter_174 : decode cX7_meter 174 = .ok (.iload 9, 2) := by decide +kernel
theorem dX7_meter_176 : decode cX7_meter 176 = .ok (.ifCond .eq 35, 3) := by decide +kernel
theorem dX7_meter_179 : decode cX7_meter 179 = .ok (.aload_n 0, 1) := by decide +kernel
theorem dX7_meter_180 : decode cX7_meter 180 = .ok (.getfield 26, 3) := by decide +kernel
theorem dX7_meter_183 : decode cX7_meter 183 = .ok (.bipush 8, 2) := by decide +kernel
theorem dX7_meter_185 : decode cX7_meter 185 = .ok (.iload 8, 2) := by decide +kernel
theorem dX7_meter_187 : decode cX7_meter 187 = .ok (.imul, 1) := by decide +kernel
theorem dX7_meter_188 : decode cX7_meter 188 = .ok (.iload 10, 2) := by decide +kernel
theorem dX7_meter_190 : decode cX7_meter 190 = .ok (.iadd, 1) := by decide +kernel
theorem dX7_meter_191 : decode cX7_meter 191 = .ok (.iaload, 1) := by decide +kernel
theorem dX7_meter_192 : decode cX7_meter 192 = .ok (.iload 10, 2) := by decide +kernel
theorem dX7_meter_194 : decode cX7_meter 194 = .ok (.iload_n 3, 1) := by decide +kernel
theorem dX7_meter_195 : decode cX7_meter 195 = .ok (.iload 4, 2) := by decide +kernel
theorem dX7_meter_197 : decode cX7_meter 197 = .ok (.iload 5, 2) := by decide +kernel
theorem dX7_meter_199 : decode cX7_meter 199 = .ok (.iload 6, 2) := by decide +kernel
theorem dX7_meter_201 : decode cX7_meter 201 = .ok (.invokestatic 114, 3) := by decide +kernel
theorem dX7_meter_204 : decode cX7_meter 204 = .ok (.if_icmp .ne 7, 3) := by decide +kernel
theorem dX7_meter_207 : decode cX7_meter 207 = .ok (.iconst 1, 1) := by decide +kernel
theorem dX7_meter_208 : decode cX7_meter 208 = .ok (.goto 4, 3) := by decide +kernel
theorem dX7_meter_211 : decode cX7_meter 211 = .ok (.iconst 0, 1) := by decide +kernel
theorem dX7_meter_212 : decode cX7_meter 212 = .ok (.istore 9, 2) := by decide +kernel
theorem dX7_meter_214 : decode cX7_meter 214 = .ok (.iinc 10 1, 3) := by decide +kernel
theorem dX7_meter_217 : decode cX7_meter 217 = .ok (.goto (-50), 3) := by decide +kernel
theorem dX7_meter_220 : decode cX7_meter 220 = .ok (.iload 9, 2) := by decide +kernel
theorem dX7_meter_222 : decode cX7_meter 222 = .ok (.ifCond .ne 7, 3) := by decide +kernel
theorem dX7_meter_225 : decode cX7_meter 225 = .ok (.iconst 1, 1) := by decide +kernel
theorem dX7_meter_226 : decode cX7_meter 226 = .ok (.goto 4, 3) := by decide +kernel
theorem dX7_meter_229 : decode cX7_meter 229 = .ok (.iconst 0, 1) := by decide +kernel
theorem dX7_meter_230 : decode cX7_meter 230 = .ok (.istore 7, 2) := by decide +kernel
theorem dX7_meter_232 : decode cX7_meter 232 = .ok (.iinc 8 1, 3) := by decide +kernel
theorem dX7_meter_235 : decode cX7_meter 235 = .ok (.goto (-106), 3) := by decide +kernel
theorem dX7_meter_238 : decode cX7_meter 238 = .ok (.aload_n 0, 1) := by decide +kernel
theorem dX7_meter_239 : decode cX7_meter 239 = .ok (.iload_n 1, 1) := by decide +kernel
theorem dX7_meter_240 : decode cX7_meter 240 = .ok (.iconst 0, 1) := by decide +kernel
theorem dX7_meter_241 : decode cX7_meter 241 = .ok (.bipush 11, 2) := by decide +kernel
theorem dX7_meter_243 : decode cX7_meter 243 = .ok (.invokestatic 100, 3) := by decide +kernel
theorem dX7_meter_246 : decode cX7_meter 246 = .ok (.iload 7, 2) := by decide +kernel
theorem dX7_meter_248 : decode cX7_meter 248 = .ok (.invokevirtual 107, 3) := by decide +kernel
theorem dX7_meter_251 : decode cX7_meter 251 = .ok (.ifCond .eq 4, 3) := by decide +kernel
theorem dX7_meter_254 : decode cX7_meter 254 = .ok (.return_, 1) := by decide +kernel
theorem dX7_meter_255 : decode cX7_meter 255 = .ok (.aload_n 0, 1) := by decide +kernel
theorem dX7_meter_256 : decode cX7_meter 256 = .ok (.getfield 19, 3) := by decide +kernel
theorem dX7_meter_259 : decode cX7_meter 259 = .ok (.iload_n 1, 1) := by decide +kernel
theorem dX7_meter_260 : decode cX7_meter 260 = .ok (.iconst 1, 1) := by decide +kernel
theorem dX7_meter_261 : decode cX7_meter 261 = .ok (.bastore, 1) := by decide +kernel
theorem dX7_meter_262 : decode cX7_meter 262 = .ok (.aload_n 0, 1) := by decide +kernel
theorem dX7_meter_263 : decode cX7_meter 263 = .ok (.getfield 23, 3) := by decide +kernel
theorem dX7_meter_266 : decode cX7_meter 266 = .ok (.iload_n 1, 1) := by decide +kernel
theorem dX7_meter_267 : decode cX7_meter 267 = .ok (.iload_n 2, 1) := by decide +kernel
theorem dX7_meter_268 : decode cX7_meter 268 = .ok (.iastore, 1) := by decide +kernel
theorem dX7_meter_269 : decode cX7_meter 269 = .ok (.iconst 0, 1) := by decide +kernel
theorem dX7_meter_270 : decode cX7_meter 270 = .ok (.istore 8, 2) := by decide +kernel
theorem dX7_meter_272 : decode cX7_meter 272 = .ok (.iload 8, 2) := by decide +kernel
theorem dX7_meter_274 : decode cX7_meter 274 = .ok (.bipush 8, 2) := by decide +kernel
theorem dX7_meter_276 : decode cX7_meter 276 = .ok (.if_icmp .ge 33, 3) := by decide +kernel
theorem dX7_meter_279 : decode cX7_meter 279 = .ok (.aload_n 0, 1) := by decide +kernel
theorem dX7_meter_280 : decode cX7_meter 280 = .ok (.getfield 26, 3) := by decide +kernel
theorem dX7_meter_283 : decode cX7_meter 283 = .ok (.bipush 8, 2) := by decide +kernel
theorem dX7_meter_285 : decode cX7_meter 285 = .ok (.iload_n 1, 1) := by decide +kernel
theorem dX7_meter_286 : decode cX7_meter 286 = .ok (.imul, 1) := by decide +kernel
theorem dX7_meter_287 : decode cX7_meter 287 = .ok (.iload 8, 2) := by decide +kernel
theorem dX7_meter_289 : decode cX7_meter 289 = .ok (.iadd, 1) := by decide +kernel
theorem dX7_meter_290 : decode cX7_meter 290 = .ok (.iload 8, 2) := by decide +kernel
theorem dX7_meter_292 : decode cX7_meter 292 = .ok (.iload_n 3, 1) := by decide +kernel
theorem dX7_meter_293 : decode cX7_meter 293 = .ok (.iload 4, 2) := by decide +kernel
theorem dX7_meter_295 : decode cX7_meter 295 = .ok (.iload 5, 2) := by decide +kernel
theorem dX7_meter_297 : decode cX7_meter 297 = .ok (.iload 6, 2) := by decide +kernel
theorem dX7_meter_299 : decode cX7_meter 299 = .ok (.invokestatic 114, 3) := by decide +kernel
theorem dX7_meter_302 : decode cX7_meter 302 = .ok (.iastore, 1) := by decide +kernel
theorem dX7_meter_303 : decode cX7_meter 303 = .ok (.iinc 8 1, 3) := by decide +kernel
theorem dX7_meter_306 : decode cX7_meter 306 = .ok (.goto (-34), 3) := by decide +kernel
theorem dX7_meter_309 : decode cX7_meter 309 = .ok (.aload_n 0, 1) := by decide +kernel
theorem dX7_meter_310 : decode cX7_meter 310 = .ok (.getfield 29, 3) := by decide +kernel
theorem dX7_meter_313 : decode cX7_meter 313 = .ok (.iload_n 1, 1) := by decide +kernel
theorem dX7_meter_314 : decode cX7_meter 314 = .ok (.iconst 0, 1) := by decide +kernel
theorem dX7_meter_315 : decode cX7_meter 315 = .ok (.bastore, 1) := by decide +kernel
theorem dX7_meter_316 : decode cX7_meter 316 = .ok (.aload_n 0, 1) := by decide +kernel
theorem dX7_meter_317 : decode cX7_meter 317 = .ok (.getfield 35, 3) := by decide +kernel
theorem dX7_meter_320 : decode cX7_meter 320 = .ok (.iload_n 1, 1) := by decide +kernel
theorem dX7_meter_321 : decode cX7_meter 321 = .ok (.iconst (-1), 1) := by decide +kernel
theorem dX7_meter_322 : decode cX7_meter 322 = .ok (.iastore, 1) := by decide +kernel
theorem dX7_meter_323 : decode cX7_meter 323 = .ok (.aload_n 0, 1) := by decide +kernel
theorem dX7_meter_324 : decode cX7_meter 324 = .ok (.getfield 32, 3) := by decide +kernel
theorem dX7_meter_327 : decode cX7_meter 327 = .ok (.iload_n 1, 1) := by decide +kernel
theorem dX7_meter_328 : decode cX7_meter 328 = .ok (.iconst (-1), 1) := by decide +kernel
theorem dX7_meter_329 : decode cX7_meter 329 = .ok (.iastore, 1) := by decide +kernel
theorem dX7_meter_330 : decode cX7_meter 330 = .ok (.aload_n 0, 1) := by decide +kernel
theorem dX7_meter_331 : decode cX7_meter 331 = .ok (.getfield 38, 3) := by decide +kernel
theorem dX7_meter_334 : decode cX7_meter 334 = .ok (.iload_n 1, 1) := by decide +kernel
theorem dX7_meter_335 : decode cX7_meter 335 = .ok (.iconst 0, 1) := by decide +kernel
theorem dX7_meter_336 : decode cX7_meter 336 = .ok (.iastore, 1) := by decide +kernel
theorem dX7_meter_337 : decode cX7_meter 337 = .ok (.iconst 0, 1) := by decide +kernel
theorem dX7_meter_338 : decode cX7_meter 338 = .ok (.istore 8, 2) := by decide +kernel
theorem dX7_meter_340 : decode cX7_meter 340 = .ok (.iload 8, 2) := by decide +kernel
theorem dX7_meter_342 : decode cX7_meter 342 = .ok (.iconst 3, 1) := by decide +kernel
theorem dX7_meter_343 : decode cX7_meter 343 = .ok (.if_icmp .ge 21, 3) := by decide +kernel
theorem dX7_meter_346 : decode cX7_meter 346 = .ok (.aload_n 0, 1) := by decide +kernel
theorem dX7_meter_347 : decode cX7_meter 347 = .ok (.getfield 41, 3) := by decide +kernel
theorem dX7_meter_350 : decode cX7_meter 350 = .ok (.iconst 3, 1) := by decide +kernel
theorem dX7_meter_351 : decode cX7_meter 351 = .ok (.iload_n 1, 1) := by decide +kernel
theorem dX7_meter_352 : decode cX7_meter 352 = .ok (.imul, 1) := by decide +kernel
theorem dX7_meter_353 : decode cX7_meter 353 = .ok (.iload 8, 2) := by decide +kernel
theorem dX7_meter_355 : decode cX7_meter 355 = .ok (.iadd, 1) := by decide +kernel
theorem dX7_meter_356 : decode cX7_meter 356 = .ok (.iconst 0, 1) := by decide +kernel
theorem dX7_meter_357 : decode cX7_meter 357 = .ok (.iastore, 1) := by decide +kernel
theorem dX7_meter_358 : decode cX7_meter 358 = .ok (.iinc 8 1, 3) := by decide +kernel
theorem dX7_meter_361 : decode cX7_meter 361 = .ok (.goto (-21), 3) := by decide +kernel
theorem dX7_meter_364 : decode cX7_meter 364 = .ok (.return_, 1) := by decide +kernel
theorem dX7_byteOf_0 : decode cX7_byteOf 0 = .ok (.iload_n 0, 1) := by decide +kernel
theorem dX7_byteOf_1 : decode cX7_byteOf 1 = .ok (.iconst 4, 1) := by decide +kernel
theorem dX7_byteOf_2 : decode cX7_byteOf 2 = .ok (.if_icmp .ge 16, 3) := by decide +kernel
theorem dX7_byteOf_5 : decode cX7_byteOf 5 = .ok (.iload_n 1, 1) := by decide +kernel
theorem dX7_byteOf_6 : decode cX7_byteOf 6 = .ok (.bipush 8, 2) := by decide +kernel
theorem dX7_byteOf_8 : decode cX7_byteOf 8 = .ok (.iload_n 0, 1) := by decide +kernel
theorem dX7_byteOf_9 : decode cX7_byteOf 9 = .ok (.imul, 1) := by decide +kernel
theorem dX7_byteOf_10 : decode cX7_byteOf 10 = .ok (.ishr, 1) := by decide +kernel
theorem dX7_byteOf_11 : decode cX7_byteOf 11 = .ok (.sipush 255, 3) := by decide +kernel
theorem dX7_byteOf_14 : decode cX7_byteOf 14 = .ok (.iand, 1) := by decide +kernel
theorem dX7_byteOf_15 : decode cX7_byteOf 15 = .ok (.goto 40, 3) := by decide +kernel
theorem dX7_byteOf_18 : decode cX7_byteOf 18 = .ok (.iload_n 0, 1) := by decide +kernel
theorem dX7_byteOf_19 : decode cX7_byteOf 19 = .ok (.iconst 4, 1) := by decide +kernel
theorem dX7_byteOf_20 : decode cX7_byteOf 20 = .ok (.if_icmp .ne 11, 3) := by decide +kernel
theorem dX7_byteOf_23 : decode cX7_byteOf 23 = .ok (.iload_n 2, 1) := by decide +kernel
theorem dX7_byteOf_24 : decode cX7_byteOf 24 = .ok (.sipush 255, 3) := by decide +kernel
theorem dX7_byteOf_27 : decode cX7_byteOf 27 = .ok (.iand, 1) := by decide +kernel
theorem dX7_byteOf_28 : decode cX7_byteOf 28 = .ok (.goto 27, 3) := by decide +kernel
theorem dX7_byteOf_31 : decode cX7_byteOf 31 = .ok (.iload_n 0, 1) := by decide +kernel
theorem dX7_byteOf_32 : decode cX7_byteOf 32 = .ok (.iconst 5, 1) := by decide +kernel
theorem dX7_byteOf_33 : decode cX7_byteOf 33 = .ok (.if_icmp .ne 10, 3) := by decide +kernel
theorem dX7_byteOf_36 : decode cX7_byteOf 36 = .ok (.iload_n 2, 1) := by decide +kernel
theorem dX7_byteOf_37 : decode cX7_byteOf 37 = .ok (.bipush 8, 2) := by decide +kernel
theorem dX7_byteOf_39 : decode cX7_byteOf 39 = .ok (.ishr, 1) := by decide +kernel
theorem dX7_byteOf_40 : decode cX7_byteOf 40 = .ok (.goto 15, 3) := by decide +kernel
theorem dX7_byteOf_43 : decode cX7_byteOf 43 = .ok (.iload_n 0, 1) := by decide +kernel
theorem dX7_byteOf_44 : decode cX7_byteOf 44 = .ok (.bipush 6, 2) := by decide +kernel
theorem dX7_byteOf_46 : decode cX7_byteOf 46 = .ok (.if_icmp .ne 7, 3) := by decide +kernel
theorem dX7_byteOf_49 : decode cX7_byteOf 49 = .ok (.iload_n 3, 1) := by decide +kernel
theorem dX7_byteOf_50 : decode cX7_byteOf 50 = .ok (.goto 5, 3) := by decide +kernel
theorem dX7_byteOf_53 : decode cX7_byteOf 53 = .ok (.iload 4, 2) := by decide +kernel
theorem dX7_byteOf_55 : decode cX7_byteOf 55 = .ok (.ireturn, 1) := by decide +kernel
theorem dX7_remove_0 : decode cX7_remove 0 = .ok (.aload_n 0, 1) := by decide +kernel
theorem dX7_remove_1 : decode cX7_remove 1 = .ok (.iload_n 1, 1) := by decide +kernel
theorem dX7_remove_2 : decode cX7_remove 2 = .ok (.iconst 0, 1) := by decide +kernel
theorem dX7_remove_3 : decode cX7_remove 3 = .ok (.bipush 11, 2) := by decide +kernel
theorem dX7_remove_5 : decode cX7_remove 5 = .ok (.invokestatic 100, 3) := by decide +kernel
theorem dX7_remove_8 : decode cX7_remove 8 = .ok (.iconst 1, 1) := by decide +kernel
theorem dX7_remove_9 : decode cX7_remove 9 = .ok (.invokevirtual 107, 3) := by decide +kernel
theorem dX7_remove_12 : decode cX7_remove 12 = .ok (.ifCond .eq 5, 3) := by decide +kernel
theorem dX7_remove_15 : decode cX7_remove 15 = .ok (.iconst 0, 1) := by decide +kernel
theorem dX7_remove_16 : decode cX7_remove 16 = .ok (.ireturn, 1) := by decide +kernel
theorem dX7_remove_17 : decode cX7_remove 17 = .ok (.aload_n 0, 1) := by decide +kernel
theorem dX7_remove_18 : decode cX7_remove 18 = .ok (.getfield 19, 3) := by decide +kernel
theorem dX7_remove_21 : decode cX7_remove 21 = .ok (.iload_n 1, 1) := by decide +kernel
theorem dX7_remove_22 : decode cX7_remove 22 = .ok (.baload, 1) := by decide +kernel
theorem dX7_remove_23 : decode cX7_remove 23 = .ok (.istore_n 2, 1) := by decide +kernel
theorem dX7_remove_24 : decode cX7_remove 24 = .ok (.aload_n 0, 1) := by decide +kernel
theorem dX7_remove_25 : decode cX7_remove 25 = .ok (.getfield 19, 3) := by decide +kernel
theorem dX7_remove_28 : decode cX7_remove 28 = .ok (.iload_n 1, 1) := by decide +kernel
theorem dX7_remove_29 : decode cX7_remove 29 = .ok (.iconst 0, 1) := by decide +kernel
theorem dX7_remove_30 : decode cX7_remove 30 = .ok (.bastore, 1) := by decide +kernel
theorem dX7_remove_31 : decode cX7_remove 31 = .ok (.iload_n 2, 1) := by decide +kernel
theorem dX7_remove_32 : decode cX7_remove 32 = .ok (.ireturn, 1) := by decide +kernel
theorem dX7_pagesOf_0 : decode cX7_pagesOf 0 = .ok (.aload_n 0, 1) := by decide +kernel
theorem dX7_pagesOf_1 : decode cX7_pagesOf 1 = .ok (.getfield 41, 3) := by decide +kernel
theorem dX7_pagesOf_4 : decode cX7_pagesOf 4 = .ok (.iconst 3, 1) := by decide +kernel
theorem dX7_pagesOf_5 : decode cX7_pagesOf 5 = .ok (.iload_n 1, 1) := by decide +kernel
theorem dX7_pagesOf_6 : decode cX7_pagesOf 6 = .ok (.imul, 1) := by decide +kernel
theorem dX7_pagesOf_7 : decode cX7_pagesOf 7 = .ok (.iconst 2, 1) := by decide +kernel
theorem dX7_pagesOf_8 : decode cX7_pagesOf 8 = .ok (.iadd, 1) := by decide +kernel
theorem dX7_pagesOf_9 : decode cX7_pagesOf 9 = .ok (.iaload, 1) := by decide +kernel
theorem dX7_pagesOf_10 : decode cX7_pagesOf 10 = .ok (.ifCond .le 7, 3) := by decide +kernel
theorem dX7_pagesOf_13 : decode cX7_pagesOf 13 = .ok (.iconst 3, 1) := by decide +kernel
theorem dX7_pagesOf_14 : decode cX7_pagesOf 14 = .ok (.goto 21, 3) := by decide +kernel
theorem dX7_pagesOf_17 : decode cX7_pagesOf 17 = .ok (.aload_n 0, 1) := by decide +kernel
theorem dX7_pagesOf_18 : decode cX7_pagesOf 18 = .ok (.getfield 41, 3) := by decide +kernel
theorem dX7_pagesOf_21 : decode cX7_pagesOf 21 = .ok (.iconst 3, 1) := by decide +kernel
theorem dX7_pagesOf_22 : decode cX7_pagesOf 22 = .ok (.iload_n 1, 1) := by decide +kernel
theorem dX7_pagesOf_23 : decode cX7_pagesOf 23 = .ok (.imul, 1) := by decide +kernel
theorem dX7_pagesOf_24 : decode cX7_pagesOf 24 = .ok (.iconst 1, 1) := by decide +kernel
theorem dX7_pagesOf_25 : decode cX7_pagesOf 25 = .ok (.iadd, 1) := by decide +kernel
theorem dX7_pagesOf_26 : decode cX7_pagesOf 26 = .ok (.iaload, 1) := by decide +kernel
theorem dX7_pagesOf_27 : decode cX7_pagesOf 27 = .ok (.ifCond .le 7, 3) := by decide +kernel
theorem dX7_pagesOf_30 : decode cX7_pagesOf 30 = .ok (.iconst 2, 1) := by decide +kernel
theorem dX7_pagesOf_31 : decode cX7_pagesOf 31 = .ok (.goto 4, 3) := by decide +kernel
theorem dX7_pagesOf_34 : decode cX7_pagesOf 34 = .ok (.iconst 1, 1) := by decide +kernel
theorem dX7_pagesOf_35 : decode cX7_pagesOf 35 = .ok (.ireturn, 1) := by decide +kernel
theorem dX7_page_0 : decode cX7_page 0 = .ok (.aload_n 0, 1) := by decide +kernel
theorem dX7_page_1 : decode cX7_page 1 = .ok (.aload_n 0, 1) := by decide +kernel
theorem dX7_page_2 : decode cX7_page 2 = .ok (.iload_n 1, 1) := by decide +kernel
theorem dX7_page_3 : decode cX7_page 3 = .ok (.invokevirtual 118, 3) := by decide +kernel
theorem dX7_page_6 : decode cX7_page 6 = .ok (.ifCond .eq 16, 3) := by decide +kernel
theorem dX7_page_9 : decode cX7_page 9 = .ok (.iload_n 2, 1) := by decide +kernel
theorem dX7_page_10 : decode cX7_page 10 = .ok (.iconst 0, 1) := by decide +kernel
theorem dX7_page_11 : decode cX7_page 11 = .ok (.iconst 2, 1) := by decide +kernel
theorem dX7_page_12 : decode cX7_page 12 = .ok (.invokestatic 100, 3) := by decide +kernel
theorem dX7_page_15 : decode cX7_page 15 = .ok (.ifCond .eq 7, 3) := by decide +kernel
theorem dX7_page_18 : decode cX7_page 18 = .ok (.iconst 1, 1) := by decide +kernel
theorem dX7_page_19 : decode cX7_page 19 = .ok (.goto 4, 3) := by decide +kernel
theorem dX7_page_22 : decode cX7_page 22 = .ok (.iconst 0, 1) := by decide +kernel
theorem dX7_page_23 : decode cX7_page 23 = .ok (.aload_n 0, 1) := by decide +kernel
theorem dX7_page_24 : decode cX7_page 24 = .ok (.getfield 104, 3) := by decide +kernel
theorem dX7_page_27 : decode cX7_page 27 = .ok (.bipush 60, 2) := by decide +kernel
theorem dX7_page_29 : decode cX7_page 29 = .ok (.if_icmp .gt 7, 3) := by decide +kernel
theorem dX7_page_32 : decode cX7_page 32 = .ok (.iconst 1, 1) := by decide +kernel
theorem dX7_page_33 : decode cX7_page 33 = .ok (.goto 4, 3) := by decide +kernel
theorem dX7_page_36 : decode cX7_page 36 = .ok (.iconst 0, 1) := by decide +kernel
theorem dX7_page_37 : decode cX7_page 37 = .ok (.invokevirtual 107, 3) := by decide +kernel
theorem dX7_page_40 : decode cX7_page 40 = .ok (.ifCond .eq 5, 3) := by decide +kernel
theorem dX7_page_43 : decode cX7_page 43 = .ok (.iconst 0, 1) := by decide +kernel
theorem dX7_page_44 : decode cX7_page 44 = .ok (.ireturn, 1) := by decide +kernel
theorem dX7_page_45 : decode cX7_page 45 = .ok (.iconst 0, 1) := by decide +kernel
theorem dX7_page_46 : decode cX7_page 46 = .ok (.istore_n 3, 1) := by decide +kernel
theorem dX7_page_47 : decode cX7_page 47 = .ok (.iload_n 3, 1) := by decide +kernel
theorem dX7_page_48 : decode cX7_page 48 = .ok (.aload_n 0, 1) := by decide +kernel
theorem dX7_page_49 : decode cX7_page 49 = .ok (.getfield 104, 3) := by decide +kernel
theorem dX7_page_52 : decode cX7_page 52 = .ok (.if_icmp .ge 30, 3) := by decide +kernel
theorem dX7_page_55 : decode cX7_page 55 = .ok (.aload_n 0, 1) := by decide +kernel
theorem dX7_page_56 : decode cX7_page 56 = .ok (.getfield 44, 3) := by decide +kernel
theorem dX7_page_59 : decode cX7_page 59 = .ok (.bipush 60, 2) := by decide +kernel
theorem dX7_page_61 : decode cX7_page 61 = .ok (.iconst 3, 1) := by decide +kernel
theorem dX7_page_62 : decode cX7_page 62 = .ok (.iload_n 1, 1) := by decide +kernel
theorem dX7_page_63 : decode cX7_page 63 = .ok (.imul, 1) := by decide +kernel
theorem dX7_page_64 : decode cX7_page 64 = .ok (.iload_n 2, 1) := by decide +kernel
theorem dX7_page_65 : decode cX7_page 65 = .ok (.iadd, 1) := by decide +kernel
theorem dX7_page_66 : decode cX7_page 66 = .ok (.imul, 1) := by decide +kernel
theorem dX7_page_67 : decode cX7_page 67 = .ok (.iload_n 3, 1) := by decide +kernel
theorem dX7_page_68 : decode cX7_page 68 = .ok (.iadd, 1) := by decide +kernel
theorem dX7_page_69 : decode cX7_page 69 = .ok (.aload_n 0, 1) := by decide +kernel
theorem dX7_page_70 : decode cX7_page 70 = .ok (.getfield 7, 3) := by decide +kernel
theorem dX7_page_73 : decode cX7_page 73 = .ok (.iload_n 3, 1) := by decide +kernel
theorem dX7_page_74 : decode cX7_page 74 = .ok (.iaload, 1) := by decide +kernel
theorem dX7_page_75 : decode cX7_page 75 = .ok (.iastore, 1) := by decide +kernel
theorem dX7_page_76 : decode cX7_page 76 = .ok (.iinc 3 1, 3) := by decide +kernel
theorem dX7_page_79 : decode cX7_page 79 = .ok (.goto (-32), 3) := by decide +kernel
theorem dX7_page_82 : decode cX7_page 82 = .ok (.aload_n 0, 1) := by decide +kernel
theorem dX7_page_83 : decode cX7_page 83 = .ok (.getfield 41, 3) := by decide +kernel
theorem dX7_page_86 : decode cX7_page 86 = .ok (.iconst 3, 1) := by decide +kernel
theorem dX7_page_87 : decode cX7_page 87 = .ok (.iload_n 1, 1) := by decide +kernel
theorem dX7_page_88 : decode cX7_page 88 = .ok (.imul, 1) := by decide +kernel
theorem dX7_page_89 : decode cX7_page 89 = .ok (.iload_n 2, 1) := by decide +kernel
theorem dX7_page_90 : decode cX7_page 90 = .ok (.iadd, 1) := by decide +kernel
theorem dX7_page_91 : decode cX7_page 91 = .ok (.aload_n 0, 1) := by decide +kernel
theorem dX7_page_92 : decode cX7_page 92 = .ok (.getfield 104, 3) := by decide +kernel
theorem dX7_page_95 : decode cX7_page 95 = .ok (.iastore, 1) := by decide +kernel
theorem dX7_page_96 : decode cX7_page 96 = .ok (.aload_n 0, 1) := by decide +kernel
theorem dX7_page_97 : decode cX7_page 97 = .ok (.iconst 0, 1) := by decide +kernel
theorem dX7_page_98 : decode cX7_page 98 = .ok (.putfield 104, 3) := by decide +kernel
theorem dX7_page_101 : decode cX7_page 101 = .ok (.aload_n 0, 1) := by decide +kernel
theorem dX7_page_102 : decode cX7_page 102 = .ok (.iload_n 1, 1) := by decide +kernel
theorem dX7_page_103 : decode cX7_page 103 = .ok (.invokevirtual 122, 3) := by decide +kernel
theorem dX7_page_106 : decode cX7_page 106 = .ok (.ireturn, 1) := by decide +kernel
theorem dX7_state_0 : decode cX7_state 0 = .ok (.aload_n 0, 1) := by decide +kernel
theorem dX7_state_1 : decode cX7_state 1 = .ok (.iload_n 1, 1) := by decide +kernel
theorem dX7_state_2 : decode cX7_state 2 = .ok (.iconst 0, 1) := by decide +kernel
theorem dX7_state_3 : decode cX7_state 3 = .ok (.bipush 11, 2) := by decide +kernel
theorem dX7_state_5 : decode cX7_state 5 = .ok (.invokestatic 100, 3) := by decide +kernel
theorem dX7_state_8 : decode cX7_state 8 = .ok (.ifCond .eq 17, 3) := by decide +kernel
theorem dX7_state_11 : decode cX7_state 11 = .ok (.iload_n 2, 1) := by decide +kernel
theorem dX7_state_12 : decode cX7_state 12 = .ok (.iconst 0, 1) := by decide +kernel
theorem dX7_state_13 : decode cX7_state 13 = .ok (.bipush 6, 2) := by decide +kernel
theorem dX7_state_15 : decode cX7_state 15 = .ok (.invokestatic 100, 3) := by decide +kernel
theorem dX7_state_18 : decode cX7_state 18 = .ok (.ifCond .eq 7, 3) := by decide +kernel
theorem dX7_state_21 : decode cX7_state 21 = .ok (.iconst 1, 1) := by decide +kernel
theorem dX7_state_22 : decode cX7_state 22 = .ok (.goto 4, 3) := by decide +kernel
theorem dX7_state_25 : decode cX7_state 25 = .ok (.iconst 0, 1) := by decide +kernel
theorem dX7_state_26 : decode cX7_state 26 = .ok (.iconst 1, 1) := by decide +kernel
theorem dX7_state_27 : decode cX7_state 27 = .ok (.invokevirtual 107, 3) := by decide +kernel
theorem dX7_state_30 : decode cX7_state 30 = .ok (.ifCond .eq 5, 3) := by decide +kernel
theorem dX7_state_33 : decode cX7_state 33 = .ok (.iconst 0, 1) := by decide +kernel
theorem dX7_state_34 : decode cX7_state 34 = .ok (.ireturn, 1) := by decide +kernel
theorem dX7_state_35 : decode cX7_state 35 = .ok (.aload_n 0, 1) := by decide +kernel
theorem dX7_state_36 : decode cX7_state 36 = .ok (.getfield 19, 3) := by decide +kernel
theorem dX7_state_39 : decode cX7_state 39 = .ok (.iload_n 1, 1) := by decide +kernel
theorem dX7_state_40 : decode cX7_state 40 = .ok (.baload, 1) := by decide +kernel
theorem dX7_state_41 : decode cX7_state 41 = .ok (.ifCond .ne 5, 3) := by decide +kernel
theorem dX7_state_44 : decode cX7_state 44 = .ok (.iconst 0, 1) := by decide +kernel
theorem dX7_state_45 : decode cX7_state 45 = .ok (.ireturn, 1) := by decide +kernel
theorem dX7_state_46 : decode cX7_state 46 = .ok (.iload_n 2, 1) := by decide +kernel
theorem dX7_state_47 : decode cX7_state 47 = .ok (.tableswitch 94 0 5 #[37, 39, 46, 61, 67, 87], 37) := by decide +kernel
theorem dX7_state_84 : decode cX7_state 84 = .ok (.iconst 1, 1) := by decide +kernel
theorem dX7_state_85 : decode cX7_state 85 = .ok (.ireturn, 1) := by decide +kernel
theorem dX7_state_86 : decode cX7_state 86 = .ok (.aload_n 0, 1) := by decide +kernel
theorem dX7_state_87 : decode cX7_state 87 = .ok (.getfield 23, 3) := by decide +kernel
theorem dX7_state_90 : decode cX7_state 90 = .ok (.iload_n 1, 1) := by decide +kernel
theorem dX7_state_91 : decode cX7_state 91 = .ok (.iaload, 1) := by decide +kernel
theorem dX7_state_92 : decode cX7_state 92 = .ok (.ireturn, 1) := by decide +kernel
theorem dX7_state_93 : decode cX7_state 93 = .ok (.aload_n 0, 1) := by decide +kernel
theorem dX7_state_94 : decode cX7_state 94 = .ok (.getfield 29, 3) := by decide +kernel
theorem dX7_state_97 : decode cX7_state 97 = .ok (.iload_n 1, 1) := by decide +kernel
theorem dX7_state_98 : decode cX7_state 98 = .ok (.baload, 1) := by decide +kernel
theorem dX7_state_99 : decode cX7_state 99 = .ok (.ifCond .eq 7, 3) := by decide +kernel
theorem dX7_state_102 : decode cX7_state 102 = .ok (.iconst 1, 1) := by decide +kernel
theorem dX7_state_103 : decode cX7_state 103 = .ok (.goto 4, 3) := by decide +kernel
theorem dX7_state_106 : decode cX7_state 106 = .ok (.iconst 0, 1) := by decide +kernel
theorem dX7_state_107 : decode cX7_state 107 = .ok (.ireturn, 1) := by decide +kernel
theorem dX7_state_108 : decode cX7_state 108 = .ok (.aload_n 0, 1) := by decide +kernel
theorem dX7_state_109 : decode cX7_state 109 = .ok (.iload_n 1, 1) := by decide +kernel
theorem dX7_state_110 : decode cX7_state 110 = .ok (.invokevirtual 122, 3) := by decide +kernel
theorem dX7_state_113 : decode cX7_state 113 = .ok (.ireturn, 1) := by decide +kernel
theorem dX7_state_114 : decode cX7_state 114 = .ok (.aload_n 0, 1) := by decide +kernel
theorem dX7_state_115 : decode cX7_state 115 = .ok (.getfield 35, 3) := by decide +kernel
theorem dX7_state_118 : decode cX7_state 118 = .ok (.iload_n 1, 1) := by decide +kernel
theorem dX7_state_119 : decode cX7_state 119 = .ok (.iaload, 1) := by decide +kernel
theorem dX7_state_120 : decode cX7_state 120 = .ok (.ifCond .ge 7, 3) := by decide +kernel
theorem dX7_state_123 : decode cX7_state 123 = .ok (.iconst (-1), 1) := by decide +kernel
theorem dX7_state_124 : decode cX7_state 124 = .ok (.goto 9, 3) := by decide +kernel
theorem dX7_state_127 : decode cX7_state 127 = .ok (.aload_n 0, 1) := by decide +kernel
theorem dX7_state_128 : decode cX7_state 128 = .ok (.getfield 32, 3) := by decide +kernel
theorem dX7_state_131 : decode cX7_state 131 = .ok (.iload_n 1, 1) := by decide +kernel
theorem dX7_state_132 : decode cX7_state 132 = .ok (.iaload, 1) := by decide +kernel
theorem dX7_state_133 : decode cX7_state 133 = .ok (.ireturn, 1) := by decide +kernel
theorem dX7_state_134 : decode cX7_state 134 = .ok (.aload_n 0, 1) := by decide +kernel
theorem dX7_state_135 : decode cX7_state 135 = .ok (.getfield 35, 3) := by decide +kernel
theorem dX7_state_138 : decode cX7_state 138 = .ok (.iload_n 1, 1) := by decide +kernel
theorem dX7_state_139 : decode cX7_state 139 = .ok (.iaload, 1) := by decide +kernel
theorem dX7_state_140 : decode cX7_state 140 = .ok (.ireturn, 1) := by decide +kernel
theorem dX7_state_141 : decode cX7_state 141 = .ok (.aload_n 0, 1) := by decide +kernel
theorem dX7_state_142 : decode cX7_state 142 = .ok (.getfield 38, 3) := by decide +kernel
theorem dX7_state_145 : decode cX7_state 145 = .ok (.iload_n 1, 1) := by decide +kernel
theorem dX7_state_146 : decode cX7_state 146 = .ok (.iaload, 1) := by decide +kernel
theorem dX7_state_147 : decode cX7_state 147 = .ok (.ireturn, 1) := by decide +kernel
theorem dX7_isShort_0 : decode cX7_isShort 0 = .ok (.aload_n 0, 1) := by decide +kernel
theorem dX7_isShort_1 : decode cX7_isShort 1 = .ok (.getfield 126, 3) := by decide +kernel
theorem dX7_isShort_4 : decode cX7_isShort 4 = .ok (.iconst 5, 1) := by decide +kernel
theorem dX7_isShort_5 : decode cX7_isShort 5 = .ok (.if_icmp .ne 55, 3) := by decide +kernel
theorem dX7_isShort_8 : decode cX7_isShort 8 = .ok (.aload_n 0, 1) := by decide +kernel
theorem dX7_isShort_9 : decode cX7_isShort 9 = .ok (.getfield 13, 3) := by decide +kernel
theorem dX7_isShort_12 : decode cX7_isShort 12 = .ok (.iconst 0, 1) := by decide +kernel
theorem dX7_isShort_13 : decode cX7_isShort 13 = .ok (.iaload, 1) := by decide +kernel
theorem dX7_isShort_14 : decode cX7_isShort 14 = .ok (.bipush 16, 2) := by decide +kernel
theorem dX7_isShort_16 : decode cX7_isShort 16 = .ok (.if_icmp .ne 44, 3) := by decide +kernel
theorem dX7_isShort_19 : decode cX7_isShort 19 = .ok (.aload_n 0, 1) := by decide +kernel
theorem dX7_isShort_20 : decode cX7_isShort 20 = .ok (.getfield 13, 3) := by decide +kernel
theorem dX7_isShort_23 : decode cX7_isShort 23 = .ok (.iconst 4, 1) := by decide +kernel
theorem dX7_isShort_24 : decode cX7_isShort 24 = .ok (.iaload, 1) := by decide +kernel
theorem dX7_isShort_25 : decode cX7_isShort 25 = .ok (.bipush 22, 2) := by decide +kernel
theorem dX7_isShort_27 : decode cX7_isShort 27 = .ok (.if_icmp .ne 33, 3) := by decide +kernel
theorem dX7_isShort_30 : decode cX7_isShort 30 = .ok (.aload_n 0, 1) := by decide +kernel
theorem dX7_isShort_31 : decode cX7_isShort 31 = .ok (.getfield 13, 3) := by decide +kernel
theorem dX7_isShort_34 : decode cX7_isShort 34 = .ok (.iconst 3, 1) := by decide +kernel
theorem dX7_isShort_35 : decode cX7_isShort 35 = .ok (.iaload, 1) := by decide +kernel
theorem dX7_isShort_36 : decode cX7_isShort 36 = .ok (.aload_n 0, 1) := by decide +kernel
theorem dX7_isShort_37 : decode cX7_isShort 37 = .ok (.getfield 13, 3) := by decide +kernel
theorem dX7_isShort_40 : decode cX7_isShort 40 = .ok (.iconst 1, 1) := by decide +kernel
theorem dX7_isShort_41 : decode cX7_isShort 41 = .ok (.iaload, 1) := by decide +kernel
theorem dX7_isShort_42 : decode cX7_isShort 42 = .ok (.aload_n 0, 1) := by decide +kernel
theorem dX7_isShort_43 : decode cX7_isShort 43 = .ok (.getfield 13, 3) := by decide +kernel
theorem dX7_isShort_46 : decode cX7_isShort 46 = .ok (.iconst 2, 1) := by decide +kernel
theorem dX7_isShort_47 : decode cX7_isShort 47 = .ok (.iaload, 1) := by decide +kernel
theorem dX7_isShort_48 : decode cX7_isShort 48 = .ok (.iadd, 1) := by decide +kernel
theorem dX7_isShort_49 : decode cX7_isShort 49 = .ok (.sipush 255, 3) := by decide +kernel
theorem dX7_isShort_52 : decode cX7_isShort 52 = .ok (.iand, 1) := by decide +kernel
theorem dX7_isShort_53 : decode cX7_isShort 53 = .ok (.if_icmp .ne 7, 3) := by decide +kernel
theorem dX7_isShort_56 : decode cX7_isShort 56 = .ok (.iconst 1, 1) := by decide +kernel
theorem dX7_isShort_57 : decode cX7_isShort 57 = .ok (.goto 4, 3) := by decide +kernel
theorem dX7_isShort_60 : decode cX7_isShort 60 = .ok (.iconst 0, 1) := by decide +kernel
theorem dX7_isShort_61 : decode cX7_isShort 61 = .ok (.ireturn, 1) := by decide +kernel
theorem dX7_isLong_0 : decode cX7_isLong 0 = .ok (.aload_n 0, 1) := by decide +kernel
theorem dX7_isLong_1 : decode cX7_isLong 1 = .ok (.getfield 126, 3) := by decide +kernel
theorem dX7_isLong_4 : decode cX7_isLong 4 = .ok (.bipush 9, 2) := by decide +kernel
theorem dX7_isLong_6 : decode cX7_isLong 6 = .ok (.if_icmp .lt 94, 3) := by decide +kernel
theorem dX7_isLong_9 : decode cX7_isLong 9 = .ok (.aload_n 0, 1) := by decide +kernel
theorem dX7_isLong_10 : decode cX7_isLong 10 = .ok (.getfield 13, 3) := by decide +kernel
theorem dX7_isLong_13 : decode cX7_isLong 13 = .ok (.iconst 0, 1) := by decide +kernel
theorem dX7_isLong_14 : decode cX7_isLong 14 = .ok (.iaload, 1) := by decide +kernel
theorem dX7_isLong_15 : decode cX7_isLong 15 = .ok (.bipush 104, 2) := by decide +kernel
theorem dX7_isLong_17 : decode cX7_isLong 17 = .ok (.if_icmp .ne 83, 3) := by decide +kernel
theorem dX7_isLong_20 : decode cX7_isLong 20 = .ok (.aload_n 0, 1) := by decide +kernel
theorem dX7_isLong_21 : decode cX7_isLong 21 = .ok (.getfield 13, 3) := by decide +kernel
theorem dX7_isLong_24 : decode cX7_isLong 24 = .ok (.iconst 1, 1) := by decide +kernel
theorem dX7_isLong_25 : decode cX7_isLong 25 = .ok (.iaload, 1) := by decide +kernel
theorem dX7_isLong_26 : decode cX7_isLong 26 = .ok (.iconst 3, 1) := by decide +kernel
theorem dX7_isLong_27 : decode cX7_isLong 27 = .ok (.if_icmp .lt 73, 3) := by decide +kernel
theorem dX7_isLong_30 : decode cX7_isLong 30 = .ok (.aload_n 0, 1) := by decide +kernel
theorem dX7_isLong_31 : decode cX7_isLong 31 = .ok (.getfield 13, 3) := by decide +kernel
theorem dX7_isLong_34 : decode cX7_isLong 34 = .ok (.iconst 1, 1) := by decide +kernel
theorem dX7_isLong_35 : decode cX7_isLong 35 = .ok (.iaload, 1) := by decide +kernel
theorem dX7_isLong_36 : decode cX7_isLong 36 = .ok (.sipush 252, 3) := by decide +kernel
theorem dX7_isLong_39 : decode cX7_isLong 39 = .ok (.if_icmp .gt 61, 3) := by decide +kernel
theorem dX7_isLong_42 : decode cX7_isLong 42 = .ok (.aload_n 0, 1) := by decide +kernel
theorem dX7_isLong_43 : decode cX7_isLong 43 = .ok (.getfield 13, 3) := by decide +kernel
theorem dX7_isLong_46 : decode cX7_isLong 46 = .ok (.iconst 2, 1) := by decide +kernel
theorem dX7_isLong_47 : decode cX7_isLong 47 = .ok (.iaload, 1) := by decide +kernel
theorem dX7_isLong_48 : decode cX7_isLong 48 = .ok (.aload_n 0, 1) := by decide +kernel
theorem dX7_isLong_49 : decode cX7_isLong 49 = .ok (.getfield 13, 3) := by decide +kernel
theorem dX7_isLong_52 : decode cX7_isLong 52 = .ok (.iconst 1, 1) := by decide +kernel
theorem dX7_isLong_53 : decode cX7_isLong 53 = .ok (.iaload, 1) := by decide +kernel
theorem dX7_isLong_54 : decode cX7_isLong 54 = .ok (.if_icmp .ne 46, 3) := by decide +kernel
theorem dX7_isLong_57 : decode cX7_isLong 57 = .ok (.aload_n 0, 1) := by decide +kernel
theorem dX7_isLong_58 : decode cX7_isLong 58 = .ok (.getfield 13, 3) := by decide +kernel
theorem dX7_isLong_61 : decode cX7_isLong 61 = .ok (.iconst 3, 1) := by decide +kernel
theorem dX7_isLong_62 : decode cX7_isLong 62 = .ok (.iaload, 1) := by decide +kernel
theorem dX7_isLong_63 : decode cX7_isLong 63 = .ok (.bipush 104, 2) := by decide +kernel
theorem dX7_isLong_65 : decode cX7_isLong 65 = .ok (.if_icmp .ne 35, 3) := by decide +kernel
theorem dX7_isLong_68 : decode cX7_isLong 68 = .ok (.aload_n 0, 1) := by decide +kernel
theorem dX7_isLong_69 : decode cX7_isLong 69 = .ok (.getfield 126, 3) := by decide +kernel
theorem dX7_isLong_72 : decode cX7_isLong 72 = .ok (.aload_n 0, 1) := by decide +kernel
theorem dX7_isLong_73 : decode cX7_isLong 73 = .ok (.getfield 13, 3) := by decide +kernel
theorem dX7_isLong_76 : decode cX7_isLong 76 = .ok (.iconst 1, 1) := by decide +kernel
theorem dX7_isLong_77 : decode cX7_isLong 77 = .ok (.iaload, 1) := by decide +kernel
theorem dX7_isLong_78 : decode cX7_isLong 78 = .ok (.bipush 6, 2) := by decide +kernel
theorem dX7_isLong_80 : decode cX7_isLong 80 = .ok (.iadd, 1) := by decide +kernel
theorem dX7_isLong_81 : decode cX7_isLong 81 = .ok (.if_icmp .ne 19, 3) := by decide +kernel
theorem dX7_isLong_84 : decode cX7_isLong 84 = .ok (.aload_n 0, 1) := by decide +kernel
theorem dX7_isLong_85 : decode cX7_isLong 85 = .ok (.getfield 13, 3) := by decide +kernel
theorem dX7_isLong_88 : decode cX7_isLong 88 = .ok (.aload_n 0, 1) := by decide +kernel
theorem dX7_isLong_89 : decode cX7_isLong 89 = .ok (.getfield 126, 3) := by decide +kernel
theorem dX7_isLong_92 : decode cX7_isLong 92 = .ok (.iconst 1, 1) := by decide +kernel
theorem dX7_isLong_93 : decode cX7_isLong 93 = .ok (.isub, 1) := by decide +kernel
theorem dX7_isLong_94 : decode cX7_isLong 94 = .ok (.iaload, 1) := by decide +kernel
theorem dX7_isLong_95 : decode cX7_isLong 95 = .ok (.bipush 22, 2) := by decide +kernel
theorem dX7_isLong_97 : decode cX7_isLong 97 = .ok (.if_icmp .eq 5, 3) := by decide +kernel
theorem dX7_isLong_100 : decode cX7_isLong 100 = .ok (.iconst 0, 1) := by decide +kernel
theorem dX7_isLong_101 : decode cX7_isLong 101 = .ok (.ireturn, 1) := by decide +kernel
theorem dX7_isLong_102 : decode cX7_isLong 102 = .ok (.iconst 0, 1) := by decide +kernel
theorem dX7_isLong_103 : decode cX7_isLong 103 = .ok (.istore_n 1, 1) := by decide +kernel
theorem dX7_isLong_104 : decode cX7_isLong 104 = .ok (.iconst 4, 1) := by decide +kernel
theorem dX7_isLong_105 : decode cX7_isLong 105 = .ok (.istore_n 2, 1) := by decide +kernel
theorem dX7_isLong_106 : decode cX7_isLong 106 = .ok (.iload_n 2, 1) := by decide +kernel
theorem dX7_isLong_107 : decode cX7_isLong 107 = .ok (.aload_n 0, 1) := by decide +kernel
theorem dX7_isLong_108 : decode cX7_isLong 108 = .ok (.getfield 126, 3) := by decide +kernel
theorem dX7_isLong_111 : decode cX7_isLong 111 = .ok (.iconst 2, 1) := by decide +kernel
theorem dX7_isLong_112 : decode cX7_isLong 112 = .ok (.isub, 1) := by decide +kernel
theorem dX7_isLong_113 : decode cX7_isLong 113 = .ok (.if_icmp .ge 18, 3) := by decide +kernel
theorem dX7_isLong_116 : decode cX7_isLong 116 = .ok (.iload_n 1, 1) := by decide +kernel
theorem dX7_isLong_117 : decode cX7_isLong 117 = .ok (.aload_n 0, 1) := by decide +kernel
theorem dX7_isLong_118 : decode cX7_isLong 118 = .ok (.getfield 13, 3) := by decide +kernel
theorem dX7_isLong_121 : decode cX7_isLong 121 = .ok (.iload_n 2, 1) := by decide +kernel
theorem dX7_isLong_122 : decode cX7_isLong 122 = .ok (.iaload, 1) := by decide +kernel
theorem dX7_isLong_123 : decode cX7_isLong 123 = .ok (.iadd, 1) := by decide +kernel
theorem dX7_isLong_124 : decode cX7_isLong 124 = .ok (.istore_n 1, 1) := by decide +kernel
theorem dX7_isLong_125 : decode cX7_isLong 125 = .ok (.iinc 2 1, 3) := by decide +kernel
theorem dX7_isLong_128 : decode cX7_isLong 128 = .ok (.goto (-22), 3) := by decide +kernel
theorem dX7_isLong_131 : decode cX7_isLong 131 = .ok (.aload_n 0, 1) := by decide +kernel
theorem dX7_isLong_132 : decode cX7_isLong 132 = .ok (.getfield 13, 3) := by decide +kernel
theorem dX7_isLong_135 : decode cX7_isLong 135 = .ok (.aload_n 0, 1) := by decide +kernel
theorem dX7_isLong_136 : decode cX7_isLong 136 = .ok (.getfield 126, 3) := by decide +kernel
theorem dX7_isLong_139 : decode cX7_isLong 139 = .ok (.iconst 2, 1) := by decide +kernel
theorem dX7_isLong_140 : decode cX7_isLong 140 = .ok (.isub, 1) := by decide +kernel
theorem dX7_isLong_141 : decode cX7_isLong 141 = .ok (.iaload, 1) := by decide +kernel
theorem dX7_isLong_142 : decode cX7_isLong 142 = .ok (.iload_n 1, 1) := by decide +kernel
theorem dX7_isLong_143 : decode cX7_isLong 143 = .ok (.sipush 255, 3) := by decide +kernel
theorem dX7_isLong_146 : decode cX7_isLong 146 = .ok (.iand, 1) := by decide +kernel
theorem dX7_isLong_147 : decode cX7_isLong 147 = .ok (.if_icmp .ne 7, 3) := by decide +kernel
theorem dX7_isLong_150 : decode cX7_isLong 150 = .ok (.iconst 1, 1) := by decide +kernel
theorem dX7_isLong_151 : decode cX7_isLong 151 = .ok (.goto 4, 3) := by decide +kernel
theorem dX7_isLong_154 : decode cX7_isLong 154 = .ok (.iconst 0, 1) := by decide +kernel
theorem dX7_isLong_155 : decode cX7_isLong 155 = .ok (.ireturn, 1) := by decide +kernel
theorem dX7_bus_0 : decode cX7_bus 0 = .ok (.aload_n 0, 1) := by decide +kernel
theorem dX7_bus_1 : decode cX7_bus 1 = .ok (.dup, 1) := by decide +kernel
theorem dX7_bus_2 : decode cX7_bus 2 = .ok (.getfield 129, 3) := by decide +kernel
theorem dX7_bus_5 : decode cX7_bus 5 = .ok (.iconst 1, 1) := by decide +kernel
theorem dX7_bus_6 : decode cX7_bus 6 = .ok (.iadd, 1) := by decide +kernel
theorem dX7_bus_7 : decode cX7_bus 7 = .ok (.putfield 129, 3) := by decide +kernel
theorem dX7_bus_10 : decode cX7_bus 10 = .ok (.aload_n 0, 1) := by decide +kernel
theorem dX7_bus_11 : decode cX7_bus 11 = .ok (.iconst 0, 1) := by decide +kernel
theorem dX7_bus_12 : decode cX7_bus 12 = .ok (.putfield 132, 3) := by decide +kernel
theorem dX7_bus_15 : decode cX7_bus 15 = .ok (.aload_n 0, 1) := by decide +kernel
theorem dX7_bus_16 : decode cX7_bus 16 = .ok (.iconst 0, 1) := by decide +kernel
theorem dX7_bus_17 : decode cX7_bus 17 = .ok (.putfield 135, 3) := by decide +kernel
theorem dX7_bus_20 : decode cX7_bus 20 = .ok (.aload_n 0, 1) := by decide +kernel
theorem dX7_bus_21 : decode cX7_bus 21 = .ok (.invokevirtual 138, 3) := by decide +kernel
theorem dX7_bus_24 : decode cX7_bus 24 = .ok (.istore_n 1, 1) := by decide +kernel
theorem dX7_bus_25 : decode cX7_bus 25 = .ok (.iload_n 1, 1) := by decide +kernel
theorem dX7_bus_26 : decode cX7_bus 26 = .ok (.ifCond .ne 11, 3) := by decide +kernel
theorem dX7_bus_29 : decode cX7_bus 29 = .ok (.aload_n 0, 1) := by decide +kernel
theorem dX7_bus_30 : decode cX7_bus 30 = .ok (.invokevirtual 142, 3) := by decide +kernel
theorem dX7_bus_33 : decode cX7_bus 33 = .ok (.ifCond .ne 4, 3) := by decide +kernel
theorem dX7_bus_36 : decode cX7_bus 36 = .ok (.return_, 1) := by decide +kernel
theorem dX7_bus_37 : decode cX7_bus 37 = .ok (.iload_n 1, 1) := by decide +kernel
theorem dX7_bus_38 : decode cX7_bus 38 = .ok (.ifCond .eq 12, 3) := by decide +kernel
theorem dX7_bus_41 : decode cX7_bus 41 = .ok (.aload_n 0, 1) := by decide +kernel
theorem dX7_bus_42 : decode cX7_bus 42 = .ok (.getfield 13, 3) := by decide +kernel
theorem dX7_bus_45 : decode cX7_bus 45 = .ok (.iconst 1, 1) := by decide +kernel
theorem dX7_bus_46 : decode cX7_bus 46 = .ok (.iaload, 1) := by decide +kernel
theorem dX7_bus_47 : decode cX7_bus 47 = .ok (.goto 9, 3) := by decide +kernel
theorem dX7_bus_50 : decode cX7_bus 50 = .ok (.aload_n 0, 1) := by decide +kernel
theorem dX7_bus_51 : decode cX7_bus 51 = .ok (.getfield 13, 3) := by decide +kernel
theorem dX7_bus_54 : decode cX7_bus 54 = .ok (.iconst 4, 1) := by decide +kernel
theorem dX7_bus_55 : decode cX7_bus 55 = .ok (.iaload, 1) := by decide +kernel
theorem dX7_bus_56 : decode cX7_bus 56 = .ok (.istore_n 2, 1) := by decide +kernel
theorem dX7_bus_57 : decode cX7_bus 57 = .ok (.iload_n 1, 1) := by decide +kernel
theorem dX7_bus_58 : decode cX7_bus 58 = .ok (.ifCond .eq 12, 3) := by decide +kernel
theorem dX7_bus_61 : decode cX7_bus 61 = .ok (.aload_n 0, 1) := by decide +kernel
theorem dX7_bus_62 : decode cX7_bus 62 = .ok (.getfield 13, 3) := by decide +kernel
theorem dX7_bus_65 : decode cX7_bus 65 = .ok (.iconst 2, 1) := by decide +kernel
theorem dX7_bus_66 : decode cX7_bus 66 = .ok (.iaload, 1) := by decide +kernel
theorem dX7_bus_67 : decode cX7_bus 67 = .ok (.goto 9, 3) := by decide +kernel
theorem dX7_bus_70 : decode cX7_bus 70 = .ok (.aload_n 0, 1) := by decide +kernel
theorem dX7_bus_71 : decode cX7_bus 71 = .ok (.getfield 13, 3) := by decide +kernel
theorem dX7_bus_74 : decode cX7_bus 74 = .ok (.iconst 5, 1) := by decide +kernel
theorem dX7_bus_75 : decode cX7_bus 75 = .ok (.iaload, 1) := by decide +kernel
theorem dX7_bus_76 : decode cX7_bus 76 = .ok (.istore_n 3, 1) := by decide +kernel
theorem dX7_bus_77 : decode cX7_bus 77 = .ok (.iload_n 1, 1) := by decide +kernel
theorem dX7_bus_78 : decode cX7_bus 78 = .ok (.ifCond .ne 49, 3) := by decide +kernel
theorem dX7_bus_81 : decode cX7_bus 81 = .ok (.iload_n 2, 1) := by decide +kernel
theorem dX7_bus_82 : decode cX7_bus 82 = .ok (.bipush 83, 2) := by decide +kernel
theorem dX7_bus_84 : decode cX7_bus 84 = .ok (.if_icmp .eq 9, 3) := by decide +kernel
theorem dX7_bus_87 : decode cX7_bus 87 = .ok (.iload_n 2, 1) := by decide +kernel
theorem dX7_bus_88 : decode cX7_bus 88 = .ok (.bipush 115, 2) := by decide +kernel
theorem dX7_bus_90 : decode cX7_bus 90 = .ok (.if_icmp .ne 37, 3) := by decide +kernel
theorem dX7_bus_93 : decode cX7_bus 93 = .ok (.aload_n 0, 1) := by decide +kernel
theorem dX7_bus_94 : decode cX7_bus 94 = .ok (.getfield 13, 3) := by decide +kernel
theorem dX7_bus_97 : decode cX7_bus 97 = .ok (.bipush 6, 2) := by decide +kernel
theorem dX7_bus_99 : decode cX7_bus 99 = .ok (.iaload, 1) := by decide +kernel
theorem dX7_bus_100 : decode cX7_bus 100 = .ok (.bipush 82, 2) := by decide +kernel
theorem dX7_bus_102 : decode cX7_bus 102 = .ok (.if_icmp .ne 25, 3) := by decide +kernel
theorem dX7_bus_105 : decode cX7_bus 105 = .ok (.aload_n 0, 1) := by decide +kernel
theorem dX7_bus_106 : decode cX7_bus 106 = .ok (.getfield 13, 3) := by decide +kernel
theorem dX7_bus_109 : decode cX7_bus 109 = .ok (.iconst 1, 1) := by decide +kernel
theorem dX7_bus_110 : decode cX7_bus 110 = .ok (.iaload, 1) := by decide +kernel
theorem dX7_bus_111 : decode cX7_bus 111 = .ok (.bipush 11, 2) := by decide +kernel
theorem dX7_bus_113 : decode cX7_bus 113 = .ok (.if_icmp .ne 14, 3) := by decide +kernel
theorem dX7_bus_116 : decode cX7_bus 116 = .ok (.iload_n 3, 1) := by decide +kernel
theorem dX7_bus_117 : decode cX7_bus 117 = .ok (.sipush 253, 3) := by decide +kernel
theorem dX7_bus_120 : decode cX7_bus 120 = .ok (.if_icmp .ne 7, 3) := by decide +kernel
theorem dX7_bus_123 : decode cX7_bus 123 = .ok (.iconst 1, 1) := by decide +kernel
theorem dX7_bus_124 : decode cX7_bus 124 = .ok (.goto 4, 3) := by decide +kernel
theorem dX7_bus_127 : decode cX7_bus 127 = .ok (.iconst 0, 1) := by decide +kernel
theorem dX7_bus_128 : decode cX7_bus 128 = .ok (.istore 4, 2) := by decide +kernel
theorem dX7_bus_130 : decode cX7_bus 130 = .ok (.iconst 0, 1) := by decide +kernel
theorem dX7_bus_131 : decode cX7_bus 131 = .ok (.istore 5, 2) := by decide +kernel
theorem dX7_bus_133 : decode cX7_bus 133 = .ok (.iload 5, 2) := by decide +kernel
theorem dX7_bus_135 : decode cX7_bus 135 = .ok (.bipush 12, 2) := by decide +kernel
theorem dX7_bus_137 : decode cX7_bus 137 = .ok (.if_icmp .ge 125, 3) := by decide +kernel
theorem dX7_bus_140 : decode cX7_bus 140 = .ok (.aload_n 0, 1) := by decide +kernel
theorem dX7_bus_141 : decode cX7_bus 141 = .ok (.getfield 19, 3) := by decide +kernel
theorem dX7_bus_144 : decode cX7_bus 144 = .ok (.iload 5, 2) := by decide +kernel
theorem dX7_bus_146 : decode cX7_bus 146 = .ok (.baload, 1) := by decide +kernel
theorem dX7_bus_147 : decode cX7_bus 147 = .ok (.ifCond .eq 54, 3) := by decide +kernel
theorem dX7_bus_150 : decode cX7_bus 150 = .ok (.iload 4, 2) := by decide +kernel
theorem dX7_bus_152 : decode cX7_bus 152 = .ok (.ifCond .ne 45, 3) := by decide +kernel
theorem dX7_bus_155 : decode cX7_bus 155 = .ok (.iload_n 3, 1) := by decide +kernel
theorem dX7_bus_156 : decode cX7_bus 156 = .ok (.sipush 250, 3) := by decide +kernel
theorem dX7_bus_159 : decode cX7_bus 159 = .ok (.if_icmp .gt 14, 3) := by decide +kernel
theorem dX7_bus_162 : decode cX7_bus 162 = .ok (.aload_n 0, 1) := by decide +kernel
theorem dX7_bus_163 : decode cX7_bus 163 = .ok (.getfield 23, 3) := by decide +kernel
theorem dX7_bus_166 : decode cX7_bus 166 = .ok (.iload 5, 2) := by decide +kernel
theorem dX7_bus_168 : decode cX7_bus 168 = .ok (.iaload, 1) := by decide +kernel
theorem dX7_bus_169 : decode cX7_bus 169 = .ok (.iload_n 3, 1) := by decide +kernel
theorem dX7_bus_170 : decode cX7_bus 170 = .ok (.if_icmp .eq 27, 3) := by decide +kernel
theorem dX7_bus_173 : decode cX7_bus 173 = .ok (.iload_n 3, 1) := by decide +kernel
theorem dX7_bus_174 : decode cX7_bus 174 = .ok (.sipush 253, 3) := by decide +kernel
theorem dX7_bus_177 : decode cX7_bus 177 = .ok (.if_icmp .ne 13, 3) := by decide +kernel
theorem dX7_bus_180 : decode cX7_bus 180 = .ok (.aload_n 0, 1) := by decide +kernel
theorem dX7_bus_181 : decode cX7_bus 181 = .ok (.getfield 29, 3) := by decide +kernel
theorem dX7_bus_184 : decode cX7_bus 184 = .ok (.iload 5, 2) := by decide +kernel
theorem dX7_bus_186 : decode cX7_bus 186 = .ok (.baload, 1) := by decide +kernel
theorem dX7_bus_187 : decode cX7_bus 187 = .ok (.ifCond .ne 10, 3) := by decide +kernel
theorem dX7_bus_190 : decode cX7_bus 190 = .ok (.iload_n 3, 1) := by decide +kernel
theorem dX7_bus_191 : decode cX7_bus 191 = .ok (.sipush 254, 3) := by decide +kernel
theorem dX7_bus_194 : decode cX7_bus 194 = .ok (.if_icmp .lt 7, 3) := by decide +kernel
theorem dX7_bus_197 : decode cX7_bus 197 = .ok (.iconst 1, 1) := by decide +kernel
theorem dX7_bus_198 : decode cX7_bus 198 = .ok (.goto 4, 3) := by decide +kernel
theorem dX7_bus_201 : decode cX7_bus 201 = .ok (.iconst 0, 1) := by decide +kernel
theorem dX7_bus_202 : decode cX7_bus 202 = .ok (.istore 6, 2) := by decide +kernel
theorem dX7_bus_204 : decode cX7_bus 204 = .ok (.iload 6, 2) := by decide +kernel
theorem dX7_bus_206 : decode cX7_bus 206 = .ok (.ifCond .eq 50, 3) := by decide +kernel
theorem dX7_bus_209 : decode cX7_bus 209 = .ok (.iload 4, 2) := by decide +kernel
theorem dX7_bus_211 : decode cX7_bus 211 = .ok (.ifCond .eq 12, 3) := by decide +kernel
theorem dX7_bus_214 : decode cX7_bus 214 = .ok (.aload_n 0, 1) := by decide +kernel
theorem dX7_bus_215 : decode cX7_bus 215 = .ok (.iload 5, 2) := by decide +kernel
theorem dX7_bus_217 : decode cX7_bus 217 = .ok (.invokevirtual 145, 3) := by decide +kernel
theorem dX7_bus_220 : decode cX7_bus 220 = .ok (.goto 36, 3) := by decide +kernel
theorem dX7_bus_223 : decode cX7_bus 223 = .ok (.iload_n 1, 1) := by decide +kernel
theorem dX7_bus_224 : decode cX7_bus 224 = .ok (.ifCond .eq 14, 3) := by decide +kernel
theorem dX7_bus_227 : decode cX7_bus 227 = .ok (.aload_n 0, 1) := by decide +kernel
theorem dX7_bus_228 : decode cX7_bus 228 = .ok (.iload 5, 2) := by decide +kernel
theorem dX7_bus_230 : decode cX7_bus 230 = .ok (.iload_n 2, 1) := by decide +kernel
theorem dX7_bus_231 : decode cX7_bus 231 = .ok (.iload_n 3, 1) := by decide +kernel
theorem dX7_bus_232 : decode cX7_bus 232 = .ok (.invokevirtual 149, 3) := by decide +kernel
theorem dX7_bus_235 : decode cX7_bus 235 = .ok (.goto 21, 3) := by decide +kernel
theorem dX7_bus_238 : decode cX7_bus 238 = .ok (.iload_n 2, 1) := by decide +kernel
theorem dX7_bus_239 : decode cX7_bus 239 = .ok (.bipush 83, 2) := by decide +kernel
theorem dX7_bus_241 : decode cX7_bus 241 = .ok (.if_icmp .eq 9, 3) := by decide +kernel
theorem dX7_bus_244 : decode cX7_bus 244 = .ok (.iload_n 2, 1) := by decide +kernel
theorem dX7_bus_245 : decode cX7_bus 245 = .ok (.bipush 115, 2) := by decide +kernel
theorem dX7_bus_247 : decode cX7_bus 247 = .ok (.if_icmp .ne 9, 3) := by decide +kernel
theorem dX7_bus_250 : decode cX7_bus 250 = .ok (.aload_n 0, 1) := by decide +kernel
theorem dX7_bus_251 : decode cX7_bus 251 = .ok (.iload 5, 2) := by decide +kernel
theorem dX7_bus_253 : decode cX7_bus 253 = .ok (.invokevirtual 153, 3) := by decide +kernel
theorem dX7_bus_256 : decode cX7_bus 256 = .ok (.iinc 5 1, 3) := by decide +kernel
theorem dX7_bus_259 : decode cX7_bus 259 = .ok (.goto (-126), 3) := by decide +kernel
theorem dX7_bus_262 : decode cX7_bus 262 = .ok (.aload_n 0, 1) := by decide +kernel
theorem dX7_bus_263 : decode cX7_bus 263 = .ok (.iload_n 3, 1) := by decide +kernel
theorem dX7_bus_264 : decode cX7_bus 264 = .ok (.sipush 255, 3) := by decide +kernel
theorem dX7_bus_267 : decode cX7_bus 267 = .ok (.if_icmp .ne 7, 3) := by decide +kernel
theorem dX7_bus_270 : decode cX7_bus 270 = .ok (.iconst 0, 1) := by decide +kernel
theorem dX7_bus_271 : decode cX7_bus 271 = .ok (.goto 7, 3) := by decide +kernel
theorem dX7_bus_274 : decode cX7_bus 274 = .ok (.aload_n 0, 1) := by decide +kernel
theorem dX7_bus_275 : decode cX7_bus 275 = .ok (.getfield 132, 3) := by decide +kernel
theorem dX7_bus_278 : decode cX7_bus 278 = .ok (.putfield 132, 3) := by decide +kernel
theorem dX7_bus_281 : decode cX7_bus 281 = .ok (.aload_n 0, 1) := by decide +kernel
theorem dX7_bus_282 : decode cX7_bus 282 = .ok (.dup, 1) := by decide +kernel
theorem dX7_bus_283 : decode cX7_bus 283 = .ok (.getfield 156, 3) := by decide +kernel
theorem dX7_bus_286 : decode cX7_bus 286 = .ok (.aload_n 0, 1) := by decide +kernel
theorem dX7_bus_287 : decode cX7_bus 287 = .ok (.getfield 132, 3) := by decide +kernel
theorem dX7_bus_290 : decode cX7_bus 290 = .ok (.iconst 1, 1) := by decide +kernel
theorem dX7_bus_291 : decode cX7_bus 291 = .ok (.if_icmp .le 7, 3) := by decide +kernel
theorem dX7_bus_294 : decode cX7_bus 294 = .ok (.iconst 1, 1) := by decide +kernel
theorem dX7_bus_295 : decode cX7_bus 295 = .ok (.goto 4, 3) := by decide +kernel
theorem dX7_bus_298 : decode cX7_bus 298 = .ok (.iconst 0, 1) := by decide +kernel
theorem dX7_bus_299 : decode cX7_bus 299 = .ok (.iadd, 1) := by decide +kernel
theorem dX7_bus_300 : decode cX7_bus 300 = .ok (.putfield 156, 3) := by decide +kernel
theorem dX7_bus_303 : decode cX7_bus 303 = .ok (.return_, 1) := by decide +kernel
theorem dX7_acknowledge_0 : decode cX7_acknowledge 0 = .ok (.aload_n 0, 1) := by decide +kernel
theorem dX7_acknowledge_1 : decode cX7_acknowledge 1 = .ok (.dup, 1) := by decide +kernel
theorem dX7_acknowledge_2 : decode cX7_acknowledge 2 = .ok (.getfield 132, 3) := by decide +kernel
theorem dX7_acknowledge_5 : decode cX7_acknowledge 5 = .ok (.iconst 1, 1) := by decide +kernel
theorem dX7_acknowledge_6 : decode cX7_acknowledge 6 = .ok (.iadd, 1) := by decide +kernel
theorem dX7_acknowledge_7 : decode cX7_acknowledge 7 = .ok (.putfield 132, 3) := by decide +kernel
theorem dX7_acknowledge_10 : decode cX7_acknowledge 10 = .ok (.aload_n 0, 1) := by decide +kernel
theorem dX7_acknowledge_11 : decode cX7_acknowledge 11 = .ok (.getfield 16, 3) := by decide +kernel
theorem dX7_acknowledge_14 : decode cX7_acknowledge 14 = .ok (.iconst 0, 1) := by decide +kernel
theorem dX7_acknowledge_15 : decode cX7_acknowledge 15 = .ok (.sipush 229, 3) := by decide +kernel
theorem dX7_acknowledge_18 : decode cX7_acknowledge 18 = .ok (.iastore, 1) := by decide +kernel
theorem dX7_acknowledge_19 : decode cX7_acknowledge 19 = .ok (.aload_n 0, 1) := by decide +kernel
theorem dX7_acknowledge_20 : decode cX7_acknowledge 20 = .ok (.iconst 1, 1) := by decide +kernel
theorem dX7_acknowledge_21 : decode cX7_acknowledge 21 = .ok (.putfield 135, 3) := by decide +kernel
theorem dX7_acknowledge_24 : decode cX7_acknowledge 24 = .ok (.return_, 1) := by decide +kernel
theorem dX7_select_0 : decode cX7_select 0 = .ok (.iconst 1, 1) := by decide +kernel
theorem dX7_select_1 : decode cX7_select 1 = .ok (.istore_n 2, 1) := by decide +kernel
theorem dX7_select_2 : decode cX7_select 2 = .ok (.iconst 0, 1) := by decide +kernel
theorem dX7_select_3 : decode cX7_select 3 = .ok (.istore_n 3, 1) := by decide +kernel
theorem dX7_select_4 : decode cX7_select 4 = .ok (.iload_n 3, 1) := by decide +kernel
theorem dX7_select_5 : decode cX7_select 5 = .ok (.bipush 8, 2) := by decide +kernel
theorem dX7_select_7 : decode cX7_select 7 = .ok (.if_icmp .ge 119, 3) := by decide +kernel
theorem dX7_select_10 : decode cX7_select 10 = .ok (.aload_n 0, 1) := by decide +kernel
theorem dX7_select_11 : decode cX7_select 11 = .ok (.getfield 13, 3) := by decide +kernel
theorem dX7_select_14 : decode cX7_select 14 = .ok (.bipush 7, 2) := by decide +kernel
theorem dX7_select_16 : decode cX7_select 16 = .ok (.iload_n 3, 1) := by decide +kernel
theorem dX7_select_17 : decode cX7_select 17 = .ok (.iadd, 1) := by decide +kernel
theorem dX7_select_18 : decode cX7_select 18 = .ok (.iaload, 1) := by decide +kernel
theorem dX7_select_19 : decode cX7_select 19 = .ok (.istore 4, 2) := by decide +kernel
theorem dX7_select_21 : decode cX7_select 21 = .ok (.aload_n 0, 1) := by decide +kernel
theorem dX7_select_22 : decode cX7_select 22 = .ok (.getfield 26, 3) := by decide +kernel
theorem dX7_select_25 : decode cX7_select 25 = .ok (.bipush 8, 2) := by decide +kernel
theorem dX7_select_27 : decode cX7_select 27 = .ok (.iload_n 1, 1) := by decide +kernel
theorem dX7_select_28 : decode cX7_select 28 = .ok (.imul, 1) := by decide +kernel
theorem dX7_select_29 : decode cX7_select 29 = .ok (.iload_n 3, 1) := by decide +kernel
theorem dX7_select_30 : decode cX7_select 30 = .ok (.iadd, 1) := by decide +kernel
theorem dX7_select_31 : decode cX7_select 31 = .ok (.iaload, 1) := by decide +kernel
theorem dX7_select_32 : decode cX7_select 32 = .ok (.istore 5, 2) := by decide +kernel
theorem dX7_select_34 : decode cX7_select 34 = .ok (.iload_n 3, 1) := by decide +kernel
theorem dX7_select_35 : decode cX7_select 35 = .ok (.iconst 4, 1) := by decide +kernel
theorem dX7_select_36 : decode cX7_select 36 = .ok (.if_icmp .ge 59, 3) := by decide +kernel
theorem dX7_select_39 : decode cX7_select 39 = .ok (.iload_n 2, 1) := by decide +kernel
theorem dX7_select_40 : decode cX7_select 40 = .ok (.ifCond .eq 50, 3) := by decide +kernel
theorem dX7_select_43 : decode cX7_select 43 = .ok (.iload 4, 2) := by decide +kernel
theorem dX7_select_45 : decode cX7_select 45 = .ok (.bipush 15, 2) := by decide +kernel
theorem dX7_select_47 : decode cX7_select 47 = .ok (.iand, 1) := by decide +kernel
theorem dX7_select_48 : decode cX7_select 48 = .ok (.bipush 15, 2) := by decide +kernel
theorem dX7_select_50 : decode cX7_select 50 = .ok (.if_icmp .eq 16, 3) := by decide +kernel
theorem dX7_select_53 : decode cX7_select 53 = .ok (.iload 4, 2) := by decide +kernel
theorem dX7_select_55 : decode cX7_select 55 = .ok (.bipush 15, 2) := by decide +kernel
theorem dX7_select_57 : decode cX7_select 57 = .ok (.iand, 1) := by decide +kernel
theorem dX7_select_58 : decode cX7_select 58 = .ok (.iload 5, 2) := by decide +kernel
theorem dX7_select_60 : decode cX7_select 60 = .ok (.bipush 15, 2) := by decide +kernel
theorem dX7_select_62 : decode cX7_select 62 = .ok (.iand, 1) := by decide +kernel
theorem dX7_select_63 : decode cX7_select 63 = .ok (.if_icmp .ne 27, 3) := by decide +kernel
theorem dX7_select_66 : decode cX7_select 66 = .ok (.iload 4, 2) := by decide +kernel
theorem dX7_select_68 : decode cX7_select 68 = .ok (.iconst 4, 1) := by decide +kernel
theorem dX7_select_69 : decode cX7_select 69 = .ok (.ishr, 1) := by decide +kernel
theorem dX7_select_70 : decode cX7_select 70 = .ok (.bipush 15, 2) := by decide +kernel
theorem dX7_select_72 : decode cX7_select 72 = .ok (.if_icmp .eq 14, 3) := by decide +kernel
theorem dX7_select_75 : decode cX7_select 75 = .ok (.iload 4, 2) := by decide +kernel
theorem dX7_select_77 : decode cX7_select 77 = .ok (.iconst 4, 1) := by decide +kernel
theorem dX7_select_78 : decode cX7_select 78 = .ok (.ishr, 1) := by decide +kernel
theorem dX7_select_79 : decode cX7_select 79 = .ok (.iload 5, 2) := by decide +kernel
theorem dX7_select_81 : decode cX7_select 81 = .ok (.iconst 4, 1) := by decide +kernel
theorem dX7_select_82 : decode cX7_select 82 = .ok (.ishr, 1) := by decide +kernel
theorem dX7_select_83 : decode cX7_select 83 = .ok (.if_icmp .ne 7, 3) := by decide +kernel
theorem dX7_select_86 : decode cX7_select 86 = .ok (.iconst 1, 1) := by decide +kernel
theorem dX7_select_87 : decode cX7_select 87 = .ok (.goto 4, 3) := by decide +kernel
theorem dX7_select_90 : decode cX7_select 90 = .ok (.iconst 0, 1) := by decide +kernel
theorem dX7_select_91 : decode cX7_select 91 = .ok (.istore_n 2, 1) := by decide +kernel
theorem dX7_select_92 : decode cX7_select 92 = .ok (.goto 28, 3) := by decide +kernel
theorem dX7_select_95 : decode cX7_select 95 = .ok (.iload_n 2, 1) := by decide +kernel
theorem dX7_select_96 : decode cX7_select 96 = .ok (.ifCond .eq 22, 3) := by decide +kernel
theorem dX7_select_99 : decode cX7_select 99 = .ok (.iload 4, 2) := by decide +kernel
theorem dX7_select_101 : decode cX7_select 101 = .ok (.sipush 255, 3) := by decide +kernel
theorem dX7_select_104 : decode cX7_select 104 = .ok (.if_icmp .eq 10, 3) := by decide +kernel
theorem dX7_select_107 : decode cX7_select 107 = .ok (.iload 4, 2) := by decide +kernel
theorem dX7_select_109 : decode cX7_select 109 = .ok (.iload 5, 2) := by decide +kernel
theorem dX7_select_111 : decode cX7_select 111 = .ok (.if_icmp .ne 7, 3) := by decide +kernel
theorem dX7_select_114 : decode cX7_select 114 = .ok (.iconst 1, 1) := by decide +kernel
theorem dX7_select_115 : decode cX7_select 115 = .ok (.goto 4, 3) := by decide +kernel
theorem dX7_select_118 : decode cX7_select 118 = .ok (.iconst 0, 1) := by decide +kernel
theorem dX7_select_119 : decode cX7_select 119 = .ok (.istore_n 2, 1) := by decide +kernel
theorem dX7_select_120 : decode cX7_select 120 = .ok (.iinc 3 1, 3) := by decide +kernel
theorem dX7_select_123 : decode cX7_select 123 = .ok (.goto (-119), 3) := by decide +kernel
theorem dX7_select_126 : decode cX7_select 126 = .ok (.aload_n 0, 1) := by decide +kernel
theorem dX7_select_127 : decode cX7_select 127 = .ok (.getfield 29, 3) := by decide +kernel
theorem dX7_select_130 : decode cX7_select 130 = .ok (.iload_n 1, 1) := by decide +kernel
theorem dX7_select_131 : decode cX7_select 131 = .ok (.iload_n 2, 1) := by decide +kernel
theorem dX7_select_132 : decode cX7_select 132 = .ok (.bastore, 1) := by decide +kernel
theorem dX7_select_133 : decode cX7_select 133 = .ok (.iload_n 2, 1) := by decide +kernel
theorem dX7_select_134 : decode cX7_select 134 = .ok (.ifCond .eq 7, 3) := by decide +kernel
theorem dX7_select_137 : decode cX7_select 137 = .ok (.aload_n 0, 1) := by decide +kernel
theorem dX7_select_138 : decode cX7_select 138 = .ok (.invokevirtual 159, 3) := by decide +kernel
theorem dX7_select_141 : decode cX7_select 141 = .ok (.return_, 1) := by decide +kernel
theorem dX7_forget_0 : decode cX7_forget 0 = .ok (.aload_n 0, 1) := by decide +kernel
theorem dX7_forget_1 : decode cX7_forget 1 = .ok (.getfield 35, 3) := by decide +kernel
theorem dX7_forget_4 : decode cX7_forget 4 = .ok (.iload_n 1, 1) := by decide +kernel
theorem dX7_forget_5 : decode cX7_forget 5 = .ok (.iconst (-1), 1) := by decide +kernel
theorem dX7_forget_6 : decode cX7_forget 6 = .ok (.iastore, 1) := by decide +kernel
theorem dX7_forget_7 : decode cX7_forget 7 = .ok (.aload_n 0, 1) := by decide +kernel
theorem dX7_forget_8 : decode cX7_forget 8 = .ok (.getfield 32, 3) := by decide +kernel
theorem dX7_forget_11 : decode cX7_forget 11 = .ok (.iload_n 1, 1) := by decide +kernel
theorem dX7_forget_12 : decode cX7_forget 12 = .ok (.iconst (-1), 1) := by decide +kernel
theorem dX7_forget_13 : decode cX7_forget 13 = .ok (.iastore, 1) := by decide +kernel
theorem dX7_forget_14 : decode cX7_forget 14 = .ok (.return_, 1) := by decide +kernel
theorem dX7_shortFrame_0 : decode cX7_shortFrame 0 = .ok (.iload_n 2, 1) := by decide +kernel
theorem dX7_shortFrame_1 : decode cX7_shortFrame 1 = .ok (.bipush 64, 2) := by decide +kernel
theorem dX7_shortFrame_3 : decode cX7_shortFrame 3 = .ok (.if_icmp .ne 42, 3) := by decide +kernel
theorem dX7_shortFrame_6 : decode cX7_shortFrame 6 = .ok (.aload_n 0, 1) := by decide +kernel
theorem dX7_shortFrame_7 : decode cX7_shortFrame 7 = .ok (.iload_n 1, 1) := by decide +kernel
theorem dX7_shortFrame_8 : decode cX7_shortFrame 8 = .ok (.invokevirtual 162, 3) := by decide +kernel
theorem dX7_shortFrame_11 : decode cX7_shortFrame 11 = .ok (.aload_n 0, 1) := by decide +kernel
theorem dX7_shortFrame_12 : decode cX7_shortFrame 12 = .ok (.getfield 29, 3) := by decide +kernel
theorem dX7_shortFrame_15 : decode cX7_shortFrame 15 = .ok (.iload_n 1, 1) := by decide +kernel
theorem dX7_shortFrame_16 : decode cX7_shortFrame 16 = .ok (.aload_n 0, 1) := by decide +kernel
theorem dX7_shortFrame_17 : decode cX7_shortFrame 17 = .ok (.getfield 29, 3) := by decide +kernel
theorem dX7_shortFrame_20 : decode cX7_shortFrame 20 = .ok (.iload_n 1, 1) := by decide +kernel
theorem dX7_shortFrame_21 : decode cX7_shortFrame 21 = .ok (.baload, 1) := by decide +kernel
theorem dX7_shortFrame_22 : decode cX7_shortFrame 22 = .ok (.ifCond .eq 14, 3) := by decide +kernel
theorem dX7_shortFrame_25 : decode cX7_shortFrame 25 = .ok (.iload_n 3, 1) := by decide +kernel
theorem dX7_shortFrame_26 : decode cX7_shortFrame 26 = .ok (.sipush 253, 3) := by decide +kernel
theorem dX7_shortFrame_29 : decode cX7_shortFrame 29 = .ok (.if_icmp .eq 7, 3) := by decide +kernel
theorem dX7_shortFrame_32 : decode cX7_shortFrame 32 = .ok (.iconst 1, 1) := by decide +kernel
theorem dX7_shortFrame_33 : decode cX7_shortFrame 33 = .ok (.goto 4, 3) := by decide +kernel
theorem dX7_shortFrame_36 : decode cX7_shortFrame 36 = .ok (.iconst 0, 1) := by decide +kernel
theorem dX7_shortFrame_37 : decode cX7_shortFrame 37 = .ok (.bastore, 1) := by decide +kernel
theorem dX7_shortFrame_38 : decode cX7_shortFrame 38 = .ok (.aload_n 0, 1) := by decide +kernel
theorem dX7_shortFrame_39 : decode cX7_shortFrame 39 = .ok (.invokevirtual 159, 3) := by decide +kernel
theorem dX7_shortFrame_42 : decode cX7_shortFrame 42 = .ok (.goto 140, 3) := by decide +kernel
theorem dX7_shortFrame_45 : decode cX7_shortFrame 45 = .ok (.iload_n 2, 1) := by decide +kernel
theorem dX7_shortFrame_46 : decode cX7_shortFrame 46 = .ok (.bipush 91, 2) := by decide +kernel
theorem dX7_shortFrame_48 : decode cX7_shortFrame 48 = .ok (.if_icmp .eq 9, 3) := by decide +kernel
theorem dX7_shortFrame_51 : decode cX7_shortFrame 51 = .ok (.iload_n 2, 1) := by decide +kernel
theorem dX7_shortFrame_52 : decode cX7_shortFrame 52 = .ok (.bipush 123, 2) := by decide +kernel
theorem dX7_shortFrame_54 : decode cX7_shortFrame 54 = .ok (.if_icmp .ne 128, 3) := by decide +kernel
theorem dX7_shortFrame_57 : decode cX7_shortFrame 57 = .ok (.iload_n 2, 1) := by decide +kernel
theorem dX7_shortFrame_58 : decode cX7_shortFrame 58 = .ok (.bipush 123, 2) := by decide +kernel
theorem dX7_shortFrame_60 : decode cX7_shortFrame 60 = .ok (.if_icmp .ne 7, 3) := by decide +kernel
theorem dX7_shortFrame_63 : decode cX7_shortFrame 63 = .ok (.iconst 1, 1) := by decide +kernel
theorem dX7_shortFrame_64 : decode cX7_shortFrame 64 = .ok (.goto 4, 3) := by decide +kernel
theorem dX7_shortFrame_67 : decode cX7_shortFrame 67 = .ok (.iconst 0, 1) := by decide +kernel
theorem dX7_shortFrame_68 : decode cX7_shortFrame 68 = .ok (.istore 4, 2) := by decide +kernel
theorem dX7_shortFrame_70 : decode cX7_shortFrame 70 = .ok (.aload_n 0, 1) := by decide +kernel
theorem dX7_shortFrame_71 : decode cX7_shortFrame 71 = .ok (.getfield 35, 3) := by decide +kernel
theorem dX7_shortFrame_74 : decode cX7_shortFrame 74 = .ok (.iload_n 1, 1) := by decide +kernel
theorem dX7_shortFrame_75 : decode cX7_shortFrame 75 = .ok (.iaload, 1) := by decide +kernel
theorem dX7_shortFrame_76 : decode cX7_shortFrame 76 = .ok (.ifCond .ge 7, 3) := by decide +kernel
theorem dX7_shortFrame_79 : decode cX7_shortFrame 79 = .ok (.iconst 0, 1) := by decide +kernel
theorem dX7_shortFrame_80 : decode cX7_shortFrame 80 = .ok (.goto 31, 3) := by decide +kernel
theorem dX7_shortFrame_83 : decode cX7_shortFrame 83 = .ok (.aload_n 0, 1) := by decide +kernel
theorem dX7_shortFrame_84 : decode cX7_shortFrame 84 = .ok (.getfield 35, 3) := by decide +kernel
theorem dX7_shortFrame_87 : decode cX7_shortFrame 87 = .ok (.iload_n 1, 1) := by decide +kernel
theorem dX7_shortFrame_88 : decode cX7_shortFrame 88 = .ok (.iaload, 1) := by decide +kernel
theorem dX7_shortFrame_89 : decode cX7_shortFrame 89 = .ok (.iload 4, 2) := by decide +kernel
theorem dX7_shortFrame_91 : decode cX7_shortFrame 91 = .ok (.if_icmp .ne 12, 3) := by decide +kernel
theorem dX7_shortFrame_94 : decode cX7_shortFrame 94 = .ok (.aload_n 0, 1) := by decide +kernel
theorem dX7_shortFrame_95 : decode cX7_shortFrame 95 = .ok (.getfield 32, 3) := by decide +kernel
theorem dX7_shortFrame_98 : decode cX7_shortFrame 98 = .ok (.iload_n 1, 1) := by decide +kernel
theorem dX7_shortFrame_99 : decode cX7_shortFrame 99 = .ok (.iaload, 1) := by decide +kernel
theorem dX7_shortFrame_100 : decode cX7_shortFrame 100 = .ok (.goto 11, 3) := by decide +kernel
theorem dX7_shortFrame_103 : decode cX7_shortFrame 103 = .ok (.aload_n 0, 1) := by decide +kernel
theorem dX7_shortFrame_104 : decode cX7_shortFrame 104 = .ok (.getfield 32, 3) := by decide +kernel
theorem dX7_shortFrame_107 : decode cX7_shortFrame 107 = .ok (.iload_n 1, 1) := by decide +kernel
theorem dX7_shortFrame_108 : decode cX7_shortFrame 108 = .ok (.iaload, 1) := by decide +kernel
theorem dX7_shortFrame_109 : decode cX7_shortFrame 109 = .ok (.iconst 1, 1) := by decide +kernel
theorem dX7_shortFrame_110 : decode cX7_shortFrame 110 = .ok (.iadd, 1) := by decide +kernel
theorem dX7_shortFrame_111 : decode cX7_shortFrame 111 = .ok (.istore 5, 2) := by decide +kernel
theorem dX7_shortFrame_113 : decode cX7_shortFrame 113 = .ok (.iload 5, 2) := by decide +kernel
theorem dX7_shortFrame_115 : decode cX7_shortFrame 115 = .ok (.aload_n 0, 1) := by decide +kernel
theorem dX7_shortFrame_116 : decode cX7_shortFrame 116 = .ok (.iload_n 1, 1) := by decide +kernel
theorem dX7_shortFrame_117 : decode cX7_shortFrame 117 = .ok (.invokevirtual 122, 3) := by decide +kernel
theorem dX7_shortFrame_120 : decode cX7_shortFrame 120 = .ok (.if_icmp .ge 8, 3) := by decide +kernel
theorem dX7_shortFrame_123 : decode cX7_shortFrame 123 = .ok (.iload 5, 2) := by decide +kernel
theorem dX7_shortFrame_125 : decode cX7_shortFrame 125 = .ok (.goto 4, 3) := by decide +kernel
theorem dX7_shortFrame_128 : decode cX7_shortFrame 128 = .ok (.iconst 0, 1) := by decide +kernel
theorem dX7_shortFrame_129 : decode cX7_shortFrame 129 = .ok (.istore 5, 2) := by decide +kernel
theorem dX7_shortFrame_131 : decode cX7_shortFrame 131 = .ok (.aload_n 0, 1) := by decide +kernel
theorem dX7_shortFrame_132 : decode cX7_shortFrame 132 = .ok (.iload_n 1, 1) := by decide +kernel
theorem dX7_shortFrame_133 : decode cX7_shortFrame 133 = .ok (.iload 5, 2) := by decide +kernel
theorem dX7_shortFrame_135 : decode cX7_shortFrame 135 = .ok (.invokevirtual 165, 3) := by decide +kernel
theorem dX7_shortFrame_138 : decode cX7_shortFrame 138 = .ok (.aload_n 0, 1) := by decide +kernel
theorem dX7_shortFrame_139 : decode cX7_shortFrame 139 = .ok (.getfield 32, 3) := by decide +kernel
theorem dX7_shortFrame_142 : decode cX7_shortFrame 142 = .ok (.iload_n 1, 1) := by decide +kernel
theorem dX7_shortFrame_143 : decode cX7_shortFrame 143 = .ok (.iload 5, 2) := by decide +kernel
theorem dX7_shortFrame_145 : decode cX7_shortFrame 145 = .ok (.iastore, 1) := by decide +kernel
theorem dX7_shortFrame_146 : decode cX7_shortFrame 146 = .ok (.aload_n 0, 1) := by decide +kernel
theorem dX7_shortFrame_147 : decode cX7_shortFrame 147 = .ok (.getfield 35, 3) := by decide +kernel
theorem dX7_shortFrame_150 : decode cX7_shortFrame 150 = .ok (.iload_n 1, 1) := by decide +kernel
theorem dX7_shortFrame_151 : decode cX7_shortFrame 151 = .ok (.iload 4, 2) := by decide +kernel
theorem dX7_shortFrame_153 : decode cX7_shortFrame 153 = .ok (.iastore, 1) := by decide +kernel
theorem dX7_shortFrame_154 : decode cX7_shortFrame 154 = .ok (.aload_n 0, 1) := by decide +kernel
theorem dX7_shortFrame_155 : decode cX7_shortFrame 155 = .ok (.getfield 38, 3) := by decide +kernel
theorem dX7_shortFrame_158 : decode cX7_shortFrame 158 = .ok (.iload_n 1, 1) := by decide +kernel
theorem dX7_shortFrame_159 : decode cX7_shortFrame 159 = .ok (.aload_n 0, 1) := by decide +kernel
theorem dX7_shortFrame_160 : decode cX7_shortFrame 160 = .ok (.getfield 38, 3) := by decide +kernel
theorem dX7_shortFrame_163 : decode cX7_shortFrame 163 = .ok (.iload_n 1, 1) := by decide +kernel
theorem dX7_shortFrame_164 : decode cX7_shortFrame 164 = .ok (.iaload, 1) := by decide +kernel
theorem dX7_shortFrame_165 : decode cX7_shortFrame 165 = .ok (.iconst 1, 1) := by decide +kernel
theorem dX7_shortFrame_166 : decode cX7_shortFrame 166 = .ok (.iadd, 1) := by decide +kernel
theorem dX7_shortFrame_167 : decode cX7_shortFrame 167 = .ok (.sipush 255, 3) := by decide +kernel
theorem dX7_shortFrame_170 : decode cX7_shortFrame 170 = .ok (.iand, 1) := by decide +kernel
theorem dX7_shortFrame_171 : decode cX7_shortFrame 171 = .ok (.iastore, 1) := by decide +kernel
theorem dX7_shortFrame_172 : decode cX7_shortFrame 172 = .ok (.aload_n 0, 1) := by decide +kernel
theorem dX7_shortFrame_173 : decode cX7_shortFrame 173 = .ok (.dup, 1) := by decide +kernel
theorem dX7_shortFrame_174 : decode cX7_shortFrame 174 = .ok (.getfield 132, 3) := by decide +kernel
theorem dX7_shortFrame_177 : decode cX7_shortFrame 177 = .ok (.iconst 1, 1) := by decide +kernel
theorem dX7_shortFrame_178 : decode cX7_shortFrame 178 = .ok (.iadd, 1) := by decide +kernel
theorem dX7_shortFrame_179 : decode cX7_shortFrame 179 = .ok (.putfield 132, 3) := by decide +kernel
theorem dX7_shortFrame_182 : decode cX7_shortFrame 182 = .ok (.return_, 1) := by decide +kernel
theorem dX7_say_0 : decode cX7_say 0 = .ok (.aload_n 0, 1) := by decide +kernel
theorem dX7_say_1 : decode cX7_say 1 = .ok (.getfield 16, 3) := by decide +kernel
theorem dX7_say_4 : decode cX7_say 4 = .ok (.aload_n 0, 1) := by decide +kernel
theorem dX7_say_5 : decode cX7_say 5 = .ok (.getfield 135, 3) := by decide +kernel
theorem dX7_say_8 : decode cX7_say 8 = .ok (.iload_n 1, 1) := by decide +kernel
theorem dX7_say_9 : decode cX7_say 9 = .ok (.iastore, 1) := by decide +kernel
theorem dX7_say_10 : decode cX7_say 10 = .ok (.aload_n 0, 1) := by decide +kernel
theorem dX7_say_11 : decode cX7_say 11 = .ok (.dup, 1) := by decide +kernel
theorem dX7_say_12 : decode cX7_say 12 = .ok (.getfield 135, 3) := by decide +kernel
theorem dX7_say_15 : decode cX7_say 15 = .ok (.iconst 1, 1) := by decide +kernel
theorem dX7_say_16 : decode cX7_say 16 = .ok (.iadd, 1) := by decide +kernel
theorem dX7_say_17 : decode cX7_say 17 = .ok (.putfield 135, 3) := by decide +kernel
theorem dX7_say_20 : decode cX7_say 20 = .ok (.return_, 1) := by decide +kernel
theorem dX7_tell_0 : decode cX7_tell 0 = .ok (.iload_n 2, 1) := by decide +kernel
theorem dX7_tell_1 : decode cX7_tell 1 = .ok (.iconst 1, 1) := by decide +kernel
theorem dX7_tell_2 : decode cX7_tell 2 = .ok (.iadd, 1) := by decide +kernel
theorem dX7_tell_3 : decode cX7_tell 3 = .ok (.aload_n 0, 1) := by decide +kernel
theorem dX7_tell_4 : decode cX7_tell 4 = .ok (.iload_n 1, 1) := by decide +kernel
theorem dX7_tell_5 : decode cX7_tell 5 = .ok (.invokevirtual 122, 3) := by decide +kernel
theorem dX7_tell_8 : decode cX7_tell 8 = .ok (.if_icmp .ge 7, 3) := by decide +kernel
theorem dX7_tell_11 : decode cX7_tell 11 = .ok (.iconst 1, 1) := by decide +kernel
theorem dX7_tell_12 : decode cX7_tell 12 = .ok (.goto 4, 3) := by decide +kernel
theorem dX7_tell_15 : decode cX7_tell 15 = .ok (.iconst 0, 1) := by decide +kernel
theorem dX7_tell_16 : decode cX7_tell 16 = .ok (.istore_n 3, 1) := by decide +kernel
theorem dX7_tell_17 : decode cX7_tell 17 = .ok (.aload_n 0, 1) := by decide +kernel
theorem dX7_tell_18 : decode cX7_tell 18 = .ok (.getfield 41, 3) := by decide +kernel
theorem dX7_tell_21 : decode cX7_tell 21 = .ok (.iconst 3, 1) := by decide +kernel
theorem dX7_tell_22 : decode cX7_tell 22 = .ok (.iload_n 1, 1) := by decide +kernel
theorem dX7_tell_23 : decode cX7_tell 23 = .ok (.imul, 1) := by decide +kernel
theorem dX7_tell_24 : decode cX7_tell 24 = .ok (.iload_n 2, 1) := by decide +kernel
theorem dX7_tell_25 : decode cX7_tell 25 = .ok (.iadd, 1) := by decide +kernel
theorem dX7_tell_26 : decode cX7_tell 26 = .ok (.iaload, 1) := by decide +kernel
theorem dX7_tell_27 : decode cX7_tell 27 = .ok (.istore 4, 2) := by decide +kernel
theorem dX7_tell_29 : decode cX7_tell 29 = .ok (.bipush 15, 2) := by decide +kernel
theorem dX7_tell_31 : decode cX7_tell 31 = .ok (.iload 4, 2) := by decide +kernel
theorem dX7_tell_33 : decode cX7_tell 33 = .ok (.iadd, 1) := by decide +kernel
theorem dX7_tell_34 : decode cX7_tell 34 = .ok (.iload_n 3, 1) := by decide +kernel
theorem dX7_tell_35 : decode cX7_tell 35 = .ok (.ifCond .eq 7, 3) := by decide +kernel
theorem dX7_tell_38 : decode cX7_tell 38 = .ok (.iconst 1, 1) := by decide +kernel
theorem dX7_tell_39 : decode cX7_tell 39 = .ok (.goto 4, 3) := by decide +kernel
theorem dX7_tell_42 : decode cX7_tell 42 = .ok (.iconst 0, 1) := by decide +kernel
theorem dX7_tell_43 : decode cX7_tell 43 = .ok (.iadd, 1) := by decide +kernel
theorem dX7_tell_44 : decode cX7_tell 44 = .ok (.istore 5, 2) := by decide +kernel
theorem dX7_tell_46 : decode cX7_tell 46 = .ok (.aload_n 0, 1) := by decide +kernel
theorem dX7_tell_47 : decode cX7_tell 47 = .ok (.iconst 0, 1) := by decide +kernel
theorem dX7_tell_48 : decode cX7_tell 48 = .ok (.putfield 135, 3) := by decide +kernel
theorem dX7_tell_51 : decode cX7_tell 51 = .ok (.aload_n 0, 1) := by decide +kernel
theorem dX7_tell_52 : decode cX7_tell 52 = .ok (.bipush 104, 2) := by decide +kernel
theorem dX7_tell_54 : decode cX7_tell 54 = .ok (.invokevirtual 169, 3) := by decide +kernel
theorem dX7_tell_57 : decode cX7_tell 57 = .ok (.aload_n 0, 1) := by decide +kernel
theorem dX7_tell_58 : decode cX7_tell 58 = .ok (.iload 5, 2) := by decide +kernel
theorem dX7_tell_60 : decode cX7_tell 60 = .ok (.invokevirtual 169, 3) := by decide +kernel
theorem dX7_tell_63 : decode cX7_tell 63 = .ok (.aload_n 0, 1) := by decide +kernel
theorem dX7_tell_64 : decode cX7_tell 64 = .ok (.iload 5, 2) := by decide +kernel
theorem dX7_tell_66 : decode cX7_tell 66 = .ok (.invokevirtual 169, 3) := by decide +kernel
theorem dX7_tell_69 : decode cX7_tell 69 = .ok (.aload_n 0, 1) := by decide +kernel
theorem dX7_tell_70 : decode cX7_tell 70 = .ok (.bipush 104, 2) := by decide +kernel
theorem dX7_tell_72 : decode cX7_tell 72 = .ok (.invokevirtual 169, 3) := by decide +kernel
theorem dX7_tell_75 : decode cX7_tell 75 = .ok (.aload_n 0, 1) := by decide +kernel
theorem dX7_tell_76 : decode cX7_tell 76 = .ok (.bipush 8, 2) := by decide +kernel
theorem dX7_tell_78 : decode cX7_tell 78 = .ok (.invokevirtual 169, 3) := by decide +kernel
theorem dX7_tell_81 : decode cX7_tell 81 = .ok (.aload_n 0, 1) := by decide +kernel
theorem dX7_tell_82 : decode cX7_tell 82 = .ok (.aload_n 0, 1) := by decide +kernel
theorem dX7_tell_83 : decode cX7_tell 83 = .ok (.getfield 23, 3) := by decide +kernel
theorem dX7_tell_86 : decode cX7_tell 86 = .ok (.iload_n 1, 1) := by decide +kernel
theorem dX7_tell_87 : decode cX7_tell 87 = .ok (.iaload, 1) := by decide +kernel
theorem dX7_tell_88 : decode cX7_tell 88 = .ok (.invokevirtual 169, 3) := by decide +kernel
theorem dX7_tell_91 : decode cX7_tell 91 = .ok (.aload_n 0, 1) := by decide +kernel
theorem dX7_tell_92 : decode cX7_tell 92 = .ok (.bipush 114, 2) := by decide +kernel
theorem dX7_tell_94 : decode cX7_tell 94 = .ok (.invokevirtual 169, 3) := by decide +kernel
theorem dX7_tell_97 : decode cX7_tell 97 = .ok (.iconst 0, 1) := by decide +kernel
theorem dX7_tell_98 : decode cX7_tell 98 = .ok (.istore 6, 2) := by decide +kernel
theorem dX7_tell_100 : decode cX7_tell 100 = .ok (.iload 6, 2) := by decide +kernel
theorem dX7_tell_102 : decode cX7_tell 102 = .ok (.bipush 8, 2) := by decide +kernel
theorem dX7_tell_104 : decode cX7_tell 104 = .ok (.if_icmp .ge 25, 3) := by decide +kernel
theorem dX7_tell_107 : decode cX7_tell 107 = .ok (.aload_n 0, 1) := by decide +kernel
theorem dX7_tell_108 : decode cX7_tell 108 = .ok (.aload_n 0, 1) := by decide +kernel
theorem dX7_tell_109 : decode cX7_tell 109 = .ok (.getfield 26, 3) := by decide +kernel
theorem dX7_tell_112 : decode cX7_tell 112 = .ok (.bipush 8, 2) := by decide +kernel
theorem dX7_tell_114 : decode cX7_tell 114 = .ok (.iload_n 1, 1) := by decide +kernel
theorem dX7_tell_115 : decode cX7_tell 115 = .ok (.imul, 1) := by decide +kernel
theorem dX7_tell_116 : decode cX7_tell 116 = .ok (.iload 6, 2) := by decide +kernel
theorem dX7_tell_118 : decode cX7_tell 118 = .ok (.iadd, 1) := by decide +kernel
theorem dX7_tell_119 : decode cX7_tell 119 = .ok (.iaload, 1) := by decide +kernel
theorem dX7_tell_120 : decode cX7_tell 120 = .ok (.invokevirtual 169, 3) := by decide +kernel
theorem dX7_tell_123 : decode cX7_tell 123 = .ok (.iinc 6 1, 3) := by decide +kernel
theorem dX7_tell_126 : decode cX7_tell 126 = .ok (.goto (-26), 3) := by decide +kernel
theorem dX7_tell_129 : decode cX7_tell 129 = .ok (.aload_n 0, 1) := by decide +kernel
theorem dX7_tell_130 : decode cX7_tell 130 = .ok (.aload_n 0, 1) := by decide +kernel
theorem dX7_tell_131 : decode cX7_tell 131 = .ok (.getfield 38, 3) := by decide +kernel
theorem dX7_tell_134 : decode cX7_tell 134 = .ok (.iload_n 1, 1) := by decide +kernel
theorem dX7_tell_135 : decode cX7_tell 135 = .ok (.iaload, 1) := by decide +kernel
theorem dX7_tell_136 : decode cX7_tell 136 = .ok (.invokevirtual 169, 3) := by decide +kernel
theorem dX7_tell_139 : decode cX7_tell 139 = .ok (.aload_n 0, 1) := by decide +kernel
theorem dX7_tell_140 : decode cX7_tell 140 = .ok (.iconst 0, 1) := by decide +kernel
theorem dX7_tell_141 : decode cX7_tell 141 = .ok (.invokevirtual 169, 3) := by decide +kernel
theorem dX7_tell_144 : decode cX7_tell 144 = .ok (.aload_n 0, 1) := by decide +kernel
theorem dX7_tell_145 : decode cX7_tell 145 = .ok (.iconst 0, 1) := by decide +kernel
theorem dX7_tell_146 : decode cX7_tell 146 = .ok (.invokevirtual 169, 3) := by decide +kernel
theorem dX7_tell_149 : decode cX7_tell 149 = .ok (.aload_n 0, 1) := by decide +kernel
theorem dX7_tell_150 : decode cX7_tell 150 = .ok (.iconst 0, 1) := by decide +kernel
theorem dX7_tell_151 : decode cX7_tell 151 = .ok (.invokevirtual 169, 3) := by decide +kernel
theorem dX7_tell_154 : decode cX7_tell 154 = .ok (.iconst 0, 1) := by decide +kernel
theorem dX7_tell_155 : decode cX7_tell 155 = .ok (.istore 6, 2) := by decide +kernel
theorem dX7_tell_157 : decode cX7_tell 157 = .ok (.iload 6, 2) := by decide +kernel
theorem dX7_tell_159 : decode cX7_tell 159 = .ok (.iload 4, 2) := by decide +kernel
theorem dX7_tell_161 : decode cX7_tell 161 = .ok (.if_icmp .ge 29, 3) := by decide +kernel
theorem dX7_tell_164 : decode cX7_tell 164 = .ok (.aload_n 0, 1) := by decide +kernel
theorem dX7_tell_165 : decode cX7_tell 165 = .ok (.aload_n 0, 1) := by decide +kernel
theorem dX7_tell_166 : decode cX7_tell 166 = .ok (.getfield 44, 3) := by decide +kernel
theorem dX7_tell_169 : decode cX7_tell 169 = .ok (.bipush 60, 2) := by decide +kernel
theorem dX7_tell_171 : decode cX7_tell 171 = .ok (.iconst 3, 1) := by decide +kernel
theorem dX7_tell_172 : decode cX7_tell 172 = .ok (.iload_n 1, 1) := by decide +kernel
theorem dX7_tell_173 : decode cX7_tell 173 = .ok (.imul, 1) := by decide +kernel
theorem dX7_tell_174 : decode cX7_tell 174 = .ok (.iload_n 2, 1) := by decide +kernel
theorem dX7_tell_175 : decode cX7_tell 175 = .ok (.iadd, 1) := by decide +kernel
theorem dX7_tell_176 : decode cX7_tell 176 = .ok (.imul, 1) := by decide +kernel
theorem dX7_tell_177 : decode cX7_tell 177 = .ok (.iload 6, 2) := by decide +kernel
theorem dX7_tell_179 : decode cX7_tell 179 = .ok (.iadd, 1) := by decide +kernel
theorem dX7_tell_180 : decode cX7_tell 180 = .ok (.iaload, 1) := by decide +kernel
theorem dX7_tell_181 : decode cX7_tell 181 = .ok (.invokevirtual 169, 3) := by decide +kernel
theorem dX7_tell_184 : decode cX7_tell 184 = .ok (.iinc 6 1, 3) := by decide +kernel
theorem dX7_tell_187 : decode cX7_tell 187 = .ok (.goto (-30), 3) := by decide +kernel
theorem dX7_tell_190 : decode cX7_tell 190 = .ok (.iload_n 3, 1) := by decide +kernel
theorem dX7_tell_191 : decode cX7_tell 191 = .ok (.ifCond .eq 9, 3) := by decide +kernel
theorem dX7_tell_194 : decode cX7_tell 194 = .ok (.aload_n 0, 1) := by decide +kernel
theorem dX7_tell_195 : decode cX7_tell 195 = .ok (.bipush 31, 2) := by decide +kernel
theorem dX7_tell_197 : decode cX7_tell 197 = .ok (.invokevirtual 169, 3) := by decide +kernel
theorem dX7_tell_200 : decode cX7_tell 200 = .ok (.iconst 0, 1) := by decide +kernel
theorem dX7_tell_201 : decode cX7_tell 201 = .ok (.istore 6, 2) := by decide +kernel
theorem dX7_tell_203 : decode cX7_tell 203 = .ok (.iconst 4, 1) := by decide +kernel
theorem dX7_tell_204 : decode cX7_tell 204 = .ok (.istore 7, 2) := by decide +kernel
theorem dX7_tell_206 : decode cX7_tell 206 = .ok (.iload 7, 2) := by decide +kernel
theorem dX7_tell_208 : decode cX7_tell 208 = .ok (.aload_n 0, 1) := by decide +kernel
theorem dX7_tell_209 : decode cX7_tell 209 = .ok (.getfield 135, 3) := by decide +kernel
theorem dX7_tell_212 : decode cX7_tell 212 = .ok (.if_icmp .ge 21, 3) := by decide +kernel
theorem dX7_tell_215 : decode cX7_tell 215 = .ok (.iload 6, 2) := by decide +kernel
theorem dX7_tell_217 : decode cX7_tell 217 = .ok (.aload_n 0, 1) := by decide +kernel
theorem dX7_tell_218 : decode cX7_tell 218 = .ok (.getfield 16, 3) := by decide +kernel
theorem dX7_tell_221 : decode cX7_tell 221 = .ok (.iload 7, 2) := by decide +kernel
theorem dX7_tell_223 : decode cX7_tell 223 = .ok (.iaload, 1) := by decide +kernel
theorem dX7_tell_224 : decode cX7_tell 224 = .ok (.iadd, 1) := by decide +kernel
theorem dX7_tell_225 : decode cX7_tell 225 = .ok (.istore 6, 2) := by decide +kernel
theorem dX7_tell_227 : decode cX7_tell 227 = .ok (.iinc 7 1, 3) := by decide +kernel
theorem dX7_tell_230 : decode cX7_tell 230 = .ok (.goto (-24), 3) := by decide +kernel
theorem dX7_tell_233 : decode cX7_tell 233 = .ok (.aload_n 0, 1) := by decide +kernel
theorem dX7_tell_234 : decode cX7_tell 234 = .ok (.iload 6, 2) := by decide +kernel
theorem dX7_tell_236 : decode cX7_tell 236 = .ok (.sipush 255, 3) := by decide +kernel
theorem dX7_tell_239 : decode cX7_tell 239 = .ok (.iand, 1) := by decide +kernel
theorem dX7_tell_240 : decode cX7_tell 240 = .ok (.invokevirtual 169, 3) := by decide +kernel
theorem dX7_tell_243 : decode cX7_tell 243 = .ok (.aload_n 0, 1) := by decide +kernel
theorem dX7_tell_244 : decode cX7_tell 244 = .ok (.bipush 22, 2) := by decide +kernel
theorem dX7_tell_246 : decode cX7_tell 246 = .ok (.invokevirtual 169, 3) := by decide +kernel
theorem dX7_tell_249 : decode cX7_tell 249 = .ok (.return_, 1) := by decide +kernel
theorem dX7_longFrame_0 : decode cX7_longFrame 0 = .ok (.aload_n 0, 1) := by decide +kernel
theorem dX7_longFrame_1 : decode cX7_longFrame 1 = .ok (.getfield 13, 3) := by decide +kernel
theorem dX7_longFrame_4 : decode cX7_longFrame 4 = .ok (.bipush 6, 2) := by decide +kernel
theorem dX7_longFrame_6 : decode cX7_longFrame 6 = .ok (.iaload, 1) := by decide +kernel
theorem dX7_longFrame_7 : decode cX7_longFrame 7 = .ok (.bipush 80, 2) := by decide +kernel
theorem dX7_longFrame_9 : decode cX7_longFrame 9 = .ok (.if_icmp .ne 25, 3) := by decide +kernel
theorem dX7_longFrame_12 : decode cX7_longFrame 12 = .ok (.aload_n 0, 1) := by decide +kernel
theorem dX7_longFrame_13 : decode cX7_longFrame 13 = .ok (.getfield 13, 3) := by decide +kernel
theorem dX7_longFrame_16 : decode cX7_longFrame 16 = .ok (.iconst 1, 1) := by decide +kernel
theorem dX7_longFrame_17 : decode cX7_longFrame 17 = .ok (.iaload, 1) := by decide +kernel
theorem dX7_longFrame_18 : decode cX7_longFrame 18 = .ok (.iconst 3, 1) := by decide +kernel
theorem dX7_longFrame_19 : decode cX7_longFrame 19 = .ok (.if_icmp .ne 15, 3) := by decide +kernel
theorem dX7_longFrame_22 : decode cX7_longFrame 22 = .ok (.aload_n 0, 1) := by decide +kernel
theorem dX7_longFrame_23 : decode cX7_longFrame 23 = .ok (.iload_n 1, 1) := by decide +kernel
theorem dX7_longFrame_24 : decode cX7_longFrame 24 = .ok (.invokevirtual 162, 3) := by decide +kernel
theorem dX7_longFrame_27 : decode cX7_longFrame 27 = .ok (.aload_n 0, 1) := by decide +kernel
theorem dX7_longFrame_28 : decode cX7_longFrame 28 = .ok (.invokevirtual 159, 3) := by decide +kernel
theorem dX7_longFrame_31 : decode cX7_longFrame 31 = .ok (.goto 79, 3) := by decide +kernel
theorem dX7_longFrame_34 : decode cX7_longFrame 34 = .ok (.aload_n 0, 1) := by decide +kernel
theorem dX7_longFrame_35 : decode cX7_longFrame 35 = .ok (.getfield 13, 3) := by decide +kernel
theorem dX7_longFrame_38 : decode cX7_longFrame 38 = .ok (.bipush 6, 2) := by decide +kernel
theorem dX7_longFrame_40 : decode cX7_longFrame 40 = .ok (.iaload, 1) := by decide +kernel
theorem dX7_longFrame_41 : decode cX7_longFrame 41 = .ok (.bipush 81, 2) := by decide +kernel
theorem dX7_longFrame_43 : decode cX7_longFrame 43 = .ok (.if_icmp .ne 67, 3) := by decide +kernel
theorem dX7_longFrame_46 : decode cX7_longFrame 46 = .ok (.aload_n 0, 1) := by decide +kernel
theorem dX7_longFrame_47 : decode cX7_longFrame 47 = .ok (.getfield 13, 3) := by decide +kernel
theorem dX7_longFrame_50 : decode cX7_longFrame 50 = .ok (.iconst 1, 1) := by decide +kernel
theorem dX7_longFrame_51 : decode cX7_longFrame 51 = .ok (.iaload, 1) := by decide +kernel
theorem dX7_longFrame_52 : decode cX7_longFrame 52 = .ok (.bipush 6, 2) := by decide +kernel
theorem dX7_longFrame_54 : decode cX7_longFrame 54 = .ok (.if_icmp .ne 56, 3) := by decide +kernel
theorem dX7_longFrame_57 : decode cX7_longFrame 57 = .ok (.aload_n 0, 1) := by decide +kernel
theorem dX7_longFrame_58 : decode cX7_longFrame 58 = .ok (.getfield 13, 3) := by decide +kernel
theorem dX7_longFrame_61 : decode cX7_longFrame 61 = .ok (.bipush 7, 2) := by decide +kernel
theorem dX7_longFrame_63 : decode cX7_longFrame 63 = .ok (.iaload, 1) := by decide +kernel
theorem dX7_longFrame_64 : decode cX7_longFrame 64 = .ok (.iconst 1, 1) := by decide +kernel
theorem dX7_longFrame_65 : decode cX7_longFrame 65 = .ok (.if_icmp .ne 45, 3) := by decide +kernel
theorem dX7_longFrame_68 : decode cX7_longFrame 68 = .ok (.aload_n 0, 1) := by decide +kernel
theorem dX7_longFrame_69 : decode cX7_longFrame 69 = .ok (.getfield 13, 3) := by decide +kernel
theorem dX7_longFrame_72 : decode cX7_longFrame 72 = .ok (.bipush 8, 2) := by decide +kernel
theorem dX7_longFrame_74 : decode cX7_longFrame 74 = .ok (.iaload, 1) := by decide +kernel
theorem dX7_longFrame_75 : decode cX7_longFrame 75 = .ok (.bipush 122, 2) := by decide +kernel
theorem dX7_longFrame_77 : decode cX7_longFrame 77 = .ok (.if_icmp .ne 33, 3) := by decide +kernel
theorem dX7_longFrame_80 : decode cX7_longFrame 80 = .ok (.aload_n 0, 1) := by decide +kernel
theorem dX7_longFrame_81 : decode cX7_longFrame 81 = .ok (.getfield 13, 3) := by decide +kernel
theorem dX7_longFrame_84 : decode cX7_longFrame 84 = .ok (.bipush 9, 2) := by decide +kernel
theorem dX7_longFrame_86 : decode cX7_longFrame 86 = .ok (.iaload, 1) := by decide +kernel
theorem dX7_longFrame_87 : decode cX7_longFrame 87 = .ok (.sipush 250, 3) := by decide +kernel
theorem dX7_longFrame_90 : decode cX7_longFrame 90 = .ok (.if_icmp .gt 20, 3) := by decide +kernel
theorem dX7_longFrame_93 : decode cX7_longFrame 93 = .ok (.aload_n 0, 1) := by decide +kernel
theorem dX7_longFrame_94 : decode cX7_longFrame 94 = .ok (.getfield 23, 3) := by decide +kernel
theorem dX7_longFrame_97 : decode cX7_longFrame 97 = .ok (.iload_n 1, 1) := by decide +kernel
theorem dX7_longFrame_98 : decode cX7_longFrame 98 = .ok (.aload_n 0, 1) := by decide +kernel
theorem dX7_longFrame_99 : decode cX7_longFrame 99 = .ok (.getfield 13, 3) := by decide +kernel
theorem dX7_longFrame_102 : decode cX7_longFrame 102 = .ok (.bipush 9, 2) := by decide +kernel
theorem dX7_longFrame_104 : decode cX7_longFrame 104 = .ok (.iaload, 1) := by decide +kernel
theorem dX7_longFrame_105 : decode cX7_longFrame 105 = .ok (.iastore, 1) := by decide +kernel
theorem dX7_longFrame_106 : decode cX7_longFrame 106 = .ok (.aload_n 0, 1) := by decide +kernel
theorem dX7_longFrame_107 : decode cX7_longFrame 107 = .ok (.invokevirtual 159, 3) := by decide +kernel
theorem dX7_longFrame_110 : decode cX7_longFrame 110 = .ok (.return_, 1) := by decide +kernel
theorem dX7_send_0 : decode cX7_send 0 = .ok (.aload_n 0, 1) := by decide +kernel
theorem dX7_send_1 : decode cX7_send 1 = .ok (.iconst 0, 1) := by decide +kernel
theorem dX7_send_2 : decode cX7_send 2 = .ok (.putfield 97, 3) := by decide +kernel
theorem dX7_send_5 : decode cX7_send 5 = .ok (.iconst 0, 1) := by decide +kernel
theorem dX7_send_6 : decode cX7_send 6 = .ok (.istore_n 1, 1) := by decide +kernel
theorem dX7_send_7 : decode cX7_send 7 = .ok (.iload_n 1, 1) := by decide +kernel
theorem dX7_send_8 : decode cX7_send 8 = .ok (.aload_n 0, 1) := by decide +kernel
theorem dX7_send_9 : decode cX7_send 9 = .ok (.getfield 104, 3) := by decide +kernel
theorem dX7_send_12 : decode cX7_send 12 = .ok (.if_icmp .ge 21, 3) := by decide +kernel
theorem dX7_send_15 : decode cX7_send 15 = .ok (.aload_n 0, 1) := by decide +kernel
theorem dX7_send_16 : decode cX7_send 16 = .ok (.getfield 13, 3) := by decide +kernel
theorem dX7_send_19 : decode cX7_send 19 = .ok (.iload_n 1, 1) := by decide +kernel
theorem dX7_send_20 : decode cX7_send 20 = .ok (.aload_n 0, 1) := by decide +kernel
theorem dX7_send_21 : decode cX7_send 21 = .ok (.getfield 7, 3) := by decide +kernel
theorem dX7_send_24 : decode cX7_send 24 = .ok (.iload_n 1, 1) := by decide +kernel
theorem dX7_send_25 : decode cX7_send 25 = .ok (.iaload, 1) := by decide +kernel
theorem dX7_send_26 : decode cX7_send 26 = .ok (.iastore, 1) := by decide +kernel
theorem dX7_send_27 : decode cX7_send 27 = .ok (.iinc 1 1, 3) := by decide +kernel
theorem dX7_send_30 : decode cX7_send 30 = .ok (.goto (-23), 3) := by decide +kernel
theorem dX7_send_33 : decode cX7_send 33 = .ok (.aload_n 0, 1) := by decide +kernel
theorem dX7_send_34 : decode cX7_send 34 = .ok (.aload_n 0, 1) := by decide +kernel
theorem dX7_send_35 : decode cX7_send 35 = .ok (.getfield 104, 3) := by decide +kernel
theorem dX7_send_38 : decode cX7_send 38 = .ok (.putfield 126, 3) := by decide +kernel
theorem dX7_send_41 : decode cX7_send 41 = .ok (.aload_n 0, 1) := by decide +kernel
theorem dX7_send_42 : decode cX7_send 42 = .ok (.invokevirtual 172, 3) := by decide +kernel
theorem dX7_send_45 : decode cX7_send 45 = .ok (.aload_n 0, 1) := by decide +kernel
theorem dX7_send_46 : decode cX7_send 46 = .ok (.iconst 0, 1) := by decide +kernel
theorem dX7_send_47 : decode cX7_send 47 = .ok (.putfield 104, 3) := by decide +kernel
theorem dX7_send_50 : decode cX7_send 50 = .ok (.aload_n 0, 1) := by decide +kernel
theorem dX7_send_51 : decode cX7_send 51 = .ok (.getfield 132, 3) := by decide +kernel
theorem dX7_send_54 : decode cX7_send 54 = .ok (.iconst 1, 1) := by decide +kernel
theorem dX7_send_55 : decode cX7_send 55 = .ok (.if_icmp .eq 17, 3) := by decide +kernel
theorem dX7_send_58 : decode cX7_send 58 = .ok (.aload_n 0, 1) := by decide +kernel
theorem dX7_send_59 : decode cX7_send 59 = .ok (.getfield 132, 3) := by decide +kernel
theorem dX7_send_62 : decode cX7_send 62 = .ok (.ifCond .ne 7, 3) := by decide +kernel
theorem dX7_send_65 : decode cX7_send 65 = .ok (.iconst 0, 1) := by decide +kernel
theorem dX7_send_66 : decode cX7_send 66 = .ok (.goto 5, 3) := by decide +kernel
theorem dX7_send_69 : decode cX7_send 69 = .ok (.bipush (-2), 2) := by decide +kernel
theorem dX7_send_71 : decode cX7_send 71 = .ok (.ireturn, 1) := by decide +kernel
theorem dX7_send_72 : decode cX7_send 72 = .ok (.iconst 0, 1) := by decide +kernel
theorem dX7_send_73 : decode cX7_send 73 = .ok (.istore_n 1, 1) := by decide +kernel
theorem dX7_send_74 : decode cX7_send 74 = .ok (.iload_n 1, 1) := by decide +kernel
theorem dX7_send_75 : decode cX7_send 75 = .ok (.aload_n 0, 1) := by decide +kernel
theorem dX7_send_76 : decode cX7_send 76 = .ok (.getfield 135, 3) := by decide +kernel
theorem dX7_send_79 : decode cX7_send 79 = .ok (.if_icmp .ge 21, 3) := by decide +kernel
theorem dX7_send_82 : decode cX7_send 82 = .ok (.aload_n 0, 1) := by decide +kernel
theorem dX7_send_83 : decode cX7_send 83 = .ok (.getfield 7, 3) := by decide +kernel
theorem dX7_send_86 : decode cX7_send 86 = .ok (.iload_n 1, 1) := by decide +kernel
theorem dX7_send_87 : decode cX7_send 87 = .ok (.aload_n 0, 1) := by decide +kernel
theorem dX7_send_88 : decode cX7_send 88 = .ok (.getfield 16, 3) := by decide +kernel
theorem dX7_send_91 : decode cX7_send 91 = .ok (.iload_n 1, 1) := by decide +kernel
theorem dX7_send_92 : decode cX7_send 92 = .ok (.iaload, 1) := by decide +kernel
theorem dX7_send_93 : decode cX7_send 93 = .ok (.iastore, 1) := by decide +kernel
theorem dX7_send_94 : decode cX7_send 94 = .ok (.iinc 1 1, 3) := by decide +kernel
theorem dX7_send_97 : decode cX7_send 97 = .ok (.goto (-23), 3) := by decide +kernel
theorem dX7_send_100 : decode cX7_send 100 = .ok (.aload_n 0, 1) := by decide +kernel
theorem dX7_send_101 : decode cX7_send 101 = .ok (.aload_n 0, 1) := by decide +kernel
theorem dX7_send_102 : decode cX7_send 102 = .ok (.getfield 135, 3) := by decide +kernel
theorem dX7_send_105 : decode cX7_send 105 = .ok (.putfield 104, 3) := by decide +kernel
theorem dX7_send_108 : decode cX7_send 108 = .ok (.aload_n 0, 1) := by decide +kernel
theorem dX7_send_109 : decode cX7_send 109 = .ok (.getfield 104, 3) := by decide +kernel
theorem dX7_send_112 : decode cX7_send 112 = .ok (.ireturn, 1) := by decide +kernel
theorem dX7_putShort_0 : decode cX7_putShort 0 = .ok (.aload_n 0, 1) := by decide +kernel
theorem dX7_putShort_1 : decode cX7_putShort 1 = .ok (.getfield 13, 3) := by decide +kernel
theorem dX7_putShort_4 : decode cX7_putShort 4 = .ok (.iconst 0, 1) := by decide +kernel
theorem dX7_putShort_5 : decode cX7_putShort 5 = .ok (.bipush 16, 2) := by decide +kernel
theorem dX7_putShort_7 : decode cX7_putShort 7 = .ok (.iastore, 1) := by decide +kernel
theorem dX7_putShort_8 : decode cX7_putShort 8 = .ok (.aload_n 0, 1) := by decide +kernel
theorem dX7_putShort_9 : decode cX7_putShort 9 = .ok (.getfield 13, 3) := by decide +kernel
theorem dX7_putShort_12 : decode cX7_putShort 12 = .ok (.iconst 1, 1) := by decide +kernel
theorem dX7_putShort_13 : decode cX7_putShort 13 = .ok (.iload_n 1, 1) := by decide +kernel
theorem dX7_putShort_14 : decode cX7_putShort 14 = .ok (.iastore, 1) := by decide +kernel
theorem dX7_putShort_15 : decode cX7_putShort 15 = .ok (.aload_n 0, 1) := by decide +kernel
theorem dX7_putShort_16 : decode cX7_putShort 16 = .ok (.getfield 13, 3) := by decide +kernel
theorem dX7_putShort_19 : decode cX7_putShort 19 = .ok (.iconst 2, 1) := by decide +kernel
theorem dX7_putShort_20 : decode cX7_putShort 20 = .ok (.sipush 253, 3) := by decide +kernel
theorem dX7_putShort_23 : decode cX7_putShort 23 = .ok (.iastore, 1) := by decide +kernel
theorem dX7_putShort_24 : decode cX7_putShort 24 = .ok (.aload_n 0, 1) := by decide +kernel
theorem dX7_putShort_25 : decode cX7_putShort 25 = .ok (.getfield 13, 3) := by decide +kernel
theorem dX7_putShort_28 : decode cX7_putShort 28 = .ok (.iconst 3, 1) := by decide +kernel
theorem dX7_putShort_29 : decode cX7_putShort 29 = .ok (.iload_n 1, 1) := by decide +kernel
theorem dX7_putShort_30 : decode cX7_putShort 30 = .ok (.sipush 253, 3) := by decide +kernel
theorem dX7_putShort_33 : decode cX7_putShort 33 = .ok (.iadd, 1) := by decide +kernel
theorem dX7_putShort_34 : decode cX7_putShort 34 = .ok (.sipush 255, 3) := by decide +kernel
theorem dX7_putShort_37 : decode cX7_putShort 37 = .ok (.iand, 1) := by decide +kernel
theorem dX7_putShort_38 : decode cX7_putShort 38 = .ok (.iastore, 1) := by decide +kernel
theorem dX7_putShort_39 : decode cX7_putShort 39 = .ok (.aload_n 0, 1) := by decide +kernel
theorem dX7_putShort_40 : decode cX7_putShort 40 = .ok (.getfield 13, 3) := by decide +kernel
theorem dX7_putShort_43 : decode cX7_putShort 43 = .ok (.iconst 4, 1) := by decide +kernel
theorem dX7_putShort_44 : decode cX7_putShort 44 = .ok (.bipush 22, 2) := by decide +kernel
theorem dX7_putShort_46 : decode cX7_putShort 46 = .ok (.iastore, 1) := by decide +kernel
theorem dX7_putShort_47 : decode cX7_putShort 47 = .ok (.aload_n 0, 1) := by decide +kernel
theorem dX7_putShort_48 : decode cX7_putShort 48 = .ok (.iconst 5, 1) := by decide +kernel
theorem dX7_putShort_49 : decode cX7_putShort 49 = .ok (.putfield 126, 3) := by decide +kernel
theorem dX7_putShort_52 : decode cX7_putShort 52 = .ok (.aload_n 0, 1) := by decide +kernel
theorem dX7_putShort_53 : decode cX7_putShort 53 = .ok (.invokevirtual 172, 3) := by decide +kernel
theorem dX7_putShort_56 : decode cX7_putShort 56 = .ok (.return_, 1) := by decide +kernel
theorem dX7_putMask_0 : decode cX7_putMask 0 = .ok (.aload_n 0, 1) := by decide +kernel
theorem dX7_putMask_1 : decode cX7_putMask 1 = .ok (.getfield 13, 3) := by decide +kernel
theorem dX7_putMask_4 : decode cX7_putMask 4 = .ok (.iconst 0, 1) := by decide +kernel
theorem dX7_putMask_5 : decode cX7_putMask 5 = .ok (.bipush 104, 2) := by decide +kernel
theorem dX7_putMask_7 : decode cX7_putMask 7 = .ok (.iastore, 1) := by decide +kernel
theorem dX7_putMask_8 : decode cX7_putMask 8 = .ok (.aload_n 0, 1) := by decide +kernel
theorem dX7_putMask_9 : decode cX7_putMask 9 = .ok (.getfield 13, 3) := by decide +kernel
theorem dX7_putMask_12 : decode cX7_putMask 12 = .ok (.iconst 1, 1) := by decide +kernel
theorem dX7_putMask_13 : decode cX7_putMask 13 = .ok (.bipush 11, 2) := by decide +kernel
theorem dX7_putMask_15 : decode cX7_putMask 15 = .ok (.iastore, 1) := by decide +kernel
theorem dX7_putMask_16 : decode cX7_putMask 16 = .ok (.aload_n 0, 1) := by decide +kernel
theorem dX7_putMask_17 : decode cX7_putMask 17 = .ok (.getfield 13, 3) := by decide +kernel
theorem dX7_putMask_20 : decode cX7_putMask 20 = .ok (.iconst 2, 1) := by decide +kernel
theorem dX7_putMask_21 : decode cX7_putMask 21 = .ok (.bipush 11, 2) := by decide +kernel
theorem dX7_putMask_23 : decode cX7_putMask 23 = .ok (.iastore, 1) := by decide +kernel
theorem dX7_putMask_24 : decode cX7_putMask 24 = .ok (.aload_n 0, 1) := by decide +kernel
theorem dX7_putMask_25 : decode cX7_putMask 25 = .ok (.getfield 13, 3) := by decide +kernel
theorem dX7_putMask_28 : decode cX7_putMask 28 = .ok (.iconst 3, 1) := by decide +kernel
theorem dX7_putMask_29 : decode cX7_putMask 29 = .ok (.bipush 104, 2) := by decide +kernel
theorem dX7_putMask_31 : decode cX7_putMask 31 = .ok (.iastore, 1) := by decide +kernel
theorem dX7_putMask_32 : decode cX7_putMask 32 = .ok (.aload_n 0, 1) := by decide +kernel
theorem dX7_putMask_33 : decode cX7_putMask 33 = .ok (.getfield 13, 3) := by decide +kernel
theorem dX7_putMask_36 : decode cX7_putMask 36 = .ok (.iconst 4, 1) := by decide +kernel
theorem dX7_putMask_37 : decode cX7_putMask 37 = .ok (.bipush 83, 2) := by decide +kernel
theorem dX7_putMask_39 : decode cX7_putMask 39 = .ok (.iastore, 1) := by decide +kernel
theorem dX7_putMask_40 : decode cX7_putMask 40 = .ok (.aload_n 0, 1) := by decide +kernel
theorem dX7_putMask_41 : decode cX7_putMask 41 = .ok (.getfield 13, 3) := by decide +kernel
theorem dX7_putMask_44 : decode cX7_putMask 44 = .ok (.iconst 5, 1) := by decide +kernel
theorem dX7_putMask_45 : decode cX7_putMask 45 = .ok (.sipush 253, 3) := by decide +kernel
theorem dX7_putMask_48 : decode cX7_putMask 48 = .ok (.iastore, 1) := by decide +kernel
theorem dX7_putMask_49 : decode cX7_putMask 49 = .ok (.aload_n 0, 1) := by decide +kernel
theorem dX7_putMask_50 : decode cX7_putMask 50 = .ok (.getfield 13, 3) := by decide +kernel
theorem dX7_putMask_53 : decode cX7_putMask 53 = .ok (.bipush 6, 2) := by decide +kernel
theorem dX7_putMask_55 : decode cX7_putMask 55 = .ok (.bipush 82, 2) := by decide +kernel
theorem dX7_putMask_57 : decode cX7_putMask 57 = .ok (.iastore, 1) := by decide +kernel
theorem dX7_putMask_58 : decode cX7_putMask 58 = .ok (.sipush 418, 3) := by decide +kernel
theorem dX7_putMask_61 : decode cX7_putMask 61 = .ok (.istore_n 1, 1) := by decide +kernel
theorem dX7_putMask_62 : decode cX7_putMask 62 = .ok (.iconst 0, 1) := by decide +kernel
theorem dX7_putMask_63 : decode cX7_putMask 63 = .ok (.istore_n 2, 1) := by decide +kernel
theorem dX7_putMask_64 : decode cX7_putMask 64 = .ok (.iload_n 2, 1) := by decide +kernel
theorem dX7_putMask_65 : decode cX7_putMask 65 = .ok (.bipush 8, 2) := by decide +kernel
theorem dX7_putMask_67 : decode cX7_putMask 67 = .ok (.if_icmp .ge 33, 3) := by decide +kernel
theorem dX7_putMask_70 : decode cX7_putMask 70 = .ok (.aload_n 0, 1) := by decide +kernel
theorem dX7_putMask_71 : decode cX7_putMask 71 = .ok (.getfield 13, 3) := by decide +kernel
theorem dX7_putMask_74 : decode cX7_putMask 74 = .ok (.bipush 7, 2) := by decide +kernel
theorem dX7_putMask_76 : decode cX7_putMask 76 = .ok (.iload_n 2, 1) := by decide +kernel
theorem dX7_putMask_77 : decode cX7_putMask 77 = .ok (.iadd, 1) := by decide +kernel
theorem dX7_putMask_78 : decode cX7_putMask 78 = .ok (.aload_n 0, 1) := by decide +kernel
theorem dX7_putMask_79 : decode cX7_putMask 79 = .ok (.getfield 47, 3) := by decide +kernel
theorem dX7_putMask_82 : decode cX7_putMask 82 = .ok (.iload_n 2, 1) := by decide +kernel
theorem dX7_putMask_83 : decode cX7_putMask 83 = .ok (.iaload, 1) := by decide +kernel
theorem dX7_putMask_84 : decode cX7_putMask 84 = .ok (.iastore, 1) := by decide +kernel
theorem dX7_putMask_85 : decode cX7_putMask 85 = .ok (.iload_n 1, 1) := by decide +kernel
theorem dX7_putMask_86 : decode cX7_putMask 86 = .ok (.aload_n 0, 1) := by decide +kernel
theorem dX7_putMask_87 : decode cX7_putMask 87 = .ok (.getfield 47, 3) := by decide +kernel
theorem dX7_putMask_90 : decode cX7_putMask 90 = .ok (.iload_n 2, 1) := by decide +kernel
theorem dX7_putMask_91 : decode cX7_putMask 91 = .ok (.iaload, 1) := by decide +kernel
theorem dX7_putMask_92 : decode cX7_putMask 92 = .ok (.iadd, 1) := by decide +kernel
theorem dX7_putMask_93 : decode cX7_putMask 93 = .ok (.istore_n 1, 1) := by decide +kernel
theorem dX7_putMask_94 : decode cX7_putMask 94 = .ok (.iinc 2 1, 3) := by decide +kernel
theorem dX7_putMask_97 : decode cX7_putMask 97 = .ok (.goto (-33), 3) := by decide +kernel
theorem dX7_putMask_100 : decode cX7_putMask 100 = .ok (.aload_n 0, 1) := by decide +kernel
theorem dX7_putMask_101 : decode cX7_putMask 101 = .ok (.getfield 13, 3) := by decide +kernel
theorem dX7_putMask_104 : decode cX7_putMask 104 = .ok (.bipush 15, 2) := by decide +kernel
theorem dX7_putMask_106 : decode cX7_putMask 106 = .ok (.iload_n 1, 1) := by decide +kernel
theorem dX7_putMask_107 : decode cX7_putMask 107 = .ok (.sipush 255, 3) := by decide +kernel
theorem dX7_putMask_110 : decode cX7_putMask 110 = .ok (.iand, 1) := by decide +kernel
theorem dX7_putMask_111 : decode cX7_putMask 111 = .ok (.iastore, 1) := by decide +kernel
theorem dX7_putMask_112 : decode cX7_putMask 112 = .ok (.aload_n 0, 1) := by decide +kernel
theorem dX7_putMask_113 : decode cX7_putMask 113 = .ok (.getfield 13, 3) := by decide +kernel
theorem dX7_putMask_116 : decode cX7_putMask 116 = .ok (.bipush 16, 2) := by decide +kernel
theorem dX7_putMask_118 : decode cX7_putMask 118 = .ok (.bipush 22, 2) := by decide +kernel
theorem dX7_putMask_120 : decode cX7_putMask 120 = .ok (.iastore, 1) := by decide +kernel
theorem dX7_putMask_121 : decode cX7_putMask 121 = .ok (.aload_n 0, 1) := by decide +kernel
theorem dX7_putMask_122 : decode cX7_putMask 122 = .ok (.bipush 17, 2) := by decide +kernel
theorem dX7_putMask_124 : decode cX7_putMask 124 = .ok (.putfield 126, 3) := by decide +kernel
theorem dX7_putMask_127 : decode cX7_putMask 127 = .ok (.aload_n 0, 1) := by decide +kernel
theorem dX7_putMask_128 : decode cX7_putMask 128 = .ok (.invokevirtual 172, 3) := by decide +kernel
theorem dX7_putMask_131 : decode cX7_putMask 131 = .ok (.return_, 1) := by decide +kernel
theorem dX7_setPart_0 : decode cX7_setPart 0 = .ok (.iload_n 1, 1) := by decide +kernel
theorem dX7_setPart_1 : decode cX7_setPart 1 = .ok (.bipush 7, 2) := by decide +kernel
theorem dX7_setPart_3 : decode cX7_setPart 3 = .ok (.if_icmp .le 23, 3) := by decide +kernel
theorem dX7_setPart_6 : decode cX7_setPart 6 = .ok (.aload_n 0, 1) := by decide +kernel
theorem dX7_setPart_7 : decode cX7_setPart 7 = .ok (.getfield 47, 3) := by decide +kernel
theorem dX7_setPart_10 : decode cX7_setPart 10 = .ok (.iload_n 1, 1) := by decide +kernel
theorem dX7_setPart_11 : decode cX7_setPart 11 = .ok (.iconst 4, 1) := by decide +kernel
theorem dX7_setPart_12 : decode cX7_setPart 12 = .ok (.isub, 1) := by decide +kernel
theorem dX7_setPart_13 : decode cX7_setPart 13 = .ok (.iload_n 2, 1) := by decide +kernel
theorem dX7_setPart_14 : decode cX7_setPart 14 = .ok (.ifCond .ge 9, 3) := by decide +kernel
theorem dX7_setPart_17 : decode cX7_setPart 17 = .ok (.sipush 255, 3) := by decide +kernel
theorem dX7_setPart_20 : decode cX7_setPart 20 = .ok (.goto 4, 3) := by decide +kernel
theorem dX7_setPart_23 : decode cX7_setPart 23 = .ok (.iload_n 2, 1) := by decide +kernel
theorem dX7_setPart_24 : decode cX7_setPart 24 = .ok (.iastore, 1) := by decide +kernel
theorem dX7_setPart_25 : decode cX7_setPart 25 = .ok (.return_, 1) := by decide +kernel
theorem dX7_setPart_26 : decode cX7_setPart 26 = .ok (.iconst 3, 1) := by decide +kernel
theorem dX7_setPart_27 : decode cX7_setPart 27 = .ok (.iload_n 1, 1) := by decide +kernel
theorem dX7_setPart_28 : decode cX7_setPart 28 = .ok (.iconst 2, 1) := by decide +kernel
theorem dX7_setPart_29 : decode cX7_setPart 29 = .ok (.idiv, 1) := by decide +kernel
theorem dX7_setPart_30 : decode cX7_setPart 30 = .ok (.isub, 1) := by decide +kernel
theorem dX7_setPart_31 : decode cX7_setPart 31 = .ok (.istore_n 3, 1) := by decide +kernel
theorem dX7_setPart_32 : decode cX7_setPart 32 = .ok (.iload_n 2, 1) := by decide +kernel
theorem dX7_setPart_33 : decode cX7_setPart 33 = .ok (.ifCond .ge 8, 3) := by decide +kernel
theorem dX7_setPart_36 : decode cX7_setPart 36 = .ok (.bipush 15, 2) := by decide +kernel
theorem dX7_setPart_38 : decode cX7_setPart 38 = .ok (.goto 4, 3) := by decide +kernel
theorem dX7_setPart_41 : decode cX7_setPart 41 = .ok (.iload_n 2, 1) := by decide +kernel
theorem dX7_setPart_42 : decode cX7_setPart 42 = .ok (.istore 4, 2) := by decide +kernel
theorem dX7_setPart_44 : decode cX7_setPart 44 = .ok (.aload_n 0, 1) := by decide +kernel
theorem dX7_setPart_45 : decode cX7_setPart 45 = .ok (.getfield 47, 3) := by decide +kernel
theorem dX7_setPart_48 : decode cX7_setPart 48 = .ok (.iload_n 3, 1) := by decide +kernel
theorem dX7_setPart_49 : decode cX7_setPart 49 = .ok (.iload_n 1, 1) := by decide +kernel
theorem dX7_setPart_50 : decode cX7_setPart 50 = .ok (.iconst 2, 1) := by decide +kernel
theorem dX7_setPart_51 : decode cX7_setPart 51 = .ok (.irem, 1) := by decide +kernel
theorem dX7_setPart_52 : decode cX7_setPart 52 = .ok (.ifCond .ne 20, 3) := by decide +kernel
theorem dX7_setPart_55 : decode cX7_setPart 55 = .ok (.aload_n 0, 1) := by decide +kernel
theorem dX7_setPart_56 : decode cX7_setPart 56 = .ok (.getfield 47, 3) := by decide +kernel
theorem dX7_setPart_59 : decode cX7_setPart 59 = .ok (.iload_n 3, 1) := by decide +kernel
theorem dX7_setPart_60 : decode cX7_setPart 60 = .ok (.iaload, 1) := by decide +kernel
theorem dX7_setPart_61 : decode cX7_setPart 61 = .ok (.bipush 15, 2) := by decide +kernel
theorem dX7_setPart_63 : decode cX7_setPart 63 = .ok (.iand, 1) := by decide +kernel
theorem dX7_setPart_64 : decode cX7_setPart 64 = .ok (.iload 4, 2) := by decide +kernel
theorem dX7_setPart_66 : decode cX7_setPart 66 = .ok (.iconst 4, 1) := by decide +kernel
theorem dX7_setPart_67 : decode cX7_setPart 67 = .ok (.ishl, 1) := by decide +kernel
theorem dX7_setPart_68 : decode cX7_setPart 68 = .ok (.ior, 1) := by decide +kernel
theorem dX7_setPart_69 : decode cX7_setPart 69 = .ok (.goto 16, 3) := by decide +kernel
theorem dX7_setPart_72 : decode cX7_setPart 72 = .ok (.aload_n 0, 1) := by decide +kernel
theorem dX7_setPart_73 : decode cX7_setPart 73 = .ok (.getfield 47, 3) := by decide +kernel
theorem dX7_setPart_76 : decode cX7_setPart 76 = .ok (.iload_n 3, 1) := by decide +kernel
theorem dX7_setPart_77 : decode cX7_setPart 77 = .ok (.iaload, 1) := by decide +kernel
theorem dX7_setPart_78 : decode cX7_setPart 78 = .ok (.sipush 240, 3) := by decide +kernel
theorem dX7_setPart_81 : decode cX7_setPart 81 = .ok (.iand, 1) := by decide +kernel
theorem dX7_setPart_82 : decode cX7_setPart 82 = .ok (.iload 4, 2) := by decide +kernel
theorem dX7_setPart_84 : decode cX7_setPart 84 = .ok (.ior, 1) := by decide +kernel
theorem dX7_setPart_85 : decode cX7_setPart 85 = .ok (.iastore, 1) := by decide +kernel
theorem dX7_setPart_86 : decode cX7_setPart 86 = .ok (.return_, 1) := by decide +kernel
theorem dX7_search_0 : decode cX7_search 0 = .ok (.aload_n 0, 1) := by decide +kernel
theorem dX7_search_1 : decode cX7_search 1 = .ok (.iconst 0, 1) := by decide +kernel
theorem dX7_search_2 : decode cX7_search 2 = .ok (.putfield 97, 3) := by decide +kernel
theorem dX7_search_5 : decode cX7_search 5 = .ok (.aload_n 0, 1) := by decide +kernel
theorem dX7_search_6 : decode cX7_search 6 = .ok (.iconst 0, 1) := by decide +kernel
theorem dX7_search_7 : decode cX7_search 7 = .ok (.putfield 175, 3) := by decide +kernel
theorem dX7_search_10 : decode cX7_search 10 = .ok (.iconst 0, 1) := by decide +kernel
theorem dX7_search_11 : decode cX7_search 11 = .ok (.istore_n 1, 1) := by decide +kernel
theorem dX7_search_12 : decode cX7_search 12 = .ok (.iload_n 1, 1) := by decide +kernel
theorem dX7_search_13 : decode cX7_search 13 = .ok (.bipush 8, 2) := by decide +kernel
theorem dX7_search_15 : decode cX7_search 15 = .ok (.if_icmp .ge 18, 3) := by decide +kernel
theorem dX7_search_18 : decode cX7_search 18 = .ok (.aload_n 0, 1) := by decide +kernel
theorem dX7_search_19 : decode cX7_search 19 = .ok (.getfield 47, 3) := by decide +kernel
theorem dX7_search_22 : decode cX7_search 22 = .ok (.iload_n 1, 1) := by decide +kernel
theorem dX7_search_23 : decode cX7_search 23 = .ok (.sipush 255, 3) := by decide +kernel
theorem dX7_search_26 : decode cX7_search 26 = .ok (.iastore, 1) := by decide +kernel
theorem dX7_search_27 : decode cX7_search 27 = .ok (.iinc 1 1, 3) := by decide +kernel
theorem dX7_search_30 : decode cX7_search 30 = .ok (.goto (-18), 3) := by decide +kernel
theorem dX7_search_33 : decode cX7_search 33 = .ok (.iconst 0, 1) := by decide +kernel
theorem dX7_search_34 : decode cX7_search 34 = .ok (.istore_n 1, 1) := by decide +kernel
theorem dX7_search_35 : decode cX7_search 35 = .ok (.iconst 1, 1) := by decide +kernel
theorem dX7_search_36 : decode cX7_search 36 = .ok (.istore_n 2, 1) := by decide +kernel
theorem dX7_search_37 : decode cX7_search 37 = .ok (.iload_n 2, 1) := by decide +kernel
theorem dX7_search_38 : decode cX7_search 38 = .ok (.ifCond .eq 132, 3) := by decide +kernel
theorem dX7_search_41 : decode cX7_search 41 = .ok (.aload_n 0, 1) := by decide +kernel
theorem dX7_search_42 : decode cX7_search 42 = .ok (.invokevirtual 178, 3) := by decide +kernel
theorem dX7_search_45 : decode cX7_search 45 = .ok (.aload_n 0, 1) := by decide +kernel
theorem dX7_search_46 : decode cX7_search 46 = .ok (.getfield 132, 3) := by decide +kernel
theorem dX7_search_49 : decode cX7_search 49 = .ok (.iconst 1, 1) := by decide +kernel
theorem dX7_search_50 : decode cX7_search 50 = .ok (.if_icmp .le 22, 3) := by decide +kernel
theorem dX7_search_53 : decode cX7_search 53 = .ok (.aload_n 0, 1) := by decide +kernel
theorem dX7_search_54 : decode cX7_search 54 = .ok (.getfield 53, 3) := by decide +kernel
theorem dX7_search_57 : decode cX7_search 57 = .ok (.iload_n 1, 1) := by decide +kernel
theorem dX7_search_58 : decode cX7_search 58 = .ok (.iconst 0, 1) := by decide +kernel
theorem dX7_search_59 : decode cX7_search 59 = .ok (.iastore, 1) := by decide +kernel
theorem dX7_search_60 : decode cX7_search 60 = .ok (.aload_n 0, 1) := by decide +kernel
theorem dX7_search_61 : decode cX7_search 61 = .ok (.iload_n 1, 1) := by decide +kernel
theorem dX7_search_62 : decode cX7_search 62 = .ok (.iconst 0, 1) := by decide +kernel
theorem dX7_search_63 : decode cX7_search 63 = .ok (.invokevirtual 181, 3) := by decide +kernel
theorem dX7_search_66 : decode cX7_search 66 = .ok (.iinc 1 1, 3) := by decide +kernel
theorem dX7_search_69 : decode cX7_search 69 = .ok (.goto (-32), 3) := by decide +kernel
theorem dX7_search_72 : decode cX7_search 72 = .ok (.aload_n 0, 1) := by decide +kernel
theorem dX7_search_73 : decode cX7_search 73 = .ok (.getfield 132, 3) := by decide +kernel
theorem dX7_search_76 : decode cX7_search 76 = .ok (.iconst 1, 1) := by decide +kernel
theorem dX7_search_77 : decode cX7_search 77 = .ok (.if_icmp .ne 7, 3) := by decide +kernel
theorem dX7_search_80 : decode cX7_search 80 = .ok (.aload_n 0, 1) := by decide +kernel
theorem dX7_search_81 : decode cX7_search 81 = .ok (.invokevirtual 184, 3) := by decide +kernel
theorem dX7_search_84 : decode cX7_search 84 = .ok (.iconst 0, 1) := by decide +kernel
theorem dX7_search_85 : decode cX7_search 85 = .ok (.istore_n 2, 1) := by decide +kernel
theorem dX7_search_86 : decode cX7_search 86 = .ok (.iload_n 1, 1) := by decide +kernel
theorem dX7_search_87 : decode cX7_search 87 = .ok (.ifCond .le (-50), 3) := by decide +kernel
theorem dX7_search_90 : decode cX7_search 90 = .ok (.iload_n 2, 1) := by decide +kernel
theorem dX7_search_91 : decode cX7_search 91 = .ok (.ifCond .ne (-54), 3) := by decide +kernel
theorem dX7_search_94 : decode cX7_search 94 = .ok (.iinc 1 (-1), 3) := by decide +kernel
theorem dX7_search_97 : decode cX7_search 97 = .ok (.aload_n 0, 1) := by decide +kernel
theorem dX7_search_98 : decode cX7_search 98 = .ok (.getfield 53, 3) := by decide +kernel
theorem dX7_search_101 : decode cX7_search 101 = .ok (.iload_n 1, 1) := by decide +kernel
theorem dX7_search_102 : decode cX7_search 102 = .ok (.dup2, 1) := by decide +kernel
theorem dX7_search_103 : decode cX7_search 103 = .ok (.iaload, 1) := by decide +kernel
theorem dX7_search_104 : decode cX7_search 104 = .ok (.iconst 1, 1) := by decide +kernel
theorem dX7_search_105 : decode cX7_search 105 = .ok (.iadd, 1) := by decide +kernel
theorem dX7_search_106 : decode cX7_search 106 = .ok (.iastore, 1) := by decide +kernel
theorem dX7_search_107 : decode cX7_search 107 = .ok (.aload_n 0, 1) := by decide +kernel
theorem dX7_search_108 : decode cX7_search 108 = .ok (.getfield 53, 3) := by decide +kernel
theorem dX7_search_111 : decode cX7_search 111 = .ok (.iload_n 1, 1) := by decide +kernel
theorem dX7_search_112 : decode cX7_search 112 = .ok (.iaload, 1) := by decide +kernel
theorem dX7_search_113 : decode cX7_search 113 = .ok (.iload_n 1, 1) := by decide +kernel
theorem dX7_search_114 : decode cX7_search 114 = .ok (.bipush 8, 2) := by decide +kernel
theorem dX7_search_116 : decode cX7_search 116 = .ok (.if_icmp .ge 8, 3) := by decide +kernel
theorem dX7_search_119 : decode cX7_search 119 = .ok (.bipush 10, 2) := by decide +kernel
theorem dX7_search_121 : decode cX7_search 121 = .ok (.goto 6, 3) := by decide +kernel
theorem dX7_search_124 : decode cX7_search 124 = .ok (.sipush 255, 3) := by decide +kernel
theorem dX7_search_127 : decode cX7_search 127 = .ok (.if_icmp .ge 7, 3) := by decide +kernel
theorem dX7_search_130 : decode cX7_search 130 = .ok (.iconst 1, 1) := by decide +kernel
theorem dX7_search_131 : decode cX7_search 131 = .ok (.goto 4, 3) := by decide +kernel
theorem dX7_search_134 : decode cX7_search 134 = .ok (.iconst 0, 1) := by decide +kernel
theorem dX7_search_135 : decode cX7_search 135 = .ok (.istore_n 2, 1) := by decide +kernel
theorem dX7_search_136 : decode cX7_search 136 = .ok (.aload_n 0, 1) := by decide +kernel
theorem dX7_search_137 : decode cX7_search 137 = .ok (.iload_n 1, 1) := by decide +kernel
theorem dX7_search_138 : decode cX7_search 138 = .ok (.iload_n 2, 1) := by decide +kernel
theorem dX7_search_139 : decode cX7_search 139 = .ok (.ifCond .eq 12, 3) := by decide +kernel
theorem dX7_search_142 : decode cX7_search 142 = .ok (.aload_n 0, 1) := by decide +kernel
theorem dX7_search_143 : decode cX7_search 143 = .ok (.getfield 53, 3) := by decide +kernel
theorem dX7_search_146 : decode cX7_search 146 = .ok (.iload_n 1, 1) := by decide +kernel
theorem dX7_search_147 : decode cX7_search 147 = .ok (.iaload, 1) := by decide +kernel
theorem dX7_search_148 : decode cX7_search 148 = .ok (.goto 4, 3) := by decide +kernel
theorem dX7_search_151 : decode cX7_search 151 = .ok (.iconst (-1), 1) := by decide +kernel
theorem dX7_search_152 : decode cX7_search 152 = .ok (.invokevirtual 181, 3) := by decide +kernel
theorem dX7_search_155 : decode cX7_search 155 = .ok (.iload_n 1, 1) := by decide +kernel
theorem dX7_search_156 : decode cX7_search 156 = .ok (.iload_n 2, 1) := by decide +kernel
theorem dX7_search_157 : decode cX7_search 157 = .ok (.ifCond .eq 7, 3) := by decide +kernel
theorem dX7_search_160 : decode cX7_search 160 = .ok (.iconst 1, 1) := by decide +kernel
theorem dX7_search_161 : decode cX7_search 161 = .ok (.goto 4, 3) := by decide +kernel
theorem dX7_search_164 : decode cX7_search 164 = .ok (.iconst 0, 1) := by decide +kernel
theorem dX7_search_165 : decode cX7_search 165 = .ok (.iadd, 1) := by decide +kernel
theorem dX7_search_166 : decode cX7_search 166 = .ok (.istore_n 1, 1) := by decide +kernel
theorem dX7_search_167 : decode cX7_search 167 = .ok (.goto (-81), 3) := by decide +kernel
theorem dX7_search_170 : decode cX7_search 170 = .ok (.aload_n 0, 1) := by decide +kernel
theorem dX7_search_171 : decode cX7_search 171 = .ok (.getfield 175, 3) := by decide +kernel
theorem dX7_search_174 : decode cX7_search 174 = .ok (.ireturn, 1) := by decide +kernel
theorem dX7_find_0 : decode cX7_find 0 = .ok (.aload_n 0, 1) := by decide +kernel
theorem dX7_find_1 : decode cX7_find 1 = .ok (.bipush 64, 2) := by decide +kernel
theorem dX7_find_3 : decode cX7_find 3 = .ok (.invokevirtual 187, 3) := by decide +kernel
theorem dX7_find_6 : decode cX7_find 6 = .ok (.aload_n 0, 1) := by decide +kernel
theorem dX7_find_7 : decode cX7_find 7 = .ok (.invokevirtual 178, 3) := by decide +kernel
theorem dX7_find_10 : decode cX7_find 10 = .ok (.aload_n 0, 1) := by decide +kernel
theorem dX7_find_11 : decode cX7_find 11 = .ok (.bipush 91, 2) := by decide +kernel
theorem dX7_find_13 : decode cX7_find 13 = .ok (.invokevirtual 187, 3) := by decide +kernel
theorem dX7_find_16 : decode cX7_find 16 = .ok (.aload_n 0, 1) := by decide +kernel
theorem dX7_find_17 : decode cX7_find 17 = .ok (.getfield 132, 3) := by decide +kernel
theorem dX7_find_20 : decode cX7_find 20 = .ok (.iconst 1, 1) := by decide +kernel
theorem dX7_find_21 : decode cX7_find 21 = .ok (.if_icmp .ne 50, 3) := by decide +kernel
theorem dX7_find_24 : decode cX7_find 24 = .ok (.iconst 0, 1) := by decide +kernel
theorem dX7_find_25 : decode cX7_find 25 = .ok (.istore_n 1, 1) := by decide +kernel
theorem dX7_find_26 : decode cX7_find 26 = .ok (.iload_n 1, 1) := by decide +kernel
theorem dX7_find_27 : decode cX7_find 27 = .ok (.bipush 8, 2) := by decide +kernel
theorem dX7_find_29 : decode cX7_find 29 = .ok (.if_icmp .ge 32, 3) := by decide +kernel
theorem dX7_find_32 : decode cX7_find 32 = .ok (.aload_n 0, 1) := by decide +kernel
theorem dX7_find_33 : decode cX7_find 33 = .ok (.getfield 50, 3) := by decide +kernel
theorem dX7_find_36 : decode cX7_find 36 = .ok (.bipush 8, 2) := by decide +kernel
theorem dX7_find_38 : decode cX7_find 38 = .ok (.aload_n 0, 1) := by decide +kernel
theorem dX7_find_39 : decode cX7_find 39 = .ok (.getfield 175, 3) := by decide +kernel
theorem dX7_find_42 : decode cX7_find 42 = .ok (.imul, 1) := by decide +kernel
theorem dX7_find_43 : decode cX7_find 43 = .ok (.iload_n 1, 1) := by decide +kernel
theorem dX7_find_44 : decode cX7_find 44 = .ok (.iadd, 1) := by decide +kernel
theorem dX7_find_45 : decode cX7_find 45 = .ok (.aload_n 0, 1) := by decide +kernel
theorem dX7_find_46 : decode cX7_find 46 = .ok (.getfield 16, 3) := by decide +kernel
theorem dX7_find_49 : decode cX7_find 49 = .ok (.bipush 7, 2) := by decide +kernel
theorem dX7_find_51 : decode cX7_find 51 = .ok (.iload_n 1, 1) := by decide +kernel
theorem dX7_find_52 : decode cX7_find 52 = .ok (.iadd, 1) := by decide +kernel
theorem dX7_find_53 : decode cX7_find 53 = .ok (.iaload, 1) := by decide +kernel
theorem dX7_find_54 : decode cX7_find 54 = .ok (.iastore, 1) := by decide +kernel
theorem dX7_find_55 : decode cX7_find 55 = .ok (.iinc 1 1, 3) := by decide +kernel
theorem dX7_find_58 : decode cX7_find 58 = .ok (.goto (-32), 3) := by decide +kernel
theorem dX7_find_61 : decode cX7_find 61 = .ok (.aload_n 0, 1) := by decide +kernel
theorem dX7_find_62 : decode cX7_find 62 = .ok (.dup, 1) := by decide +kernel
theorem dX7_find_63 : decode cX7_find 63 = .ok (.getfield 175, 3) := by decide +kernel
theorem dX7_find_66 : decode cX7_find 66 = .ok (.iconst 1, 1) := by decide +kernel
theorem dX7_find_67 : decode cX7_find 67 = .ok (.iadd, 1) := by decide +kernel
theorem dX7_find_68 : decode cX7_find 68 = .ok (.putfield 175, 3) := by decide +kernel
theorem dX7_find_71 : decode cX7_find 71 = .ok (.return_, 1) := by decide +kernel
theorem dX7_found_0 : decode cX7_found 0 = .ok (.aload_n 0, 1) := by decide +kernel
theorem dX7_found_1 : decode cX7_found 1 = .ok (.iload_n 1, 1) := by decide +kernel
theorem dX7_found_2 : decode cX7_found 2 = .ok (.iconst 0, 1) := by decide +kernel
theorem dX7_found_3 : decode cX7_found 3 = .ok (.aload_n 0, 1) := by decide +kernel
theorem dX7_found_4 : decode cX7_found 4 = .ok (.getfield 175, 3) := by decide +kernel
theorem dX7_found_7 : decode cX7_found 7 = .ok (.iconst 1, 1) := by decide +kernel
theorem dX7_found_8 : decode cX7_found 8 = .ok (.isub, 1) := by decide +kernel
theorem dX7_found_9 : decode cX7_found 9 = .ok (.invokestatic 100, 3) := by decide +kernel
theorem dX7_found_12 : decode cX7_found 12 = .ok (.ifCond .eq 17, 3) := by decide +kernel
theorem dX7_found_15 : decode cX7_found 15 = .ok (.iload_n 2, 1) := by decide +kernel
theorem dX7_found_16 : decode cX7_found 16 = .ok (.iconst 0, 1) := by decide +kernel
theorem dX7_found_17 : decode cX7_found 17 = .ok (.bipush 7, 2) := by decide +kernel
theorem dX7_found_19 : decode cX7_found 19 = .ok (.invokestatic 100, 3) := by decide +kernel
theorem dX7_found_22 : decode cX7_found 22 = .ok (.ifCond .eq 7, 3) := by decide +kernel
theorem dX7_found_25 : decode cX7_found 25 = .ok (.iconst 1, 1) := by decide +kernel
theorem dX7_found_26 : decode cX7_found 26 = .ok (.goto 4, 3) := by decide +kernel
theorem dX7_found_29 : decode cX7_found 29 = .ok (.iconst 0, 1) := by decide +kernel
theorem dX7_found_30 : decode cX7_found 30 = .ok (.iconst 1, 1) := by decide +kernel
theorem dX7_found_31 : decode cX7_found 31 = .ok (.invokevirtual 107, 3) := by decide +kernel
theorem dX7_found_34 : decode cX7_found 34 = .ok (.ifCond .eq 7, 3) := by decide +kernel
theorem dX7_found_37 : decode cX7_found 37 = .ok (.iconst 0, 1) := by decide +kernel
theorem dX7_found_38 : decode cX7_found 38 = .ok (.goto 14, 3) := by decide +kernel
theorem dX7_found_41 : decode cX7_found 41 = .ok (.aload_n 0, 1) := by decide +kernel
theorem dX7_found_42 : decode cX7_found 42 = .ok (.getfield 50, 3) := by decide +kernel
theorem dX7_found_45 : decode cX7_found 45 = .ok (.bipush 8, 2) := by decide +kernel
theorem dX7_found_47 : decode cX7_found 47 = .ok (.iload_n 1, 1) := by decide +kernel
theorem dX7_found_48 : decode cX7_found 48 = .ok (.imul, 1) := by decide +kernel
theorem dX7_found_49 : decode cX7_found 49 = .ok (.iload_n 2, 1) := by decide +kernel
theorem dX7_found_50 : decode cX7_found 50 = .ok (.iadd, 1) := by decide +kernel
theorem dX7_found_51 : decode cX7_found 51 = .ok (.iaload, 1) := by decide +kernel
theorem dX7_found_52 : decode cX7_found 52 = .ok (.ireturn, 1) := by decide +kernel
theorem dX7_readOut_0 : decode cX7_readOut 0 = .ok (.aload_n 0, 1) := by decide +kernel
theorem dX7_readOut_1 : decode cX7_readOut 1 = .ok (.iload_n 1, 1) := by decide +kernel
theorem dX7_readOut_2 : decode cX7_readOut 2 = .ok (.iconst 0, 1) := by decide +kernel
theorem dX7_readOut_3 : decode cX7_readOut 3 = .ok (.aload_n 0, 1) := by decide +kernel
theorem dX7_readOut_4 : decode cX7_readOut 4 = .ok (.getfield 175, 3) := by decide +kernel
theorem dX7_readOut_7 : decode cX7_readOut 7 = .ok (.iconst 1, 1) := by decide +kernel
theorem dX7_readOut_8 : decode cX7_readOut 8 = .ok (.isub, 1) := by decide +kernel
theorem dX7_readOut_9 : decode cX7_readOut 9 = .ok (.invokestatic 100, 3) := by decide +kernel
theorem dX7_readOut_12 : decode cX7_readOut 12 = .ok (.iconst 1, 1) := by decide +kernel
theorem dX7_readOut_13 : decode cX7_readOut 13 = .ok (.invokevirtual 107, 3) := by decide +kernel
theorem dX7_readOut_16 : decode cX7_readOut 16 = .ok (.ifCond .eq 5, 3) := by decide +kernel
theorem dX7_readOut_19 : decode cX7_readOut 19 = .ok (.iconst 0, 1) := by decide +kernel
theorem dX7_readOut_20 : decode cX7_readOut 20 = .ok (.ireturn, 1) := by decide +kernel
theorem dX7_readOut_21 : decode cX7_readOut 21 = .ok (.aload_n 0, 1) := by decide +kernel
theorem dX7_readOut_22 : decode cX7_readOut 22 = .ok (.iconst 0, 1) := by decide +kernel
theorem dX7_readOut_23 : decode cX7_readOut 23 = .ok (.putfield 190, 3) := by decide +kernel
theorem dX7_readOut_26 : decode cX7_readOut 26 = .ok (.aload_n 0, 1) := by decide +kernel
theorem dX7_readOut_27 : decode cX7_readOut 27 = .ok (.iconst 0, 1) := by decide +kernel
theorem dX7_readOut_28 : decode cX7_readOut 28 = .ok (.putfield 193, 3) := by decide +kernel
theorem dX7_readOut_31 : decode cX7_readOut 31 = .ok (.aload_n 0, 1) := by decide +kernel
theorem dX7_readOut_32 : decode cX7_readOut 32 = .ok (.iconst (-1), 1) := by decide +kernel
theorem dX7_readOut_33 : decode cX7_readOut 33 = .ok (.putfield 90, 3) := by decide +kernel
theorem dX7_readOut_36 : decode cX7_readOut 36 = .ok (.iconst 0, 1) := by decide +kernel
theorem dX7_readOut_37 : decode cX7_readOut 37 = .ok (.istore_n 2, 1) := by decide +kernel
theorem dX7_readOut_38 : decode cX7_readOut 38 = .ok (.iload_n 2, 1) := by decide +kernel
theorem dX7_readOut_39 : decode cX7_readOut 39 = .ok (.bipush 8, 2) := by decide +kernel
theorem dX7_readOut_41 : decode cX7_readOut 41 = .ok (.if_icmp .ge 26, 3) := by decide +kernel
theorem dX7_readOut_44 : decode cX7_readOut 44 = .ok (.aload_n 0, 1) := by decide +kernel
theorem dX7_readOut_45 : decode cX7_readOut 45 = .ok (.getfield 47, 3) := by decide +kernel
theorem dX7_readOut_48 : decode cX7_readOut 48 = .ok (.iload_n 2, 1) := by decide +kernel
theorem dX7_readOut_49 : decode cX7_readOut 49 = .ok (.aload_n 0, 1) := by decide +kernel
theorem dX7_readOut_50 : decode cX7_readOut 50 = .ok (.getfield 50, 3) := by decide +kernel
theorem dX7_readOut_53 : decode cX7_readOut 53 = .ok (.bipush 8, 2) := by decide +kernel
theorem dX7_readOut_55 : decode cX7_readOut 55 = .ok (.iload_n 1, 1) := by decide +kernel
theorem dX7_readOut_56 : decode cX7_readOut 56 = .ok (.imul, 1) := by decide +kernel
theorem dX7_readOut_57 : decode cX7_readOut 57 = .ok (.iload_n 2, 1) := by decide +kernel
theorem dX7_readOut_58 : decode cX7_readOut 58 = .ok (.iadd, 1) := by decide +kernel
theorem dX7_readOut_59 : decode cX7_readOut 59 = .ok (.iaload, 1) := by decide +kernel
theorem dX7_readOut_60 : decode cX7_readOut 60 = .ok (.iastore, 1) := by decide +kernel
theorem dX7_readOut_61 : decode cX7_readOut 61 = .ok (.iinc 2 1, 3) := by decide +kernel
theorem dX7_readOut_64 : decode cX7_readOut 64 = .ok (.goto (-26), 3) := by decide +kernel
theorem dX7_readOut_67 : decode cX7_readOut 67 = .ok (.aload_n 0, 1) := by decide +kernel
theorem dX7_readOut_68 : decode cX7_readOut 68 = .ok (.invokevirtual 178, 3) := by decide +kernel
theorem dX7_readOut_71 : decode cX7_readOut 71 = .ok (.aload_n 0, 1) := by decide +kernel
theorem dX7_readOut_72 : decode cX7_readOut 72 = .ok (.getfield 132, 3) := by decide +kernel
theorem dX7_readOut_75 : decode cX7_readOut 75 = .ok (.iconst 1, 1) := by decide +kernel
theorem dX7_readOut_76 : decode cX7_readOut 76 = .ok (.if_icmp .eq 5, 3) := by decide +kernel
theorem dX7_readOut_79 : decode cX7_readOut 79 = .ok (.iconst (-1), 1) := by decide +kernel
theorem dX7_readOut_80 : decode cX7_readOut 80 = .ok (.ireturn, 1) := by decide +kernel
theorem dX7_readOut_81 : decode cX7_readOut 81 = .ok (.aload_n 0, 1) := by decide +kernel
theorem dX7_readOut_82 : decode cX7_readOut 82 = .ok (.bipush 64, 2) := by decide +kernel
theorem dX7_readOut_84 : decode cX7_readOut 84 = .ok (.invokevirtual 187, 3) := by decide +kernel
theorem dX7_readOut_87 : decode cX7_readOut 87 = .ok (.aload_n 0, 1) := by decide +kernel
theorem dX7_readOut_88 : decode cX7_readOut 88 = .ok (.invokevirtual 178, 3) := by decide +kernel
theorem dX7_readOut_91 : decode cX7_readOut 91 = .ok (.iconst 0, 1) := by decide +kernel
theorem dX7_readOut_92 : decode cX7_readOut 92 = .ok (.istore_n 2, 1) := by decide +kernel
theorem dX7_readOut_93 : decode cX7_readOut 93 = .ok (.iload_n 2, 1) := by decide +kernel
theorem dX7_readOut_94 : decode cX7_readOut 94 = .ok (.bipush 10, 2) := by decide +kernel
theorem dX7_readOut_96 : decode cX7_readOut 96 = .ok (.if_icmp .ge 90, 3) := by decide +kernel
theorem dX7_readOut_99 : decode cX7_readOut 99 = .ok (.aload_n 0, 1) := by decide +kernel
theorem dX7_readOut_100 : decode cX7_readOut 100 = .ok (.iload_n 2, 1) := by decide +kernel
theorem dX7_readOut_101 : decode cX7_readOut 101 = .ok (.iconst 2, 1) := by decide +kernel
theorem dX7_readOut_102 : decode cX7_readOut 102 = .ok (.irem, 1) := by decide +kernel
theorem dX7_readOut_103 : decode cX7_readOut 103 = .ok (.ifCond .ne 8, 3) := by decide +kernel
theorem dX7_readOut_106 : decode cX7_readOut 106 = .ok (.bipush 123, 2) := by decide +kernel
theorem dX7_readOut_108 : decode cX7_readOut 108 = .ok (.goto 5, 3) := by decide +kernel
theorem dX7_readOut_111 : decode cX7_readOut 111 = .ok (.bipush 91, 2) := by decide +kernel
theorem dX7_readOut_113 : decode cX7_readOut 113 = .ok (.invokevirtual 187, 3) := by decide +kernel
theorem dX7_readOut_116 : decode cX7_readOut 116 = .ok (.aload_n 0, 1) := by decide +kernel
theorem dX7_readOut_117 : decode cX7_readOut 117 = .ok (.getfield 132, 3) := by decide +kernel
theorem dX7_readOut_120 : decode cX7_readOut 120 = .ok (.iconst 1, 1) := by decide +kernel
theorem dX7_readOut_121 : decode cX7_readOut 121 = .ok (.if_icmp .eq 15, 3) := by decide +kernel
theorem dX7_readOut_124 : decode cX7_readOut 124 = .ok (.aload_n 0, 1) := by decide +kernel
theorem dX7_readOut_125 : decode cX7_readOut 125 = .ok (.iconst 0, 1) := by decide +kernel
theorem dX7_readOut_126 : decode cX7_readOut 126 = .ok (.putfield 190, 3) := by decide +kernel
theorem dX7_readOut_129 : decode cX7_readOut 129 = .ok (.aload_n 0, 1) := by decide +kernel
theorem dX7_readOut_130 : decode cX7_readOut 130 = .ok (.iconst 0, 1) := by decide +kernel
theorem dX7_readOut_131 : decode cX7_readOut 131 = .ok (.putfield 193, 3) := by decide +kernel
theorem dX7_readOut_134 : decode cX7_readOut 134 = .ok (.iconst (-1), 1) := by decide +kernel
theorem dX7_readOut_135 : decode cX7_readOut 135 = .ok (.ireturn, 1) := by decide +kernel
theorem dX7_readOut_136 : decode cX7_readOut 136 = .ok (.aload_n 0, 1) := by decide +kernel
theorem dX7_readOut_137 : decode cX7_readOut 137 = .ok (.aload_n 0, 1) := by decide +kernel
theorem dX7_readOut_138 : decode cX7_readOut 138 = .ok (.getfield 16, 3) := by decide +kernel
theorem dX7_readOut_141 : decode cX7_readOut 141 = .ok (.aload_n 0, 1) := by decide +kernel
theorem dX7_readOut_142 : decode cX7_readOut 142 = .ok (.getfield 135, 3) := by decide +kernel
theorem dX7_readOut_145 : decode cX7_readOut 145 = .ok (.invokevirtual 196, 3) := by decide +kernel
theorem dX7_readOut_148 : decode cX7_readOut 148 = .ok (.istore_n 3, 1) := by decide +kernel
theorem dX7_readOut_149 : decode cX7_readOut 149 = .ok (.iload_n 3, 1) := by decide +kernel
theorem dX7_readOut_150 : decode cX7_readOut 150 = .ok (.ifCond .le 18, 3) := by decide +kernel
theorem dX7_readOut_153 : decode cX7_readOut 153 = .ok (.aload_n 0, 1) := by decide +kernel
theorem dX7_readOut_154 : decode cX7_readOut 154 = .ok (.iconst 0, 1) := by decide +kernel
theorem dX7_readOut_155 : decode cX7_readOut 155 = .ok (.putfield 190, 3) := by decide +kernel
theorem dX7_readOut_158 : decode cX7_readOut 158 = .ok (.aload_n 0, 1) := by decide +kernel
theorem dX7_readOut_159 : decode cX7_readOut 159 = .ok (.iconst 0, 1) := by decide +kernel
theorem dX7_readOut_160 : decode cX7_readOut 160 = .ok (.putfield 193, 3) := by decide +kernel
theorem dX7_readOut_163 : decode cX7_readOut 163 = .ok (.bipush (-2), 2) := by decide +kernel
theorem dX7_readOut_165 : decode cX7_readOut 165 = .ok (.iload_n 3, 1) := by decide +kernel
theorem dX7_readOut_166 : decode cX7_readOut 166 = .ok (.isub, 1) := by decide +kernel
theorem dX7_readOut_167 : decode cX7_readOut 167 = .ok (.ireturn, 1) := by decide +kernel
theorem dX7_readOut_168 : decode cX7_readOut 168 = .ok (.aload_n 0, 1) := by decide +kernel
theorem dX7_readOut_169 : decode cX7_readOut 169 = .ok (.getfield 200, 3) := by decide +kernel
theorem dX7_readOut_172 : decode cX7_readOut 172 = .ok (.ifCond .ne 8, 3) := by decide +kernel
theorem dX7_readOut_175 : decode cX7_readOut 175 = .ok (.aload_n 0, 1) := by decide +kernel
theorem dX7_readOut_176 : decode cX7_readOut 176 = .ok (.getfield 190, 3) := by decide +kernel
theorem dX7_readOut_179 : decode cX7_readOut 179 = .ok (.ireturn, 1) := by decide +kernel
theorem dX7_readOut_180 : decode cX7_readOut 180 = .ok (.iinc 2 1, 3) := by decide +kernel
theorem dX7_readOut_183 : decode cX7_readOut 183 = .ok (.goto (-90), 3) := by decide +kernel
theorem dX7_readOut_186 : decode cX7_readOut 186 = .ok (.aload_n 0, 1) := by decide +kernel
theorem dX7_readOut_187 : decode cX7_readOut 187 = .ok (.getfield 190, 3) := by decide +kernel
theorem dX7_readOut_190 : decode cX7_readOut 190 = .ok (.ireturn, 1) := by decide +kernel
theorem dX7_blame_0 : decode cX7_blame 0 = .ok (.aload_n 0, 1) := by decide +kernel
theorem dX7_blame_1 : decode cX7_blame 1 = .ok (.getfield 204, 3) := by decide +kernel
theorem dX7_blame_4 : decode cX7_blame 4 = .ok (.ifCond .ne 13, 3) := by decide +kernel
theorem dX7_blame_7 : decode cX7_blame 7 = .ok (.aload_n 0, 1) := by decide +kernel
theorem dX7_blame_8 : decode cX7_blame 8 = .ok (.iload_n 1, 1) := by decide +kernel
theorem dX7_blame_9 : decode cX7_blame 9 = .ok (.putfield 204, 3) := by decide +kernel
theorem dX7_blame_12 : decode cX7_blame 12 = .ok (.aload_n 0, 1) := by decide +kernel
theorem dX7_blame_13 : decode cX7_blame 13 = .ok (.iload_n 2, 1) := by decide +kernel
theorem dX7_blame_14 : decode cX7_blame 14 = .ok (.putfield 90, 3) := by decide +kernel
theorem dX7_blame_17 : decode cX7_blame 17 = .ok (.iconst 0, 1) := by decide +kernel
theorem dX7_blame_18 : decode cX7_blame 18 = .ok (.ireturn, 1) := by decide +kernel
theorem dX7_isByte_0 : decode cX7_isByte 0 = .ok (.iload_n 2, 1) := by decide +kernel
theorem dX7_isByte_1 : decode cX7_isByte 1 = .ok (.iload_n 1, 1) := by decide +kernel
theorem dX7_isByte_2 : decode cX7_isByte 2 = .ok (.if_icmp .ge 28, 3) := by decide +kernel
theorem dX7_isByte_5 : decode cX7_isByte 5 = .ok (.aload_n 0, 1) := by decide +kernel
theorem dX7_isByte_6 : decode cX7_isByte 6 = .ok (.getfield 94, 3) := by decide +kernel
theorem dX7_isByte_9 : decode cX7_isByte 9 = .ok (.iload_n 2, 1) := by decide +kernel
theorem dX7_isByte_10 : decode cX7_isByte 10 = .ok (.iaload, 1) := by decide +kernel
theorem dX7_isByte_11 : decode cX7_isByte 11 = .ok (.iload_n 3, 1) := by decide +kernel
theorem dX7_isByte_12 : decode cX7_isByte 12 = .ok (.if_icmp .lt 18, 3) := by decide +kernel
theorem dX7_isByte_15 : decode cX7_isByte 15 = .ok (.aload_n 0, 1) := by decide +kernel
theorem dX7_isByte_16 : decode cX7_isByte 16 = .ok (.getfield 94, 3) := by decide +kernel
theorem dX7_isByte_19 : decode cX7_isByte 19 = .ok (.iload_n 2, 1) := by decide +kernel
theorem dX7_isByte_20 : decode cX7_isByte 20 = .ok (.iaload, 1) := by decide +kernel
theorem dX7_isByte_21 : decode cX7_isByte 21 = .ok (.iload 4, 2) := by decide +kernel
theorem dX7_isByte_23 : decode cX7_isByte 23 = .ok (.if_icmp .gt 7, 3) := by decide +kernel
theorem dX7_isByte_26 : decode cX7_isByte 26 = .ok (.iconst 1, 1) := by decide +kernel
theorem dX7_isByte_27 : decode cX7_isByte 27 = .ok (.goto 4, 3) := by decide +kernel
theorem dX7_isByte_30 : decode cX7_isByte 30 = .ok (.iconst 0, 1) := by decide +kernel
theorem dX7_isByte_31 : decode cX7_isByte 31 = .ok (.istore 5, 2) := by decide +kernel
theorem dX7_isByte_33 : decode cX7_isByte 33 = .ok (.iload 5, 2) := by decide +kernel
theorem dX7_isByte_35 : decode cX7_isByte 35 = .ok (.ifCond .ne 20, 3) := by decide +kernel
theorem dX7_isByte_38 : decode cX7_isByte 38 = .ok (.aload_n 0, 1) := by decide +kernel
theorem dX7_isByte_39 : decode cX7_isByte 39 = .ok (.iconst 1, 1) := by decide +kernel
theorem dX7_isByte_40 : decode cX7_isByte 40 = .ok (.iload_n 2, 1) := by decide +kernel
theorem dX7_isByte_41 : decode cX7_isByte 41 = .ok (.iload_n 1, 1) := by decide +kernel
theorem dX7_isByte_42 : decode cX7_isByte 42 = .ok (.if_icmp .ge 7, 3) := by decide +kernel
theorem dX7_isByte_45 : decode cX7_isByte 45 = .ok (.iload_n 2, 1) := by decide +kernel
theorem dX7_isByte_46 : decode cX7_isByte 46 = .ok (.goto 4, 3) := by decide +kernel
theorem dX7_isByte_49 : decode cX7_isByte 49 = .ok (.iload_n 1, 1) := by decide +kernel
theorem dX7_isByte_50 : decode cX7_isByte 50 = .ok (.invokevirtual 207, 3) := by decide +kernel
theorem dX7_isByte_53 : decode cX7_isByte 53 = .ok (.istore 6, 2) := by decide +kernel
theorem dX7_isByte_55 : decode cX7_isByte 55 = .ok (.iload 5, 2) := by decide +kernel
theorem dX7_isByte_57 : decode cX7_isByte 57 = .ok (.ireturn, 1) := by decide +kernel
theorem dX7_isFrame_0 : decode cX7_isFrame 0 = .ok (.aload_n 0, 1) := by decide +kernel
theorem dX7_isFrame_1 : decode cX7_isFrame 1 = .ok (.iload_n 1, 1) := by decide +kernel
theorem dX7_isFrame_2 : decode cX7_isFrame 2 = .ok (.iconst 0, 1) := by decide +kernel
theorem dX7_isFrame_3 : decode cX7_isFrame 3 = .ok (.bipush 104, 2) := by decide +kernel
theorem dX7_isFrame_5 : decode cX7_isFrame 5 = .ok (.bipush 104, 2) := by decide +kernel
theorem dX7_isFrame_7 : decode cX7_isFrame 7 = .ok (.invokevirtual 211, 3) := by decide +kernel
theorem dX7_isFrame_10 : decode cX7_isFrame 10 = .ok (.ifCond .eq 17, 3) := by decide +kernel
theorem dX7_isFrame_13 : decode cX7_isFrame 13 = .ok (.aload_n 0, 1) := by decide +kernel
theorem dX7_isFrame_14 : decode cX7_isFrame 14 = .ok (.iload_n 1, 1) := by decide +kernel
theorem dX7_isFrame_15 : decode cX7_isFrame 15 = .ok (.iconst 1, 1) := by decide +kernel
theorem dX7_isFrame_16 : decode cX7_isFrame 16 = .ok (.bipush 15, 2) := by decide +kernel
theorem dX7_isFrame_18 : decode cX7_isFrame 18 = .ok (.sipush 252, 3) := by decide +kernel
theorem dX7_isFrame_21 : decode cX7_isFrame 21 = .ok (.invokevirtual 211, 3) := by decide +kernel
theorem dX7_isFrame_24 : decode cX7_isFrame 24 = .ok (.ifCond .ne 5, 3) := by decide +kernel
theorem dX7_isFrame_27 : decode cX7_isFrame 27 = .ok (.iconst 0, 1) := by decide +kernel
theorem dX7_isFrame_28 : decode cX7_isFrame 28 = .ok (.ireturn, 1) := by decide +kernel
theorem dX7_isFrame_29 : decode cX7_isFrame 29 = .ok (.aload_n 0, 1) := by decide +kernel
theorem dX7_isFrame_30 : decode cX7_isFrame 30 = .ok (.getfield 94, 3) := by decide +kernel
theorem dX7_isFrame_33 : decode cX7_isFrame 33 = .ok (.iconst 1, 1) := by decide +kernel
theorem dX7_isFrame_34 : decode cX7_isFrame 34 = .ok (.iaload, 1) := by decide +kernel
theorem dX7_isFrame_35 : decode cX7_isFrame 35 = .ok (.istore_n 2, 1) := by decide +kernel
theorem dX7_isFrame_36 : decode cX7_isFrame 36 = .ok (.aload_n 0, 1) := by decide +kernel
theorem dX7_isFrame_37 : decode cX7_isFrame 37 = .ok (.iload_n 1, 1) := by decide +kernel
theorem dX7_isFrame_38 : decode cX7_isFrame 38 = .ok (.iconst 2, 1) := by decide +kernel
theorem dX7_isFrame_39 : decode cX7_isFrame 39 = .ok (.iload_n 2, 1) := by decide +kernel
theorem dX7_isFrame_40 : decode cX7_isFrame 40 = .ok (.iload_n 2, 1) := by decide +kernel
theorem dX7_isFrame_41 : decode cX7_isFrame 41 = .ok (.invokevirtual 211, 3) := by decide +kernel
theorem dX7_isFrame_44 : decode cX7_isFrame 44 = .ok (.ifCond .eq 16, 3) := by decide +kernel
theorem dX7_isFrame_47 : decode cX7_isFrame 47 = .ok (.aload_n 0, 1) := by decide +kernel
theorem dX7_isFrame_48 : decode cX7_isFrame 48 = .ok (.iload_n 1, 1) := by decide +kernel
theorem dX7_isFrame_49 : decode cX7_isFrame 49 = .ok (.iconst 3, 1) := by decide +kernel
theorem dX7_isFrame_50 : decode cX7_isFrame 50 = .ok (.bipush 104, 2) := by decide +kernel
theorem dX7_isFrame_52 : decode cX7_isFrame 52 = .ok (.bipush 104, 2) := by decide +kernel
theorem dX7_isFrame_54 : decode cX7_isFrame 54 = .ok (.invokevirtual 211, 3) := by decide +kernel
theorem dX7_isFrame_57 : decode cX7_isFrame 57 = .ok (.ifCond .ne 5, 3) := by decide +kernel
theorem dX7_isFrame_60 : decode cX7_isFrame 60 = .ok (.iconst 0, 1) := by decide +kernel
theorem dX7_isFrame_61 : decode cX7_isFrame 61 = .ok (.ireturn, 1) := by decide +kernel
theorem dX7_isFrame_62 : decode cX7_isFrame 62 = .ok (.iload_n 1, 1) := by decide +kernel
theorem dX7_isFrame_63 : decode cX7_isFrame 63 = .ok (.iload_n 2, 1) := by decide +kernel
theorem dX7_isFrame_64 : decode cX7_isFrame 64 = .ok (.bipush 6, 2) := by decide +kernel
theorem dX7_isFrame_66 : decode cX7_isFrame 66 = .ok (.iadd, 1) := by decide +kernel
theorem dX7_isFrame_67 : decode cX7_isFrame 67 = .ok (.if_icmp .eq 27, 3) := by decide +kernel
theorem dX7_isFrame_70 : decode cX7_isFrame 70 = .ok (.aload_n 0, 1) := by decide +kernel
theorem dX7_isFrame_71 : decode cX7_isFrame 71 = .ok (.iconst 1, 1) := by decide +kernel
theorem dX7_isFrame_72 : decode cX7_isFrame 72 = .ok (.iload_n 1, 1) := by decide +kernel
theorem dX7_isFrame_73 : decode cX7_isFrame 73 = .ok (.iload_n 2, 1) := by decide +kernel
theorem dX7_isFrame_74 : decode cX7_isFrame 74 = .ok (.bipush 6, 2) := by decide +kernel
theorem dX7_isFrame_76 : decode cX7_isFrame 76 = .ok (.iadd, 1) := by decide +kernel
theorem dX7_isFrame_77 : decode cX7_isFrame 77 = .ok (.if_icmp .ge 7, 3) := by decide +kernel
theorem dX7_isFrame_80 : decode cX7_isFrame 80 = .ok (.iload_n 1, 1) := by decide +kernel
theorem dX7_isFrame_81 : decode cX7_isFrame 81 = .ok (.goto 7, 3) := by decide +kernel
theorem dX7_isFrame_84 : decode cX7_isFrame 84 = .ok (.iload_n 2, 1) := by decide +kernel
theorem dX7_isFrame_85 : decode cX7_isFrame 85 = .ok (.bipush 6, 2) := by decide +kernel
theorem dX7_isFrame_87 : decode cX7_isFrame 87 = .ok (.iadd, 1) := by decide +kernel
theorem dX7_isFrame_88 : decode cX7_isFrame 88 = .ok (.invokevirtual 207, 3) := by decide +kernel
theorem dX7_isFrame_91 : decode cX7_isFrame 91 = .ok (.istore_n 3, 1) := by decide +kernel
theorem dX7_isFrame_92 : decode cX7_isFrame 92 = .ok (.iconst 0, 1) := by decide +kernel
theorem dX7_isFrame_93 : decode cX7_isFrame 93 = .ok (.ireturn, 1) := by decide +kernel
theorem dX7_isFrame_94 : decode cX7_isFrame 94 = .ok (.aload_n 0, 1) := by decide +kernel
theorem dX7_isFrame_95 : decode cX7_isFrame 95 = .ok (.iload_n 1, 1) := by decide +kernel
theorem dX7_isFrame_96 : decode cX7_isFrame 96 = .ok (.iconst 4, 1) := by decide +kernel
theorem dX7_isFrame_97 : decode cX7_isFrame 97 = .ok (.bipush 8, 2) := by decide +kernel
theorem dX7_isFrame_99 : decode cX7_isFrame 99 = .ok (.bipush 8, 2) := by decide +kernel
theorem dX7_isFrame_101 : decode cX7_isFrame 101 = .ok (.invokevirtual 211, 3) := by decide +kernel
theorem dX7_isFrame_104 : decode cX7_isFrame 104 = .ok (.ifCond .eq 32, 3) := by decide +kernel
theorem dX7_isFrame_107 : decode cX7_isFrame 107 = .ok (.aload_n 0, 1) := by decide +kernel
theorem dX7_isFrame_108 : decode cX7_isFrame 108 = .ok (.iload_n 1, 1) := by decide +kernel
theorem dX7_isFrame_109 : decode cX7_isFrame 109 = .ok (.bipush 6, 2) := by decide +kernel
theorem dX7_isFrame_111 : decode cX7_isFrame 111 = .ok (.bipush 114, 2) := by decide +kernel
theorem dX7_isFrame_113 : decode cX7_isFrame 113 = .ok (.bipush 114, 2) := by decide +kernel
theorem dX7_isFrame_115 : decode cX7_isFrame 115 = .ok (.invokevirtual 211, 3) := by decide +kernel
theorem dX7_isFrame_118 : decode cX7_isFrame 118 = .ok (.ifCond .eq 18, 3) := by decide +kernel
theorem dX7_isFrame_121 : decode cX7_isFrame 121 = .ok (.aload_n 0, 1) := by decide +kernel
theorem dX7_isFrame_122 : decode cX7_isFrame 122 = .ok (.iload_n 1, 1) := by decide +kernel
theorem dX7_isFrame_123 : decode cX7_isFrame 123 = .ok (.iload_n 2, 1) := by decide +kernel
theorem dX7_isFrame_124 : decode cX7_isFrame 124 = .ok (.iconst 5, 1) := by decide +kernel
theorem dX7_isFrame_125 : decode cX7_isFrame 125 = .ok (.iadd, 1) := by decide +kernel
theorem dX7_isFrame_126 : decode cX7_isFrame 126 = .ok (.bipush 22, 2) := by decide +kernel
theorem dX7_isFrame_128 : decode cX7_isFrame 128 = .ok (.bipush 22, 2) := by decide +kernel
theorem dX7_isFrame_130 : decode cX7_isFrame 130 = .ok (.invokevirtual 211, 3) := by decide +kernel
theorem dX7_isFrame_133 : decode cX7_isFrame 133 = .ok (.ifCond .ne 5, 3) := by decide +kernel
theorem dX7_isFrame_136 : decode cX7_isFrame 136 = .ok (.iconst 0, 1) := by decide +kernel
theorem dX7_isFrame_137 : decode cX7_isFrame 137 = .ok (.ireturn, 1) := by decide +kernel
theorem dX7_isFrame_138 : decode cX7_isFrame 138 = .ok (.iconst 0, 1) := by decide +kernel
theorem dX7_isFrame_139 : decode cX7_isFrame 139 = .ok (.istore_n 3, 1) := by decide +kernel
theorem dX7_isFrame_140 : decode cX7_isFrame 140 = .ok (.iconst 4, 1) := by decide +kernel
theorem dX7_isFrame_141 : decode cX7_isFrame 141 = .ok (.istore 4, 2) := by decide +kernel
theorem dX7_isFrame_143 : decode cX7_isFrame 143 = .ok (.iload 4, 2) := by decide +kernel
theorem dX7_isFrame_145 : decode cX7_isFrame 145 = .ok (.iload_n 2, 1) := by decide +kernel
theorem dX7_isFrame_146 : decode cX7_isFrame 146 = .ok (.iconst 4, 1) := by decide +kernel
theorem dX7_isFrame_147 : decode cX7_isFrame 147 = .ok (.iadd, 1) := by decide +kernel
theorem dX7_isFrame_148 : decode cX7_isFrame 148 = .ok (.if_icmp .ge 19, 3) := by decide +kernel
theorem dX7_isFrame_151 : decode cX7_isFrame 151 = .ok (.iload_n 3, 1) := by decide +kernel
theorem dX7_isFrame_152 : decode cX7_isFrame 152 = .ok (.aload_n 0, 1) := by decide +kernel
theorem dX7_isFrame_153 : decode cX7_isFrame 153 = .ok (.getfield 94, 3) := by decide +kernel
theorem dX7_isFrame_156 : decode cX7_isFrame 156 = .ok (.iload 4, 2) := by decide +kernel
theorem dX7_isFrame_158 : decode cX7_isFrame 158 = .ok (.iaload, 1) := by decide +kernel
theorem dX7_isFrame_159 : decode cX7_isFrame 159 = .ok (.iadd, 1) := by decide +kernel
theorem dX7_isFrame_160 : decode cX7_isFrame 160 = .ok (.istore_n 3, 1) := by decide +kernel
theorem dX7_isFrame_161 : decode cX7_isFrame 161 = .ok (.iinc 4 1, 3) := by decide +kernel
theorem dX7_isFrame_164 : decode cX7_isFrame 164 = .ok (.goto (-21), 3) := by decide +kernel
theorem dX7_isFrame_167 : decode cX7_isFrame 167 = .ok (.aload_n 0, 1) := by decide +kernel
theorem dX7_isFrame_168 : decode cX7_isFrame 168 = .ok (.getfield 94, 3) := by decide +kernel
theorem dX7_isFrame_171 : decode cX7_isFrame 171 = .ok (.iload_n 2, 1) := by decide +kernel
theorem dX7_isFrame_172 : decode cX7_isFrame 172 = .ok (.iconst 4, 1) := by decide +kernel
theorem dX7_isFrame_173 : decode cX7_isFrame 173 = .ok (.iadd, 1) := by decide +kernel
theorem dX7_isFrame_174 : decode cX7_isFrame 174 = .ok (.iaload, 1) := by decide +kernel
theorem dX7_isFrame_175 : decode cX7_isFrame 175 = .ok (.iload_n 3, 1) := by decide +kernel
theorem dX7_isFrame_176 : decode cX7_isFrame 176 = .ok (.sipush 255, 3) := by decide +kernel
theorem dX7_isFrame_179 : decode cX7_isFrame 179 = .ok (.iand, 1) := by decide +kernel
theorem dX7_isFrame_180 : decode cX7_isFrame 180 = .ok (.if_icmp .eq 15, 3) := by decide +kernel
theorem dX7_isFrame_183 : decode cX7_isFrame 183 = .ok (.aload_n 0, 1) := by decide +kernel
theorem dX7_isFrame_184 : decode cX7_isFrame 184 = .ok (.iconst 2, 1) := by decide +kernel
theorem dX7_isFrame_185 : decode cX7_isFrame 185 = .ok (.iload_n 2, 1) := by decide +kernel
theorem dX7_isFrame_186 : decode cX7_isFrame 186 = .ok (.iconst 4, 1) := by decide +kernel
theorem dX7_isFrame_187 : decode cX7_isFrame 187 = .ok (.iadd, 1) := by decide +kernel
theorem dX7_isFrame_188 : decode cX7_isFrame 188 = .ok (.invokevirtual 207, 3) := by decide +kernel
theorem dX7_isFrame_191 : decode cX7_isFrame 191 = .ok (.istore 4, 2) := by decide +kernel
theorem dX7_isFrame_193 : decode cX7_isFrame 193 = .ok (.iconst 0, 1) := by decide +kernel
theorem dX7_isFrame_194 : decode cX7_isFrame 194 = .ok (.ireturn, 1) := by decide +kernel
theorem dX7_isFrame_195 : decode cX7_isFrame 195 = .ok (.bipush 7, 2) := by decide +kernel
theorem dX7_isFrame_197 : decode cX7_isFrame 197 = .ok (.istore 4, 2) := by decide +kernel
theorem dX7_isFrame_199 : decode cX7_isFrame 199 = .ok (.iload 4, 2) := by decide +kernel
theorem dX7_isFrame_201 : decode cX7_isFrame 201 = .ok (.bipush 11, 2) := by decide +kernel
theorem dX7_isFrame_203 : decode cX7_isFrame 203 = .ok (.if_icmp .ge 49, 3) := by decide +kernel
theorem dX7_isFrame_206 : decode cX7_isFrame 206 = .ok (.aload_n 0, 1) := by decide +kernel
theorem dX7_isFrame_207 : decode cX7_isFrame 207 = .ok (.getfield 94, 3) := by decide +kernel
theorem dX7_isFrame_210 : decode cX7_isFrame 210 = .ok (.iload 4, 2) := by decide +kernel
theorem dX7_isFrame_212 : decode cX7_isFrame 212 = .ok (.iaload, 1) := by decide +kernel
theorem dX7_isFrame_213 : decode cX7_isFrame 213 = .ok (.bipush 15, 2) := by decide +kernel
theorem dX7_isFrame_215 : decode cX7_isFrame 215 = .ok (.iand, 1) := by decide +kernel
theorem dX7_isFrame_216 : decode cX7_isFrame 216 = .ok (.bipush 9, 2) := by decide +kernel
theorem dX7_isFrame_218 : decode cX7_isFrame 218 = .ok (.if_icmp .gt 17, 3) := by decide +kernel
theorem dX7_isFrame_221 : decode cX7_isFrame 221 = .ok (.aload_n 0, 1) := by decide +kernel
theorem dX7_isFrame_222 : decode cX7_isFrame 222 = .ok (.getfield 94, 3) := by decide +kernel
theorem dX7_isFrame_225 : decode cX7_isFrame 225 = .ok (.iload 4, 2) := by decide +kernel
theorem dX7_isFrame_227 : decode cX7_isFrame 227 = .ok (.iaload, 1) := by decide +kernel
theorem dX7_isFrame_228 : decode cX7_isFrame 228 = .ok (.iconst 4, 1) := by decide +kernel
theorem dX7_isFrame_229 : decode cX7_isFrame 229 = .ok (.ishr, 1) := by decide +kernel
theorem dX7_isFrame_230 : decode cX7_isFrame 230 = .ok (.bipush 9, 2) := by decide +kernel
theorem dX7_isFrame_232 : decode cX7_isFrame 232 = .ok (.if_icmp .le 14, 3) := by decide +kernel
theorem dX7_isFrame_235 : decode cX7_isFrame 235 = .ok (.aload_n 0, 1) := by decide +kernel
theorem dX7_isFrame_236 : decode cX7_isFrame 236 = .ok (.iconst 3, 1) := by decide +kernel
theorem dX7_isFrame_237 : decode cX7_isFrame 237 = .ok (.iload 4, 2) := by decide +kernel
theorem dX7_isFrame_239 : decode cX7_isFrame 239 = .ok (.invokevirtual 207, 3) := by decide +kernel
theorem dX7_isFrame_242 : decode cX7_isFrame 242 = .ok (.istore 5, 2) := by decide +kernel
theorem dX7_isFrame_244 : decode cX7_isFrame 244 = .ok (.iconst 0, 1) := by decide +kernel
theorem dX7_isFrame_245 : decode cX7_isFrame 245 = .ok (.ireturn, 1) := by decide +kernel
theorem dX7_isFrame_246 : decode cX7_isFrame 246 = .ok (.iinc 4 1, 3) := by decide +kernel
theorem dX7_isFrame_249 : decode cX7_isFrame 249 = .ok (.goto (-50), 3) := by decide +kernel
theorem dX7_isFrame_252 : decode cX7_isFrame 252 = .ok (.aload_n 0, 1) := by decide +kernel
theorem dX7_isFrame_253 : decode cX7_isFrame 253 = .ok (.iload_n 2, 1) := by decide +kernel
theorem dX7_isFrame_254 : decode cX7_isFrame 254 = .ok (.iconst 4, 1) := by decide +kernel
theorem dX7_isFrame_255 : decode cX7_isFrame 255 = .ok (.iadd, 1) := by decide +kernel
theorem dX7_isFrame_256 : decode cX7_isFrame 256 = .ok (.putfield 215, 3) := by decide +kernel
theorem dX7_isFrame_259 : decode cX7_isFrame 259 = .ok (.iconst 1, 1) := by decide +kernel
theorem dX7_isFrame_260 : decode cX7_isFrame 260 = .ok (.ireturn, 1) := by decide +kernel
theorem dX7_decodeAll_0 : decode cX7_decodeAll 0 = .ok (.aload_n 0, 1) := by decide +kernel
theorem dX7_decodeAll_1 : decode cX7_decodeAll 1 = .ok (.iconst 0, 1) := by decide +kernel
theorem dX7_decodeAll_2 : decode cX7_decodeAll 2 = .ok (.putfield 204, 3) := by decide +kernel
theorem dX7_decodeAll_5 : decode cX7_decodeAll 5 = .ok (.aload_n 0, 1) := by decide +kernel
theorem dX7_decodeAll_6 : decode cX7_decodeAll 6 = .ok (.iconst (-1), 1) := by decide +kernel
theorem dX7_decodeAll_7 : decode cX7_decodeAll 7 = .ok (.putfield 90, 3) := by decide +kernel
theorem dX7_decodeAll_10 : decode cX7_decodeAll 10 = .ok (.aload_n 0, 1) := by decide +kernel
theorem dX7_decodeAll_11 : decode cX7_decodeAll 11 = .ok (.iconst 0, 1) := by decide +kernel
theorem dX7_decodeAll_12 : decode cX7_decodeAll 12 = .ok (.putfield 200, 3) := by decide +kernel
theorem dX7_decodeAll_15 : decode cX7_decodeAll 15 = .ok (.iconst 0, 1) := by decide +kernel
theorem dX7_decodeAll_16 : decode cX7_decodeAll 16 = .ok (.istore_n 3, 1) := by decide +kernel
theorem dX7_decodeAll_17 : decode cX7_decodeAll 17 = .ok (.iload_n 3, 1) := by decide +kernel
theorem dX7_decodeAll_18 : decode cX7_decodeAll 18 = .ok (.iload_n 2, 1) := by decide +kernel
theorem dX7_decodeAll_19 : decode cX7_decodeAll 19 = .ok (.if_icmp .ge 18, 3) := by decide +kernel
theorem dX7_decodeAll_22 : decode cX7_decodeAll 22 = .ok (.aload_n 0, 1) := by decide +kernel
theorem dX7_decodeAll_23 : decode cX7_decodeAll 23 = .ok (.getfield 94, 3) := by decide +kernel
theorem dX7_decodeAll_26 : decode cX7_decodeAll 26 = .ok (.iload_n 3, 1) := by decide +kernel
theorem dX7_decodeAll_27 : decode cX7_decodeAll 27 = .ok (.aload_n 1, 1) := by decide +kernel
theorem dX7_decodeAll_28 : decode cX7_decodeAll 28 = .ok (.iload_n 3, 1) := by decide +kernel
theorem dX7_decodeAll_29 : decode cX7_decodeAll 29 = .ok (.iaload, 1) := by decide +kernel
theorem dX7_decodeAll_30 : decode cX7_decodeAll 30 = .ok (.iastore, 1) := by decide +kernel
theorem dX7_decodeAll_31 : decode cX7_decodeAll 31 = .ok (.iinc 3 1, 3) := by decide +kernel
theorem dX7_decodeAll_34 : decode cX7_decodeAll 34 = .ok (.goto (-17), 3) := by decide +kernel
theorem dX7_decodeAll_37 : decode cX7_decodeAll 37 = .ok (.aload_n 0, 1) := by decide +kernel
theorem dX7_decodeAll_38 : decode cX7_decodeAll 38 = .ok (.getfield 190, 3) := by decide +kernel
theorem dX7_decodeAll_41 : decode cX7_decodeAll 41 = .ok (.istore_n 3, 1) := by decide +kernel
theorem dX7_decodeAll_42 : decode cX7_decodeAll 42 = .ok (.aload_n 0, 1) := by decide +kernel
theorem dX7_decodeAll_43 : decode cX7_decodeAll 43 = .ok (.getfield 193, 3) := by decide +kernel
theorem dX7_decodeAll_46 : decode cX7_decodeAll 46 = .ok (.istore 4, 2) := by decide +kernel
theorem dX7_decodeAll_48 : decode cX7_decodeAll 48 = .ok (.aload_n 0, 1) := by decide +kernel
theorem dX7_decodeAll_49 : decode cX7_decodeAll 49 = .ok (.iload_n 2, 1) := by decide +kernel
theorem dX7_decodeAll_50 : decode cX7_decodeAll 50 = .ok (.invokevirtual 218, 3) := by decide +kernel
theorem dX7_decodeAll_53 : decode cX7_decodeAll 53 = .ok (.ifCond .eq 34, 3) := by decide +kernel
theorem dX7_decodeAll_56 : decode cX7_decodeAll 56 = .ok (.aload_n 0, 1) := by decide +kernel
theorem dX7_decodeAll_57 : decode cX7_decodeAll 57 = .ok (.bipush 19, 2) := by decide +kernel
theorem dX7_decodeAll_59 : decode cX7_decodeAll 59 = .ok (.putfield 221, 3) := by decide +kernel
theorem dX7_decodeAll_62 : decode cX7_decodeAll 62 = .ok (.aload_n 0, 1) := by decide +kernel
theorem dX7_decodeAll_63 : decode cX7_decodeAll 63 = .ok (.getfield 204, 3) := by decide +kernel
theorem dX7_decodeAll_66 : decode cX7_decodeAll 66 = .ok (.ifCond .ne 21, 3) := by decide +kernel
theorem dX7_decodeAll_69 : decode cX7_decodeAll 69 = .ok (.aload_n 0, 1) := by decide +kernel
theorem dX7_decodeAll_70 : decode cX7_decodeAll 70 = .ok (.getfield 221, 3) := by decide +kernel
theorem dX7_decodeAll_73 : decode cX7_decodeAll 73 = .ok (.aload_n 0, 1) := by decide +kernel
theorem dX7_decodeAll_74 : decode cX7_decodeAll 74 = .ok (.getfield 215, 3) := by decide +kernel
theorem dX7_decodeAll_77 : decode cX7_decodeAll 77 = .ok (.if_icmp .ge 10, 3) := by decide +kernel
theorem dX7_decodeAll_80 : decode cX7_decodeAll 80 = .ok (.aload_n 0, 1) := by decide +kernel
theorem dX7_decodeAll_81 : decode cX7_decodeAll 81 = .ok (.invokevirtual 224, 3) := by decide +kernel
theorem dX7_decodeAll_84 : decode cX7_decodeAll 84 = .ok (.goto (-22), 3) := by decide +kernel
theorem dX7_decodeAll_87 : decode cX7_decodeAll 87 = .ok (.aload_n 0, 1) := by decide +kernel
theorem dX7_decodeAll_88 : decode cX7_decodeAll 88 = .ok (.getfield 204, 3) := by decide +kernel
theorem dX7_decodeAll_91 : decode cX7_decodeAll 91 = .ok (.ifCond .le 14, 3) := by decide +kernel
theorem dX7_decodeAll_94 : decode cX7_decodeAll 94 = .ok (.aload_n 0, 1) := by decide +kernel
theorem dX7_decodeAll_95 : decode cX7_decodeAll 95 = .ok (.iload_n 3, 1) := by decide +kernel
theorem dX7_decodeAll_96 : decode cX7_decodeAll 96 = .ok (.putfield 190, 3) := by decide +kernel
theorem dX7_decodeAll_99 : decode cX7_decodeAll 99 = .ok (.aload_n 0, 1) := by decide +kernel
theorem dX7_decodeAll_100 : decode cX7_decodeAll 100 = .ok (.iload 4, 2) := by decide +kernel
theorem dX7_decodeAll_102 : decode cX7_decodeAll 102 = .ok (.putfield 193, 3) := by decide +kernel
theorem dX7_decodeAll_105 : decode cX7_decodeAll 105 = .ok (.aload_n 0, 1) := by decide +kernel
theorem dX7_decodeAll_106 : decode cX7_decodeAll 106 = .ok (.getfield 204, 3) := by decide +kernel
theorem dX7_decodeAll_109 : decode cX7_decodeAll 109 = .ok (.ireturn, 1) := by decide +kernel
theorem dX7_next_0 : decode cX7_next 0 = .ok (.aload_n 0, 1) := by decide +kernel
theorem dX7_next_1 : decode cX7_next 1 = .ok (.getfield 221, 3) := by decide +kernel
theorem dX7_next_4 : decode cX7_next 4 = .ok (.aload_n 0, 1) := by decide +kernel
theorem dX7_next_5 : decode cX7_next 5 = .ok (.getfield 215, 3) := by decide +kernel
theorem dX7_next_8 : decode cX7_next 8 = .ok (.if_icmp .lt 13, 3) := by decide +kernel
theorem dX7_next_11 : decode cX7_next 11 = .ok (.aload_n 0, 1) := by decide +kernel
theorem dX7_next_12 : decode cX7_next 12 = .ok (.iconst 4, 1) := by decide +kernel
theorem dX7_next_13 : decode cX7_next 13 = .ok (.aload_n 0, 1) := by decide +kernel
theorem dX7_next_14 : decode cX7_next 14 = .ok (.getfield 215, 3) := by decide +kernel
theorem dX7_next_17 : decode cX7_next 17 = .ok (.invokevirtual 207, 3) := by decide +kernel
theorem dX7_next_20 : decode cX7_next 20 = .ok (.ireturn, 1) := by decide +kernel
theorem dX7_next_21 : decode cX7_next 21 = .ok (.aload_n 0, 1) := by decide +kernel
theorem dX7_next_22 : decode cX7_next 22 = .ok (.dup, 1) := by decide +kernel
theorem dX7_next_23 : decode cX7_next 23 = .ok (.getfield 221, 3) := by decide +kernel
theorem dX7_next_26 : decode cX7_next 26 = .ok (.iconst 1, 1) := by decide +kernel
theorem dX7_next_27 : decode cX7_next 27 = .ok (.iadd, 1) := by decide +kernel
theorem dX7_next_28 : decode cX7_next 28 = .ok (.putfield 221, 3) := by decide +kernel
theorem dX7_next_31 : decode cX7_next 31 = .ok (.aload_n 0, 1) := by decide +kernel
theorem dX7_next_32 : decode cX7_next 32 = .ok (.getfield 94, 3) := by decide +kernel
theorem dX7_next_35 : decode cX7_next 35 = .ok (.aload_n 0, 1) := by decide +kernel
theorem dX7_next_36 : decode cX7_next 36 = .ok (.getfield 221, 3) := by decide +kernel
theorem dX7_next_39 : decode cX7_next 39 = .ok (.iconst 1, 1) := by decide +kernel
theorem dX7_next_40 : decode cX7_next 40 = .ok (.isub, 1) := by decide +kernel
theorem dX7_next_41 : decode cX7_next 41 = .ok (.iaload, 1) := by decide +kernel
theorem dX7_next_42 : decode cX7_next 42 = .ok (.ireturn, 1) := by decide +kernel
theorem dX7_oneRecord_0 : decode cX7_oneRecord 0 = .ok (.aload_n 0, 1) := by decide +kernel
theorem dX7_oneRecord_1 : decode cX7_oneRecord 1 = .ok (.getfield 221, 3) := by decide +kernel
theorem dX7_oneRecord_4 : decode cX7_oneRecord 4 = .ok (.istore_n 1, 1) := by decide +kernel
theorem dX7_oneRecord_5 : decode cX7_oneRecord 5 = .ok (.aload_n 0, 1) := by decide +kernel
theorem dX7_oneRecord_6 : decode cX7_oneRecord 6 = .ok (.invokevirtual 227, 3) := by decide +kernel
theorem dX7_oneRecord_9 : decode cX7_oneRecord 9 = .ok (.istore_n 2, 1) := by decide +kernel
theorem dX7_oneRecord_10 : decode cX7_oneRecord 10 = .ok (.iload_n 2, 1) := by decide +kernel
theorem dX7_oneRecord_11 : decode cX7_oneRecord 11 = .ok (.bipush 15, 2) := by decide +kernel
theorem dX7_oneRecord_13 : decode cX7_oneRecord 13 = .ok (.iand, 1) := by decide +kernel
theorem dX7_oneRecord_14 : decode cX7_oneRecord 14 = .ok (.istore_n 3, 1) := by decide +kernel
theorem dX7_oneRecord_15 : decode cX7_oneRecord 15 = .ok (.iload_n 2, 1) := by decide +kernel
theorem dX7_oneRecord_16 : decode cX7_oneRecord 16 = .ok (.bipush 47, 2) := by decide +kernel
theorem dX7_oneRecord_18 : decode cX7_oneRecord 18 = .ok (.if_icmp .ne 4, 3) := by decide +kernel
theorem dX7_oneRecord_21 : decode cX7_oneRecord 21 = .ok (.return_, 1) := by decide +kernel
theorem dX7_oneRecord_22 : decode cX7_oneRecord 22 = .ok (.iload_n 2, 1) := by decide +kernel
theorem dX7_oneRecord_23 : decode cX7_oneRecord 23 = .ok (.bipush 31, 2) := by decide +kernel
theorem dX7_oneRecord_25 : decode cX7_oneRecord 25 = .ok (.if_icmp .ne 31, 3) := by decide +kernel
theorem dX7_oneRecord_28 : decode cX7_oneRecord 28 = .ok (.aload_n 0, 1) := by decide +kernel
theorem dX7_oneRecord_29 : decode cX7_oneRecord 29 = .ok (.iconst 1, 1) := by decide +kernel
theorem dX7_oneRecord_30 : decode cX7_oneRecord 30 = .ok (.putfield 200, 3) := by decide +kernel
theorem dX7_oneRecord_33 : decode cX7_oneRecord 33 = .ok (.aload_n 0, 1) := by decide +kernel
theorem dX7_oneRecord_34 : decode cX7_oneRecord 34 = .ok (.getfield 221, 3) := by decide +kernel
theorem dX7_oneRecord_37 : decode cX7_oneRecord 37 = .ok (.aload_n 0, 1) := by decide +kernel
theorem dX7_oneRecord_38 : decode cX7_oneRecord 38 = .ok (.getfield 215, 3) := by decide +kernel
theorem dX7_oneRecord_41 : decode cX7_oneRecord 41 = .ok (.if_icmp .ge 14, 3) := by decide +kernel
theorem dX7_oneRecord_44 : decode cX7_oneRecord 44 = .ok (.aload_n 0, 1) := by decide +kernel
theorem dX7_oneRecord_45 : decode cX7_oneRecord 45 = .ok (.iconst 4, 1) := by decide +kernel
theorem dX7_oneRecord_46 : decode cX7_oneRecord 46 = .ok (.aload_n 0, 1) := by decide +kernel
theorem dX7_oneRecord_47 : decode cX7_oneRecord 47 = .ok (.getfield 221, 3) := by decide +kernel
theorem dX7_oneRecord_50 : decode cX7_oneRecord 50 = .ok (.invokevirtual 207, 3) := by decide +kernel
theorem dX7_oneRecord_53 : decode cX7_oneRecord 53 = .ok (.istore 4, 2) := by decide +kernel
theorem dX7_oneRecord_55 : decode cX7_oneRecord 55 = .ok (.return_, 1) := by decide +kernel
theorem dX7_oneRecord_56 : decode cX7_oneRecord 56 = .ok (.iload_n 3, 1) := by decide +kernel
theorem dX7_oneRecord_57 : decode cX7_oneRecord 57 = .ok (.bipush 8, 2) := by decide +kernel
theorem dX7_oneRecord_59 : decode cX7_oneRecord 59 = .ok (.if_icmp .eq 15, 3) := by decide +kernel
theorem dX7_oneRecord_62 : decode cX7_oneRecord 62 = .ok (.iload_n 3, 1) := by decide +kernel
theorem dX7_oneRecord_63 : decode cX7_oneRecord 63 = .ok (.bipush 15, 2) := by decide +kernel
theorem dX7_oneRecord_65 : decode cX7_oneRecord 65 = .ok (.if_icmp .ne 19, 3) := by decide +kernel
theorem dX7_oneRecord_68 : decode cX7_oneRecord 68 = .ok (.iload_n 2, 1) := by decide +kernel
theorem dX7_oneRecord_69 : decode cX7_oneRecord 69 = .ok (.bipush 15, 2) := by decide +kernel
theorem dX7_oneRecord_71 : decode cX7_oneRecord 71 = .ok (.if_icmp .eq 13, 3) := by decide +kernel
theorem dX7_oneRecord_74 : decode cX7_oneRecord 74 = .ok (.aload_n 0, 1) := by decide +kernel
theorem dX7_oneRecord_75 : decode cX7_oneRecord 75 = .ok (.bipush 9, 2) := by decide +kernel
theorem dX7_oneRecord_77 : decode cX7_oneRecord 77 = .ok (.iload_n 1, 1) := by decide +kernel
theorem dX7_oneRecord_78 : decode cX7_oneRecord 78 = .ok (.invokevirtual 207, 3) := by decide +kernel
theorem dX7_oneRecord_81 : decode cX7_oneRecord 81 = .ok (.istore 4, 2) := by decide +kernel
theorem dX7_oneRecord_83 : decode cX7_oneRecord 83 = .ok (.return_, 1) := by decide +kernel
theorem dX7_oneRecord_84 : decode cX7_oneRecord 84 = .ok (.aload_n 0, 1) := by decide +kernel
theorem dX7_oneRecord_85 : decode cX7_oneRecord 85 = .ok (.getfield 190, 3) := by decide +kernel
theorem dX7_oneRecord_88 : decode cX7_oneRecord 88 = .ok (.bipush 100, 2) := by decide +kernel
theorem dX7_oneRecord_90 : decode cX7_oneRecord 90 = .ok (.if_icmp .ne 13, 3) := by decide +kernel
theorem dX7_oneRecord_93 : decode cX7_oneRecord 93 = .ok (.aload_n 0, 1) := by decide +kernel
theorem dX7_oneRecord_94 : decode cX7_oneRecord 94 = .ok (.bipush 10, 2) := by decide +kernel
theorem dX7_oneRecord_96 : decode cX7_oneRecord 96 = .ok (.iload_n 1, 1) := by decide +kernel
theorem dX7_oneRecord_97 : decode cX7_oneRecord 97 = .ok (.invokevirtual 207, 3) := by decide +kernel
theorem dX7_oneRecord_100 : decode cX7_oneRecord 100 = .ok (.istore 4, 2) := by decide +kernel
theorem dX7_oneRecord_102 : decode cX7_oneRecord 102 = .ok (.return_, 1) := by decide +kernel
theorem dX7_oneRecord_103 : decode cX7_oneRecord 103 = .ok (.aload_n 0, 1) := by decide +kernel
theorem dX7_oneRecord_104 : decode cX7_oneRecord 104 = .ok (.getfield 60, 3) := by decide +kernel
theorem dX7_oneRecord_107 : decode cX7_oneRecord 107 = .ok (.aload_n 0, 1) := by decide +kernel
theorem dX7_oneRecord_108 : decode cX7_oneRecord 108 = .ok (.getfield 190, 3) := by decide +kernel
theorem dX7_oneRecord_111 : decode cX7_oneRecord 111 = .ok (.iload_n 3, 1) := by decide +kernel
theorem dX7_oneRecord_112 : decode cX7_oneRecord 112 = .ok (.iastore, 1) := by decide +kernel
theorem dX7_oneRecord_113 : decode cX7_oneRecord 113 = .ok (.aload_n 0, 1) := by decide +kernel
theorem dX7_oneRecord_114 : decode cX7_oneRecord 114 = .ok (.getfield 63, 3) := by decide +kernel
theorem dX7_oneRecord_117 : decode cX7_oneRecord 117 = .ok (.aload_n 0, 1) := by decide +kernel
theorem dX7_oneRecord_118 : decode cX7_oneRecord 118 = .ok (.getfield 190, 3) := by decide +kernel
theorem dX7_oneRecord_121 : decode cX7_oneRecord 121 = .ok (.iload_n 2, 1) := by decide +kernel
theorem dX7_oneRecord_122 : decode cX7_oneRecord 122 = .ok (.iconst 4, 1) := by decide +kernel
theorem dX7_oneRecord_123 : decode cX7_oneRecord 123 = .ok (.ishr, 1) := by decide +kernel
theorem dX7_oneRecord_124 : decode cX7_oneRecord 124 = .ok (.iconst 3, 1) := by decide +kernel
theorem dX7_oneRecord_125 : decode cX7_oneRecord 125 = .ok (.iand, 1) := by decide +kernel
theorem dX7_oneRecord_126 : decode cX7_oneRecord 126 = .ok (.iastore, 1) := by decide +kernel
theorem dX7_oneRecord_127 : decode cX7_oneRecord 127 = .ok (.aload_n 0, 1) := by decide +kernel
theorem dX7_oneRecord_128 : decode cX7_oneRecord 128 = .ok (.getfield 66, 3) := by decide +kernel
theorem dX7_oneRecord_131 : decode cX7_oneRecord 131 = .ok (.aload_n 0, 1) := by decide +kernel
theorem dX7_oneRecord_132 : decode cX7_oneRecord 132 = .ok (.getfield 190, 3) := by decide +kernel
theorem dX7_oneRecord_135 : decode cX7_oneRecord 135 = .ok (.iload_n 2, 1) := by decide +kernel
theorem dX7_oneRecord_136 : decode cX7_oneRecord 136 = .ok (.bipush 6, 2) := by decide +kernel
theorem dX7_oneRecord_138 : decode cX7_oneRecord 138 = .ok (.ishr, 1) := by decide +kernel
theorem dX7_oneRecord_139 : decode cX7_oneRecord 139 = .ok (.iconst 1, 1) := by decide +kernel
theorem dX7_oneRecord_140 : decode cX7_oneRecord 140 = .ok (.iand, 1) := by decide +kernel
theorem dX7_oneRecord_141 : decode cX7_oneRecord 141 = .ok (.i2l, 1) := by decide +kernel
theorem dX7_oneRecord_142 : decode cX7_oneRecord 142 = .ok (.lastore, 1) := by decide +kernel
theorem dX7_oneRecord_143 : decode cX7_oneRecord 143 = .ok (.aload_n 0, 1) := by decide +kernel
theorem dX7_oneRecord_144 : decode cX7_oneRecord 144 = .ok (.getfield 69, 3) := by decide +kernel
theorem dX7_oneRecord_147 : decode cX7_oneRecord 147 = .ok (.aload_n 0, 1) := by decide +kernel
theorem dX7_oneRecord_148 : decode cX7_oneRecord 148 = .ok (.getfield 190, 3) := by decide +kernel
theorem dX7_oneRecord_151 : decode cX7_oneRecord 151 = .ok (.iconst 0, 1) := by decide +kernel
theorem dX7_oneRecord_152 : decode cX7_oneRecord 152 = .ok (.iastore, 1) := by decide +kernel
theorem dX7_oneRecord_153 : decode cX7_oneRecord 153 = .ok (.aload_n 0, 1) := by decide +kernel
theorem dX7_oneRecord_154 : decode cX7_oneRecord 154 = .ok (.getfield 72, 3) := by decide +kernel
theorem dX7_oneRecord_157 : decode cX7_oneRecord 157 = .ok (.aload_n 0, 1) := by decide +kernel
theorem dX7_oneRecord_158 : decode cX7_oneRecord 158 = .ok (.getfield 190, 3) := by decide +kernel
theorem dX7_oneRecord_161 : decode cX7_oneRecord 161 = .ok (.iconst 0, 1) := by decide +kernel
theorem dX7_oneRecord_162 : decode cX7_oneRecord 162 = .ok (.iastore, 1) := by decide +kernel
theorem dX7_oneRecord_163 : decode cX7_oneRecord 163 = .ok (.aload_n 0, 1) := by decide +kernel
theorem dX7_oneRecord_164 : decode cX7_oneRecord 164 = .ok (.getfield 75, 3) := by decide +kernel
theorem dX7_oneRecord_167 : decode cX7_oneRecord 167 = .ok (.aload_n 0, 1) := by decide +kernel
theorem dX7_oneRecord_168 : decode cX7_oneRecord 168 = .ok (.getfield 190, 3) := by decide +kernel
theorem dX7_oneRecord_171 : decode cX7_oneRecord 171 = .ok (.iconst 0, 1) := by decide +kernel
theorem dX7_oneRecord_172 : decode cX7_oneRecord 172 = .ok (.iastore, 1) := by decide +kernel
theorem dX7_oneRecord_173 : decode cX7_oneRecord 173 = .ok (.aload_n 0, 1) := by decide +kernel
theorem dX7_oneRecord_174 : decode cX7_oneRecord 174 = .ok (.getfield 84, 3) := by decide +kernel
theorem dX7_oneRecord_177 : decode cX7_oneRecord 177 = .ok (.aload_n 0, 1) := by decide +kernel
theorem dX7_oneRecord_178 : decode cX7_oneRecord 178 = .ok (.getfield 190, 3) := by decide +kernel
theorem dX7_oneRecord_181 : decode cX7_oneRecord 181 = .ok (.iconst 0, 1) := by decide +kernel
theorem dX7_oneRecord_182 : decode cX7_oneRecord 182 = .ok (.iastore, 1) := by decide +kernel
theorem dX7_oneRecord_183 : decode cX7_oneRecord 183 = .ok (.iload_n 3, 1) := by decide +kernel
theorem dX7_oneRecord_184 : decode cX7_oneRecord 184 = .ok (.bipush 15, 2) := by decide +kernel
theorem dX7_oneRecord_186 : decode cX7_oneRecord 186 = .ok (.if_icmp .ne 46, 3) := by decide +kernel
theorem dX7_oneRecord_189 : decode cX7_oneRecord 189 = .ok (.aload_n 0, 1) := by decide +kernel
theorem dX7_oneRecord_190 : decode cX7_oneRecord 190 = .ok (.getfield 56, 3) := by decide +kernel
theorem dX7_oneRecord_193 : decode cX7_oneRecord 193 = .ok (.aload_n 0, 1) := by decide +kernel
theorem dX7_oneRecord_194 : decode cX7_oneRecord 194 = .ok (.getfield 190, 3) := by decide +kernel
theorem dX7_oneRecord_197 : decode cX7_oneRecord 197 = .ok (.aload_n 0, 1) := by decide +kernel
theorem dX7_oneRecord_198 : decode cX7_oneRecord 198 = .ok (.getfield 215, 3) := by decide +kernel
theorem dX7_oneRecord_201 : decode cX7_oneRecord 201 = .ok (.aload_n 0, 1) := by decide +kernel
theorem dX7_oneRecord_202 : decode cX7_oneRecord 202 = .ok (.getfield 221, 3) := by decide +kernel
theorem dX7_oneRecord_205 : decode cX7_oneRecord 205 = .ok (.isub, 1) := by decide +kernel
theorem dX7_oneRecord_206 : decode cX7_oneRecord 206 = .ok (.i2l, 1) := by decide +kernel
theorem dX7_oneRecord_207 : decode cX7_oneRecord 207 = .ok (.lastore, 1) := by decide +kernel
theorem dX7_oneRecord_208 : decode cX7_oneRecord 208 = .ok (.aload_n 0, 1) := by decide +kernel
theorem dX7_oneRecord_209 : decode cX7_oneRecord 209 = .ok (.aload_n 0, 1) := by decide +kernel
theorem dX7_oneRecord_210 : decode cX7_oneRecord 210 = .ok (.getfield 215, 3) := by decide +kernel
theorem dX7_oneRecord_213 : decode cX7_oneRecord 213 = .ok (.aload_n 0, 1) := by decide +kernel
theorem dX7_oneRecord_214 : decode cX7_oneRecord 214 = .ok (.getfield 221, 3) := by decide +kernel
theorem dX7_oneRecord_217 : decode cX7_oneRecord 217 = .ok (.isub, 1) := by decide +kernel
theorem dX7_oneRecord_218 : decode cX7_oneRecord 218 = .ok (.invokevirtual 231, 3) := by decide +kernel
theorem dX7_oneRecord_221 : decode cX7_oneRecord 221 = .ok (.aload_n 0, 1) := by decide +kernel
theorem dX7_oneRecord_222 : decode cX7_oneRecord 222 = .ok (.dup, 1) := by decide +kernel
theorem dX7_oneRecord_223 : decode cX7_oneRecord 223 = .ok (.getfield 190, 3) := by decide +kernel
theorem dX7_oneRecord_226 : decode cX7_oneRecord 226 = .ok (.iconst 1, 1) := by decide +kernel
theorem dX7_oneRecord_227 : decode cX7_oneRecord 227 = .ok (.iadd, 1) := by decide +kernel
theorem dX7_oneRecord_228 : decode cX7_oneRecord 228 = .ok (.putfield 190, 3) := by decide +kernel
theorem dX7_oneRecord_231 : decode cX7_oneRecord 231 = .ok (.return_, 1) := by decide +kernel
theorem dX7_oneRecord_232 : decode cX7_oneRecord 232 = .ok (.iload_n 2, 1) := by decide +kernel
theorem dX7_oneRecord_233 : decode cX7_oneRecord 233 = .ok (.istore 4, 2) := by decide +kernel
theorem dX7_oneRecord_235 : decode cX7_oneRecord 235 = .ok (.iconst 0, 1) := by decide +kernel
theorem dX7_oneRecord_236 : decode cX7_oneRecord 236 = .ok (.istore 5, 2) := by decide +kernel
theorem dX7_oneRecord_238 : decode cX7_oneRecord 238 = .ok (.iload 4, 2) := by decide +kernel
theorem dX7_oneRecord_240 : decode cX7_oneRecord 240 = .ok (.bipush 127, 2) := by decide +kernel
theorem dX7_oneRecord_242 : decode cX7_oneRecord 242 = .ok (.if_icmp .le 127, 3) := by decide +kernel
theorem dX7_oneRecord_245 : decode cX7_oneRecord 245 = .ok (.aload_n 0, 1) := by decide +kernel
theorem dX7_oneRecord_246 : decode cX7_oneRecord 246 = .ok (.getfield 204, 3) := by decide +kernel
theorem dX7_oneRecord_249 : decode cX7_oneRecord 249 = .ok (.ifCond .ne 120, 3) := by decide +kernel
theorem dX7_oneRecord_252 : decode cX7_oneRecord 252 = .ok (.aload_n 0, 1) := by decide +kernel
theorem dX7_oneRecord_253 : decode cX7_oneRecord 253 = .ok (.invokevirtual 227, 3) := by decide +kernel
theorem dX7_oneRecord_256 : decode cX7_oneRecord 256 = .ok (.istore 4, 2) := by decide +kernel
theorem dX7_oneRecord_258 : decode cX7_oneRecord 258 = .ok (.iload 5, 2) := by decide +kernel
theorem dX7_oneRecord_260 : decode cX7_oneRecord 260 = .ok (.bipush 10, 2) := by decide +kernel
theorem dX7_oneRecord_262 : decode cX7_oneRecord 262 = .ok (.if_icmp .ne 23, 3) := by decide +kernel
theorem dX7_oneRecord_265 : decode cX7_oneRecord 265 = .ok (.aload_n 0, 1) := by decide +kernel
theorem dX7_oneRecord_266 : decode cX7_oneRecord 266 = .ok (.getfield 204, 3) := by decide +kernel
theorem dX7_oneRecord_269 : decode cX7_oneRecord 269 = .ok (.ifCond .ne 16, 3) := by decide +kernel
theorem dX7_oneRecord_272 : decode cX7_oneRecord 272 = .ok (.aload_n 0, 1) := by decide +kernel
theorem dX7_oneRecord_273 : decode cX7_oneRecord 273 = .ok (.iconst 5, 1) := by decide +kernel
theorem dX7_oneRecord_274 : decode cX7_oneRecord 274 = .ok (.aload_n 0, 1) := by decide +kernel
theorem dX7_oneRecord_275 : decode cX7_oneRecord 275 = .ok (.getfield 221, 3) := by decide +kernel
theorem dX7_oneRecord_278 : decode cX7_oneRecord 278 = .ok (.iconst 1, 1) := by decide +kernel
theorem dX7_oneRecord_279 : decode cX7_oneRecord 279 = .ok (.isub, 1) := by decide +kernel
theorem dX7_oneRecord_280 : decode cX7_oneRecord 280 = .ok (.invokevirtual 207, 3) := by decide +kernel
theorem dX7_oneRecord_283 : decode cX7_oneRecord 283 = .ok (.istore 6, 2) := by decide +kernel
theorem dX7_oneRecord_285 : decode cX7_oneRecord 285 = .ok (.iload 5, 2) := by decide +kernel
theorem dX7_oneRecord_287 : decode cX7_oneRecord 287 = .ok (.bipush 10, 2) := by decide +kernel
theorem dX7_oneRecord_289 : decode cX7_oneRecord 289 = .ok (.if_icmp .ge 74, 3) := by decide +kernel
theorem dX7_oneRecord_292 : decode cX7_oneRecord 292 = .ok (.aload_n 0, 1) := by decide +kernel
theorem dX7_oneRecord_293 : decode cX7_oneRecord 293 = .ok (.getfield 66, 3) := by decide +kernel
theorem dX7_oneRecord_296 : decode cX7_oneRecord 296 = .ok (.aload_n 0, 1) := by decide +kernel
theorem dX7_oneRecord_297 : decode cX7_oneRecord 297 = .ok (.getfield 190, 3) := by decide +kernel
theorem dX7_oneRecord_300 : decode cX7_oneRecord 300 = .ok (.dup2, 1) := by decide +kernel
theorem dX7_oneRecord_301 : decode cX7_oneRecord 301 = .ok (.laload, 1) := by decide +kernel
theorem dX7_oneRecord_302 : decode cX7_oneRecord 302 = .ok (.iload 4, 2) := by decide +kernel
theorem dX7_oneRecord_304 : decode cX7_oneRecord 304 = .ok (.i2l, 1) := by decide +kernel
theorem dX7_oneRecord_305 : decode cX7_oneRecord 305 = .ok (.ldc2_w 234, 3) := by decide +kernel
theorem dX7_oneRecord_308 : decode cX7_oneRecord 308 = .ok (.land, 1) := by decide +kernel
theorem dX7_oneRecord_309 : decode cX7_oneRecord 309 = .ok (.iconst 1, 1) := by decide +kernel
theorem dX7_oneRecord_310 : decode cX7_oneRecord 310 = .ok (.iconst 4, 1) := by decide +kernel
theorem dX7_oneRecord_311 : decode cX7_oneRecord 311 = .ok (.iload 5, 2) := by decide +kernel
theorem dX7_oneRecord_313 : decode cX7_oneRecord 313 = .ok (.imul, 1) := by decide +kernel
theorem dX7_oneRecord_314 : decode cX7_oneRecord 314 = .ok (.iadd, 1) := by decide +kernel
theorem dX7_oneRecord_315 : decode cX7_oneRecord 315 = .ok (.lshl, 1) := by decide +kernel
theorem dX7_oneRecord_316 : decode cX7_oneRecord 316 = .ok (.lor, 1) := by decide +kernel
theorem dX7_oneRecord_317 : decode cX7_oneRecord 317 = .ok (.lastore, 1) := by decide +kernel
theorem dX7_oneRecord_318 : decode cX7_oneRecord 318 = .ok (.aload_n 0, 1) := by decide +kernel
theorem dX7_oneRecord_319 : decode cX7_oneRecord 319 = .ok (.getfield 69, 3) := by decide +kernel
theorem dX7_oneRecord_322 : decode cX7_oneRecord 322 = .ok (.aload_n 0, 1) := by decide +kernel
theorem dX7_oneRecord_323 : decode cX7_oneRecord 323 = .ok (.getfield 190, 3) := by decide +kernel
theorem dX7_oneRecord_326 : decode cX7_oneRecord 326 = .ok (.dup2, 1) := by decide +kernel
theorem dX7_oneRecord_327 : decode cX7_oneRecord 327 = .ok (.iaload, 1) := by decide +kernel
theorem dX7_oneRecord_328 : decode cX7_oneRecord 328 = .ok (.iload 4, 2) := by decide +kernel
theorem dX7_oneRecord_330 : decode cX7_oneRecord 330 = .ok (.iconst 4, 1) := by decide +kernel
theorem dX7_oneRecord_331 : decode cX7_oneRecord 331 = .ok (.ishr, 1) := by decide +kernel
theorem dX7_oneRecord_332 : decode cX7_oneRecord 332 = .ok (.iconst 3, 1) := by decide +kernel
theorem dX7_oneRecord_333 : decode cX7_oneRecord 333 = .ok (.iand, 1) := by decide +kernel
theorem dX7_oneRecord_334 : decode cX7_oneRecord 334 = .ok (.iconst 2, 1) := by decide +kernel
theorem dX7_oneRecord_335 : decode cX7_oneRecord 335 = .ok (.iload 5, 2) := by decide +kernel
theorem dX7_oneRecord_337 : decode cX7_oneRecord 337 = .ok (.imul, 1) := by decide +kernel
theorem dX7_oneRecord_338 : decode cX7_oneRecord 338 = .ok (.ishl, 1) := by decide +kernel
theorem dX7_oneRecord_339 : decode cX7_oneRecord 339 = .ok (.ior, 1) := by decide +kernel
theorem dX7_oneRecord_340 : decode cX7_oneRecord 340 = .ok (.iastore, 1) := by decide +kernel
theorem dX7_oneRecord_341 : decode cX7_oneRecord 341 = .ok (.aload_n 0, 1) := by decide +kernel
theorem dX7_oneRecord_342 : decode cX7_oneRecord 342 = .ok (.getfield 72, 3) := by decide +kernel
theorem dX7_oneRecord_345 : decode cX7_oneRecord 345 = .ok (.aload_n 0, 1) := by decide +kernel
theorem dX7_oneRecord_346 : decode cX7_oneRecord 346 = .ok (.getfield 190, 3) := by decide +kernel
theorem dX7_oneRecord_349 : decode cX7_oneRecord 349 = .ok (.dup2, 1) := by decide +kernel
theorem dX7_oneRecord_350 : decode cX7_oneRecord 350 = .ok (.iaload, 1) := by decide +kernel
theorem dX7_oneRecord_351 : decode cX7_oneRecord 351 = .ok (.iload 4, 2) := by decide +kernel
theorem dX7_oneRecord_353 : decode cX7_oneRecord 353 = .ok (.bipush 6, 2) := by decide +kernel
theorem dX7_oneRecord_355 : decode cX7_oneRecord 355 = .ok (.ishr, 1) := by decide +kernel
theorem dX7_oneRecord_356 : decode cX7_oneRecord 356 = .ok (.iconst 1, 1) := by decide +kernel
theorem dX7_oneRecord_357 : decode cX7_oneRecord 357 = .ok (.iand, 1) := by decide +kernel
theorem dX7_oneRecord_358 : decode cX7_oneRecord 358 = .ok (.iload 5, 2) := by decide +kernel
theorem dX7_oneRecord_360 : decode cX7_oneRecord 360 = .ok (.ishl, 1) := by decide +kernel
theorem dX7_oneRecord_361 : decode cX7_oneRecord 361 = .ok (.ior, 1) := by decide +kernel
theorem dX7_oneRecord_362 : decode cX7_oneRecord 362 = .ok (.iastore, 1) := by decide +kernel
theorem dX7_oneRecord_363 : decode cX7_oneRecord 363 = .ok (.iinc 5 1, 3) := by decide +kernel
theorem dX7_oneRecord_366 : decode cX7_oneRecord 366 = .ok (.goto (-128), 3) := by decide +kernel
theorem dX7_oneRecord_369 : decode cX7_oneRecord 369 = .ok (.sipush 128, 3) := by decide +kernel
theorem dX7_oneRecord_372 : decode cX7_oneRecord 372 = .ok (.istore 4, 2) := by decide +kernel
theorem dX7_oneRecord_374 : decode cX7_oneRecord 374 = .ok (.iconst 0, 1) := by decide +kernel
theorem dX7_oneRecord_375 : decode cX7_oneRecord 375 = .ok (.istore 5, 2) := by decide +kernel
theorem dX7_oneRecord_377 : decode cX7_oneRecord 377 = .ok (.iload 4, 2) := by decide +kernel
theorem dX7_oneRecord_379 : decode cX7_oneRecord 379 = .ok (.bipush 127, 2) := by decide +kernel
theorem dX7_oneRecord_381 : decode cX7_oneRecord 381 = .ok (.if_icmp .le 94, 3) := by decide +kernel
theorem dX7_oneRecord_384 : decode cX7_oneRecord 384 = .ok (.aload_n 0, 1) := by decide +kernel
theorem dX7_oneRecord_385 : decode cX7_oneRecord 385 = .ok (.getfield 204, 3) := by decide +kernel
theorem dX7_oneRecord_388 : decode cX7_oneRecord 388 = .ok (.ifCond .ne 87, 3) := by decide +kernel
theorem dX7_oneRecord_391 : decode cX7_oneRecord 391 = .ok (.aload_n 0, 1) := by decide +kernel
theorem dX7_oneRecord_392 : decode cX7_oneRecord 392 = .ok (.invokevirtual 227, 3) := by decide +kernel
theorem dX7_oneRecord_395 : decode cX7_oneRecord 395 = .ok (.istore 4, 2) := by decide +kernel
theorem dX7_oneRecord_397 : decode cX7_oneRecord 397 = .ok (.iload 5, 2) := by decide +kernel
theorem dX7_oneRecord_399 : decode cX7_oneRecord 399 = .ok (.bipush 11, 2) := by decide +kernel
theorem dX7_oneRecord_401 : decode cX7_oneRecord 401 = .ok (.if_icmp .ne 24, 3) := by decide +kernel
theorem dX7_oneRecord_404 : decode cX7_oneRecord 404 = .ok (.aload_n 0, 1) := by decide +kernel
theorem dX7_oneRecord_405 : decode cX7_oneRecord 405 = .ok (.getfield 204, 3) := by decide +kernel
theorem dX7_oneRecord_408 : decode cX7_oneRecord 408 = .ok (.ifCond .ne 17, 3) := by decide +kernel
theorem dX7_oneRecord_411 : decode cX7_oneRecord 411 = .ok (.aload_n 0, 1) := by decide +kernel
theorem dX7_oneRecord_412 : decode cX7_oneRecord 412 = .ok (.bipush 6, 2) := by decide +kernel
theorem dX7_oneRecord_414 : decode cX7_oneRecord 414 = .ok (.aload_n 0, 1) := by decide +kernel
theorem dX7_oneRecord_415 : decode cX7_oneRecord 415 = .ok (.getfield 221, 3) := by decide +kernel
theorem dX7_oneRecord_418 : decode cX7_oneRecord 418 = .ok (.iconst 1, 1) := by decide +kernel
theorem dX7_oneRecord_419 : decode cX7_oneRecord 419 = .ok (.isub, 1) := by decide +kernel
theorem dX7_oneRecord_420 : decode cX7_oneRecord 420 = .ok (.invokevirtual 207, 3) := by decide +kernel
theorem dX7_oneRecord_423 : decode cX7_oneRecord 423 = .ok (.istore 6, 2) := by decide +kernel
theorem dX7_oneRecord_425 : decode cX7_oneRecord 425 = .ok (.iload 5, 2) := by decide +kernel
theorem dX7_oneRecord_427 : decode cX7_oneRecord 427 = .ok (.bipush 11, 2) := by decide +kernel
theorem dX7_oneRecord_429 : decode cX7_oneRecord 429 = .ok (.if_icmp .ge 40, 3) := by decide +kernel
theorem dX7_oneRecord_432 : decode cX7_oneRecord 432 = .ok (.aload_n 0, 1) := by decide +kernel
theorem dX7_oneRecord_433 : decode cX7_oneRecord 433 = .ok (.getfield 204, 3) := by decide +kernel
theorem dX7_oneRecord_436 : decode cX7_oneRecord 436 = .ok (.ifCond .ne 33, 3) := by decide +kernel
theorem dX7_oneRecord_439 : decode cX7_oneRecord 439 = .ok (.aload_n 0, 1) := by decide +kernel
theorem dX7_oneRecord_440 : decode cX7_oneRecord 440 = .ok (.getfield 78, 3) := by decide +kernel
theorem dX7_oneRecord_443 : decode cX7_oneRecord 443 = .ok (.bipush 11, 2) := by decide +kernel
theorem dX7_oneRecord_445 : decode cX7_oneRecord 445 = .ok (.aload_n 0, 1) := by decide +kernel
theorem dX7_oneRecord_446 : decode cX7_oneRecord 446 = .ok (.getfield 190, 3) := by decide +kernel
theorem dX7_oneRecord_449 : decode cX7_oneRecord 449 = .ok (.imul, 1) := by decide +kernel
theorem dX7_oneRecord_450 : decode cX7_oneRecord 450 = .ok (.iload 5, 2) := by decide +kernel
theorem dX7_oneRecord_452 : decode cX7_oneRecord 452 = .ok (.iadd, 1) := by decide +kernel
theorem dX7_oneRecord_453 : decode cX7_oneRecord 453 = .ok (.iload 4, 2) := by decide +kernel
theorem dX7_oneRecord_455 : decode cX7_oneRecord 455 = .ok (.iastore, 1) := by decide +kernel
theorem dX7_oneRecord_456 : decode cX7_oneRecord 456 = .ok (.aload_n 0, 1) := by decide +kernel
theorem dX7_oneRecord_457 : decode cX7_oneRecord 457 = .ok (.getfield 75, 3) := by decide +kernel
theorem dX7_oneRecord_460 : decode cX7_oneRecord 460 = .ok (.aload_n 0, 1) := by decide +kernel
theorem dX7_oneRecord_461 : decode cX7_oneRecord 461 = .ok (.getfield 190, 3) := by decide +kernel
theorem dX7_oneRecord_464 : decode cX7_oneRecord 464 = .ok (.dup2, 1) := by decide +kernel
theorem dX7_oneRecord_465 : decode cX7_oneRecord 465 = .ok (.iaload, 1) := by decide +kernel
theorem dX7_oneRecord_466 : decode cX7_oneRecord 466 = .ok (.iconst 1, 1) := by decide +kernel
theorem dX7_oneRecord_467 : decode cX7_oneRecord 467 = .ok (.iadd, 1) := by decide +kernel
theorem dX7_oneRecord_468 : decode cX7_oneRecord 468 = .ok (.iastore, 1) := by decide +kernel
theorem dX7_oneRecord_469 : decode cX7_oneRecord 469 = .ok (.iinc 5 1, 3) := by decide +kernel
theorem dX7_oneRecord_472 : decode cX7_oneRecord 472 = .ok (.goto (-95), 3) := by decide +kernel
theorem dX7_oneRecord_475 : decode cX7_oneRecord 475 = .ok (.aload_n 0, 1) := by decide +kernel
theorem dX7_oneRecord_476 : decode cX7_oneRecord 476 = .ok (.getfield 204, 3) := by decide +kernel
theorem dX7_oneRecord_479 : decode cX7_oneRecord 479 = .ok (.ifCond .ne 8, 3) := by decide +kernel
theorem dX7_oneRecord_482 : decode cX7_oneRecord 482 = .ok (.aload_n 0, 1) := by decide +kernel
theorem dX7_oneRecord_483 : decode cX7_oneRecord 483 = .ok (.iload_n 3, 1) := by decide +kernel
theorem dX7_oneRecord_484 : decode cX7_oneRecord 484 = .ok (.invokevirtual 236, 3) := by decide +kernel
theorem dX7_oneRecord_487 : decode cX7_oneRecord 487 = .ok (.aload_n 0, 1) := by decide +kernel
theorem dX7_oneRecord_488 : decode cX7_oneRecord 488 = .ok (.dup, 1) := by decide +kernel
theorem dX7_oneRecord_489 : decode cX7_oneRecord 489 = .ok (.getfield 190, 3) := by decide +kernel
theorem dX7_oneRecord_492 : decode cX7_oneRecord 492 = .ok (.aload_n 0, 1) := by decide +kernel
theorem dX7_oneRecord_493 : decode cX7_oneRecord 493 = .ok (.getfield 204, 3) := by decide +kernel
theorem dX7_oneRecord_496 : decode cX7_oneRecord 496 = .ok (.ifCond .ne 7, 3) := by decide +kernel
theorem dX7_oneRecord_499 : decode cX7_oneRecord 499 = .ok (.iconst 1, 1) := by decide +kernel
theorem dX7_oneRecord_500 : decode cX7_oneRecord 500 = .ok (.goto 4, 3) := by decide +kernel
theorem dX7_oneRecord_503 : decode cX7_oneRecord 503 = .ok (.iconst 0, 1) := by decide +kernel
theorem dX7_oneRecord_504 : decode cX7_oneRecord 504 = .ok (.iadd, 1) := by decide +kernel
theorem dX7_oneRecord_505 : decode cX7_oneRecord 505 = .ok (.putfield 190, 3) := by decide +kernel
theorem dX7_oneRecord_508 : decode cX7_oneRecord 508 = .ok (.return_, 1) := by decide +kernel
theorem dX7_has_0 : decode cX7_has 0 = .ok (.aload_n 0, 1) := by decide +kernel
theorem dX7_has_1 : decode cX7_has 1 = .ok (.getfield 215, 3) := by decide +kernel
theorem dX7_has_4 : decode cX7_has 4 = .ok (.aload_n 0, 1) := by decide +kernel
theorem dX7_has_5 : decode cX7_has 5 = .ok (.getfield 221, 3) := by decide +kernel
theorem dX7_has_8 : decode cX7_has 8 = .ok (.isub, 1) := by decide +kernel
theorem dX7_has_9 : decode cX7_has 9 = .ok (.iload_n 1, 1) := by decide +kernel
theorem dX7_has_10 : decode cX7_has 10 = .ok (.if_icmp .ge 15, 3) := by decide +kernel
theorem dX7_has_13 : decode cX7_has 13 = .ok (.aload_n 0, 1) := by decide +kernel
theorem dX7_has_14 : decode cX7_has 14 = .ok (.iconst 4, 1) := by decide +kernel
theorem dX7_has_15 : decode cX7_has 15 = .ok (.aload_n 0, 1) := by decide +kernel
theorem dX7_has_16 : decode cX7_has 16 = .ok (.getfield 215, 3) := by decide +kernel
theorem dX7_has_19 : decode cX7_has 19 = .ok (.invokevirtual 207, 3) := by decide +kernel
theorem dX7_has_22 : decode cX7_has 22 = .ok (.istore_n 2, 1) := by decide +kernel
theorem dX7_has_23 : decode cX7_has 23 = .ok (.iconst 0, 1) := by decide +kernel
theorem dX7_has_24 : decode cX7_has 24 = .ok (.ireturn, 1) := by decide +kernel
theorem dX7_has_25 : decode cX7_has 25 = .ok (.iconst 1, 1) := by decide +kernel
theorem dX7_has_26 : decode cX7_has 26 = .ok (.ireturn, 1) := by decide +kernel
theorem dX7_textTo_0 : decode cX7_textTo 0 = .ok (.aload_n 0, 1) := by decide +kernel
theorem dX7_textTo_1 : decode cX7_textTo 1 = .ok (.getfield 81, 3) := by decide +kernel
theorem dX7_textTo_4 : decode cX7_textTo 4 = .ok (.aload_n 0, 1) := by decide +kernel
theorem dX7_textTo_5 : decode cX7_textTo 5 = .ok (.getfield 190, 3) := by decide +kernel
theorem dX7_textTo_8 : decode cX7_textTo 8 = .ok (.aload_n 0, 1) := by decide +kernel
theorem dX7_textTo_9 : decode cX7_textTo 9 = .ok (.getfield 193, 3) := by decide +kernel
theorem dX7_textTo_12 : decode cX7_textTo 12 = .ok (.iastore, 1) := by decide +kernel
theorem dX7_textTo_13 : decode cX7_textTo 13 = .ok (.aload_n 0, 1) := by decide +kernel
theorem dX7_textTo_14 : decode cX7_textTo 14 = .ok (.getfield 84, 3) := by decide +kernel
theorem dX7_textTo_17 : decode cX7_textTo 17 = .ok (.aload_n 0, 1) := by decide +kernel
theorem dX7_textTo_18 : decode cX7_textTo 18 = .ok (.getfield 190, 3) := by decide +kernel
theorem dX7_textTo_21 : decode cX7_textTo 21 = .ok (.iload_n 1, 1) := by decide +kernel
theorem dX7_textTo_22 : decode cX7_textTo 22 = .ok (.iastore, 1) := by decide +kernel
theorem dX7_textTo_23 : decode cX7_textTo 23 = .ok (.iconst 0, 1) := by decide +kernel
theorem dX7_textTo_24 : decode cX7_textTo 24 = .ok (.istore_n 2, 1) := by decide +kernel
theorem dX7_textTo_25 : decode cX7_textTo 25 = .ok (.iload_n 2, 1) := by decide +kernel
theorem dX7_textTo_26 : decode cX7_textTo 26 = .ok (.iload_n 1, 1) := by decide +kernel
theorem dX7_textTo_27 : decode cX7_textTo 27 = .ok (.if_icmp .ge 47, 3) := by decide +kernel
theorem dX7_textTo_30 : decode cX7_textTo 30 = .ok (.aload_n 0, 1) := by decide +kernel
theorem dX7_textTo_31 : decode cX7_textTo 31 = .ok (.getfield 87, 3) := by decide +kernel
theorem dX7_textTo_34 : decode cX7_textTo 34 = .ok (.aload_n 0, 1) := by decide +kernel
theorem dX7_textTo_35 : decode cX7_textTo 35 = .ok (.getfield 193, 3) := by decide +kernel
theorem dX7_textTo_38 : decode cX7_textTo 38 = .ok (.aload_n 0, 1) := by decide +kernel
theorem dX7_textTo_39 : decode cX7_textTo 39 = .ok (.getfield 94, 3) := by decide +kernel
theorem dX7_textTo_42 : decode cX7_textTo 42 = .ok (.aload_n 0, 1) := by decide +kernel
theorem dX7_textTo_43 : decode cX7_textTo 43 = .ok (.getfield 221, 3) := by decide +kernel
theorem dX7_textTo_46 : decode cX7_textTo 46 = .ok (.iaload, 1) := by decide +kernel
theorem dX7_textTo_47 : decode cX7_textTo 47 = .ok (.iastore, 1) := by decide +kernel
theorem dX7_textTo_48 : decode cX7_textTo 48 = .ok (.aload_n 0, 1) := by decide +kernel
theorem dX7_textTo_49 : decode cX7_textTo 49 = .ok (.dup, 1) := by decide +kernel
theorem dX7_textTo_50 : decode cX7_textTo 50 = .ok (.getfield 193, 3) := by decide +kernel
theorem dX7_textTo_53 : decode cX7_textTo 53 = .ok (.iconst 1, 1) := by decide +kernel
theorem dX7_textTo_54 : decode cX7_textTo 54 = .ok (.iadd, 1) := by decide +kernel
theorem dX7_textTo_55 : decode cX7_textTo 55 = .ok (.putfield 193, 3) := by decide +kernel
theorem dX7_textTo_58 : decode cX7_textTo 58 = .ok (.aload_n 0, 1) := by decide +kernel
theorem dX7_textTo_59 : decode cX7_textTo 59 = .ok (.dup, 1) := by decide +kernel
theorem dX7_textTo_60 : decode cX7_textTo 60 = .ok (.getfield 221, 3) := by decide +kernel
theorem dX7_textTo_63 : decode cX7_textTo 63 = .ok (.iconst 1, 1) := by decide +kernel
theorem dX7_textTo_64 : decode cX7_textTo 64 = .ok (.iadd, 1) := by decide +kernel
theorem dX7_textTo_65 : decode cX7_textTo 65 = .ok (.putfield 221, 3) := by decide +kernel
theorem dX7_textTo_68 : decode cX7_textTo 68 = .ok (.iinc 2 1, 3) := by decide +kernel
theorem dX7_textTo_71 : decode cX7_textTo 71 = .ok (.goto (-46), 3) := by decide +kernel
theorem dX7_textTo_74 : decode cX7_textTo 74 = .ok (.return_, 1) := by decide +kernel
theorem dX7_whole_0 : decode cX7_whole 0 = .ok (.iload_n 1, 1) := by decide +kernel
theorem dX7_whole_1 : decode cX7_whole 1 = .ok (.ifCond .le 27, 3) := by decide +kernel
theorem dX7_whole_4 : decode cX7_whole 4 = .ok (.aload_n 0, 1) := by decide +kernel
theorem dX7_whole_5 : decode cX7_whole 5 = .ok (.getfield 94, 3) := by decide +kernel
theorem dX7_whole_8 : decode cX7_whole 8 = .ok (.aload_n 0, 1) := by decide +kernel
theorem dX7_whole_9 : decode cX7_whole 9 = .ok (.getfield 221, 3) := by decide +kernel
theorem dX7_whole_12 : decode cX7_whole 12 = .ok (.iload_n 1, 1) := by decide +kernel
theorem dX7_whole_13 : decode cX7_whole 13 = .ok (.iadd, 1) := by decide +kernel
theorem dX7_whole_14 : decode cX7_whole 14 = .ok (.iconst 1, 1) := by decide +kernel
theorem dX7_whole_15 : decode cX7_whole 15 = .ok (.isub, 1) := by decide +kernel
theorem dX7_whole_16 : decode cX7_whole 16 = .ok (.iaload, 1) := by decide +kernel
theorem dX7_whole_17 : decode cX7_whole 17 = .ok (.bipush 127, 2) := by decide +kernel
theorem dX7_whole_19 : decode cX7_whole 19 = .ok (.if_icmp .le 9, 3) := by decide +kernel
theorem dX7_whole_22 : decode cX7_whole 22 = .ok (.ldc2_w 239, 3) := by decide +kernel
theorem dX7_whole_25 : decode cX7_whole 25 = .ok (.goto 4, 3) := by decide +kernel
theorem dX7_whole_28 : decode cX7_whole 28 = .ok (.lconst 0, 1) := by decide +kernel
theorem dX7_whole_29 : decode cX7_whole 29 = .ok (.lstore_n 2, 1) := by decide +kernel
theorem dX7_whole_30 : decode cX7_whole 30 = .ok (.iload_n 1, 1) := by decide +kernel
theorem dX7_whole_31 : decode cX7_whole 31 = .ok (.iconst 1, 1) := by decide +kernel
theorem dX7_whole_32 : decode cX7_whole 32 = .ok (.isub, 1) := by decide +kernel
theorem dX7_whole_33 : decode cX7_whole 33 = .ok (.istore 4, 2) := by decide +kernel
theorem dX7_whole_35 : decode cX7_whole 35 = .ok (.iload 4, 2) := by decide +kernel
theorem dX7_whole_37 : decode cX7_whole 37 = .ok (.ifCond .lt 28, 3) := by decide +kernel
theorem dX7_whole_40 : decode cX7_whole 40 = .ok (.lload_n 2, 1) := by decide +kernel
theorem dX7_whole_41 : decode cX7_whole 41 = .ok (.bipush 8, 2) := by decide +kernel
theorem dX7_whole_43 : decode cX7_whole 43 = .ok (.lshl, 1) := by decide +kernel
theorem dX7_whole_44 : decode cX7_whole 44 = .ok (.aload_n 0, 1) := by decide +kernel
theorem dX7_whole_45 : decode cX7_whole 45 = .ok (.getfield 94, 3) := by decide +kernel
theorem dX7_whole_48 : decode cX7_whole 48 = .ok (.aload_n 0, 1) := by decide +kernel
theorem dX7_whole_49 : decode cX7_whole 49 = .ok (.getfield 221, 3) := by decide +kernel
theorem dX7_whole_52 : decode cX7_whole 52 = .ok (.iload 4, 2) := by decide +kernel
theorem dX7_whole_54 : decode cX7_whole 54 = .ok (.iadd, 1) := by decide +kernel
theorem dX7_whole_55 : decode cX7_whole 55 = .ok (.iaload, 1) := by decide +kernel
theorem dX7_whole_56 : decode cX7_whole 56 = .ok (.i2l, 1) := by decide +kernel
theorem dX7_whole_57 : decode cX7_whole 57 = .ok (.lor, 1) := by decide +kernel
theorem dX7_whole_58 : decode cX7_whole 58 = .ok (.lstore_n 2, 1) := by decide +kernel
theorem dX7_whole_59 : decode cX7_whole 59 = .ok (.iinc 4 (-1), 3) := by decide +kernel
theorem dX7_whole_62 : decode cX7_whole 62 = .ok (.goto (-27), 3) := by decide +kernel
theorem dX7_whole_65 : decode cX7_whole 65 = .ok (.aload_n 0, 1) := by decide +kernel
theorem dX7_whole_66 : decode cX7_whole 66 = .ok (.dup, 1) := by decide +kernel
theorem dX7_whole_67 : decode cX7_whole 67 = .ok (.getfield 221, 3) := by decide +kernel
theorem dX7_whole_70 : decode cX7_whole 70 = .ok (.iload_n 1, 1) := by decide +kernel
theorem dX7_whole_71 : decode cX7_whole 71 = .ok (.iadd, 1) := by decide +kernel
theorem dX7_whole_72 : decode cX7_whole 72 = .ok (.putfield 221, 3) := by decide +kernel
theorem dX7_whole_75 : decode cX7_whole 75 = .ok (.lload_n 2, 1) := by decide +kernel
theorem dX7_whole_76 : decode cX7_whole 76 = .ok (.lreturn, 1) := by decide +kernel
theorem dX7_digits_0 : decode cX7_digits 0 = .ok (.iload_n 2, 1) := by decide +kernel
theorem dX7_digits_1 : decode cX7_digits 1 = .ok (.ifCond .eq 31, 3) := by decide +kernel
theorem dX7_digits_4 : decode cX7_digits 4 = .ok (.iload_n 1, 1) := by decide +kernel
theorem dX7_digits_5 : decode cX7_digits 5 = .ok (.ifCond .le 27, 3) := by decide +kernel
theorem dX7_digits_8 : decode cX7_digits 8 = .ok (.aload_n 0, 1) := by decide +kernel
theorem dX7_digits_9 : decode cX7_digits 9 = .ok (.getfield 94, 3) := by decide +kernel
theorem dX7_digits_12 : decode cX7_digits 12 = .ok (.aload_n 0, 1) := by decide +kernel
theorem dX7_digits_13 : decode cX7_digits 13 = .ok (.getfield 221, 3) := by decide +kernel
theorem dX7_digits_16 : decode cX7_digits 16 = .ok (.iload_n 1, 1) := by decide +kernel
theorem dX7_digits_17 : decode cX7_digits 17 = .ok (.iadd, 1) := by decide +kernel
theorem dX7_digits_18 : decode cX7_digits 18 = .ok (.iconst 1, 1) := by decide +kernel
theorem dX7_digits_19 : decode cX7_digits 19 = .ok (.isub, 1) := by decide +kernel
theorem dX7_digits_20 : decode cX7_digits 20 = .ok (.iaload, 1) := by decide +kernel
theorem dX7_digits_21 : decode cX7_digits 21 = .ok (.iconst 4, 1) := by decide +kernel
theorem dX7_digits_22 : decode cX7_digits 22 = .ok (.ishr, 1) := by decide +kernel
theorem dX7_digits_23 : decode cX7_digits 23 = .ok (.bipush 15, 2) := by decide +kernel
theorem dX7_digits_25 : decode cX7_digits 25 = .ok (.if_icmp .ne 7, 3) := by decide +kernel
theorem dX7_digits_28 : decode cX7_digits 28 = .ok (.iconst 1, 1) := by decide +kernel
theorem dX7_digits_29 : decode cX7_digits 29 = .ok (.goto 4, 3) := by decide +kernel
theorem dX7_digits_32 : decode cX7_digits 32 = .ok (.iconst 0, 1) := by decide +kernel
theorem dX7_digits_33 : decode cX7_digits 33 = .ok (.istore_n 3, 1) := by decide +kernel
theorem dX7_digits_34 : decode cX7_digits 34 = .ok (.iconst 0, 1) := by decide +kernel
theorem dX7_digits_35 : decode cX7_digits 35 = .ok (.istore 4, 2) := by decide +kernel
theorem dX7_digits_37 : decode cX7_digits 37 = .ok (.iload 4, 2) := by decide +kernel
theorem dX7_digits_39 : decode cX7_digits 39 = .ok (.iload_n 1, 1) := by decide +kernel
theorem dX7_digits_40 : decode cX7_digits 40 = .ok (.if_icmp .ge 94, 3) := by decide +kernel
theorem dX7_digits_43 : decode cX7_digits 43 = .ok (.iload_n 3, 1) := by decide +kernel
theorem dX7_digits_44 : decode cX7_digits 44 = .ok (.ifCond .eq 15, 3) := by decide +kernel
theorem dX7_digits_47 : decode cX7_digits 47 = .ok (.iload 4, 2) := by decide +kernel
theorem dX7_digits_49 : decode cX7_digits 49 = .ok (.iload_n 1, 1) := by decide +kernel
theorem dX7_digits_50 : decode cX7_digits 50 = .ok (.iconst 1, 1) := by decide +kernel
theorem dX7_digits_51 : decode cX7_digits 51 = .ok (.isub, 1) := by decide +kernel
theorem dX7_digits_52 : decode cX7_digits 52 = .ok (.if_icmp .ne 7, 3) := by decide +kernel
theorem dX7_digits_55 : decode cX7_digits 55 = .ok (.iconst 1, 1) := by decide +kernel
theorem dX7_digits_56 : decode cX7_digits 56 = .ok (.goto 4, 3) := by decide +kernel
theorem dX7_digits_59 : decode cX7_digits 59 = .ok (.iconst 0, 1) := by decide +kernel
theorem dX7_digits_60 : decode cX7_digits 60 = .ok (.istore 5, 2) := by decide +kernel
theorem dX7_digits_62 : decode cX7_digits 62 = .ok (.aload_n 0, 1) := by decide +kernel
theorem dX7_digits_63 : decode cX7_digits 63 = .ok (.getfield 94, 3) := by decide +kernel
theorem dX7_digits_66 : decode cX7_digits 66 = .ok (.aload_n 0, 1) := by decide +kernel
theorem dX7_digits_67 : decode cX7_digits 67 = .ok (.getfield 221, 3) := by decide +kernel
theorem dX7_digits_70 : decode cX7_digits 70 = .ok (.iload 4, 2) := by decide +kernel
theorem dX7_digits_72 : decode cX7_digits 72 = .ok (.iadd, 1) := by decide +kernel
theorem dX7_digits_73 : decode cX7_digits 73 = .ok (.iaload, 1) := by decide +kernel
theorem dX7_digits_74 : decode cX7_digits 74 = .ok (.bipush 15, 2) := by decide +kernel
theorem dX7_digits_76 : decode cX7_digits 76 = .ok (.iand, 1) := by decide +kernel
theorem dX7_digits_77 : decode cX7_digits 77 = .ok (.bipush 9, 2) := by decide +kernel
theorem dX7_digits_79 : decode cX7_digits 79 = .ok (.if_icmp .gt 27, 3) := by decide +kernel
theorem dX7_digits_82 : decode cX7_digits 82 = .ok (.iload 5, 2) := by decide +kernel
theorem dX7_digits_84 : decode cX7_digits 84 = .ok (.ifCond .ne 44, 3) := by decide +kernel
theorem dX7_digits_87 : decode cX7_digits 87 = .ok (.aload_n 0, 1) := by decide +kernel
theorem dX7_digits_88 : decode cX7_digits 88 = .ok (.getfield 94, 3) := by decide +kernel
theorem dX7_digits_91 : decode cX7_digits 91 = .ok (.aload_n 0, 1) := by decide +kernel
theorem dX7_digits_92 : decode cX7_digits 92 = .ok (.getfield 221, 3) := by decide +kernel
theorem dX7_digits_95 : decode cX7_digits 95 = .ok (.iload 4, 2) := by decide +kernel
theorem dX7_digits_97 : decode cX7_digits 97 = .ok (.iadd, 1) := by decide +kernel
theorem dX7_digits_98 : decode cX7_digits 98 = .ok (.iaload, 1) := by decide +kernel
theorem dX7_digits_99 : decode cX7_digits 99 = .ok (.iconst 4, 1) := by decide +kernel
theorem dX7_digits_100 : decode cX7_digits 100 = .ok (.ishr, 1) := by decide +kernel
theorem dX7_digits_101 : decode cX7_digits 101 = .ok (.bipush 9, 2) := by decide +kernel
theorem dX7_digits_103 : decode cX7_digits 103 = .ok (.if_icmp .le 25, 3) := by decide +kernel
theorem dX7_digits_106 : decode cX7_digits 106 = .ok (.aload_n 0, 1) := by decide +kernel
theorem dX7_digits_107 : decode cX7_digits 107 = .ok (.getfield 204, 3) := by decide +kernel
theorem dX7_digits_110 : decode cX7_digits 110 = .ok (.ifCond .ne 18, 3) := by decide +kernel
theorem dX7_digits_113 : decode cX7_digits 113 = .ok (.aload_n 0, 1) := by decide +kernel
theorem dX7_digits_114 : decode cX7_digits 114 = .ok (.bipush 7, 2) := by decide +kernel
theorem dX7_digits_116 : decode cX7_digits 116 = .ok (.aload_n 0, 1) := by decide +kernel
theorem dX7_digits_117 : decode cX7_digits 117 = .ok (.getfield 221, 3) := by decide +kernel
theorem dX7_digits_120 : decode cX7_digits 120 = .ok (.iload 4, 2) := by decide +kernel
theorem dX7_digits_122 : decode cX7_digits 122 = .ok (.iadd, 1) := by decide +kernel
theorem dX7_digits_123 : decode cX7_digits 123 = .ok (.invokevirtual 207, 3) := by decide +kernel
theorem dX7_digits_126 : decode cX7_digits 126 = .ok (.istore 6, 2) := by decide +kernel
theorem dX7_digits_128 : decode cX7_digits 128 = .ok (.iinc 4 1, 3) := by decide +kernel
theorem dX7_digits_131 : decode cX7_digits 131 = .ok (.goto (-94), 3) := by decide +kernel
theorem dX7_digits_134 : decode cX7_digits 134 = .ok (.lconst 0, 1) := by decide +kernel
theorem dX7_digits_135 : decode cX7_digits 135 = .ok (.lstore 4, 2) := by decide +kernel
theorem dX7_digits_137 : decode cX7_digits 137 = .ok (.iload_n 1, 1) := by decide +kernel
theorem dX7_digits_138 : decode cX7_digits 138 = .ok (.iconst 1, 1) := by decide +kernel
theorem dX7_digits_139 : decode cX7_digits 139 = .ok (.isub, 1) := by decide +kernel
theorem dX7_digits_140 : decode cX7_digits 140 = .ok (.istore 6, 2) := by decide +kernel
theorem dX7_digits_142 : decode cX7_digits 142 = .ok (.iload 6, 2) := by decide +kernel
theorem dX7_digits_144 : decode cX7_digits 144 = .ok (.ifCond .lt 81, 3) := by decide +kernel
theorem dX7_digits_147 : decode cX7_digits 147 = .ok (.iload_n 3, 1) := by decide +kernel
theorem dX7_digits_148 : decode cX7_digits 148 = .ok (.ifCond .eq 15, 3) := by decide +kernel
theorem dX7_digits_151 : decode cX7_digits 151 = .ok (.iload 6, 2) := by decide +kernel
theorem dX7_digits_153 : decode cX7_digits 153 = .ok (.iload_n 1, 1) := by decide +kernel
theorem dX7_digits_154 : decode cX7_digits 154 = .ok (.iconst 1, 1) := by decide +kernel
theorem dX7_digits_155 : decode cX7_digits 155 = .ok (.isub, 1) := by decide +kernel
theorem dX7_digits_156 : decode cX7_digits 156 = .ok (.if_icmp .ne 7, 3) := by decide +kernel
theorem dX7_digits_159 : decode cX7_digits 159 = .ok (.iconst 1, 1) := by decide +kernel
theorem dX7_digits_160 : decode cX7_digits 160 = .ok (.goto 4, 3) := by decide +kernel
theorem dX7_digits_163 : decode cX7_digits 163 = .ok (.iconst 0, 1) := by decide +kernel
theorem dX7_digits_164 : decode cX7_digits 164 = .ok (.istore 7, 2) := by decide +kernel
theorem dX7_digits_166 : decode cX7_digits 166 = .ok (.ldc2_w 241, 3) := by decide +kernel
theorem dX7_digits_169 : decode cX7_digits 169 = .ok (.lload 4, 2) := by decide +kernel
theorem dX7_digits_171 : decode cX7_digits 171 = .ok (.lmul, 1) := by decide +kernel
theorem dX7_digits_172 : decode cX7_digits 172 = .ok (.iload 7, 2) := by decide +kernel
theorem dX7_digits_174 : decode cX7_digits 174 = .ok (.ifCond .eq 7, 3) := by decide +kernel
theorem dX7_digits_177 : decode cX7_digits 177 = .ok (.iconst 0, 1) := by decide +kernel
theorem dX7_digits_178 : decode cX7_digits 178 = .ok (.goto 20, 3) := by decide +kernel
theorem dX7_digits_181 : decode cX7_digits 181 = .ok (.bipush 10, 2) := by decide +kernel
theorem dX7_digits_183 : decode cX7_digits 183 = .ok (.aload_n 0, 1) := by decide +kernel
theorem dX7_digits_184 : decode cX7_digits 184 = .ok (.getfield 94, 3) := by decide +kernel
theorem dX7_digits_187 : decode cX7_digits 187 = .ok (.aload_n 0, 1) := by decide +kernel
theorem dX7_digits_188 : decode cX7_digits 188 = .ok (.getfield 221, 3) := by decide +kernel
theorem dX7_digits_191 : decode cX7_digits 191 = .ok (.iload 6, 2) := by decide +kernel
theorem dX7_digits_193 : decode cX7_digits 193 = .ok (.iadd, 1) := by decide +kernel
theorem dX7_digits_194 : decode cX7_digits 194 = .ok (.iaload, 1) := by decide +kernel
theorem dX7_digits_195 : decode cX7_digits 195 = .ok (.iconst 4, 1) := by decide +kernel
theorem dX7_digits_196 : decode cX7_digits 196 = .ok (.ishr, 1) := by decide +kernel
theorem dX7_digits_197 : decode cX7_digits 197 = .ok (.imul, 1) := by decide +kernel
theorem dX7_digits_198 : decode cX7_digits 198 = .ok (.i2l, 1) := by decide +kernel
theorem dX7_digits_199 : decode cX7_digits 199 = .ok (.ladd, 1) := by decide +kernel
theorem dX7_digits_200 : decode cX7_digits 200 = .ok (.aload_n 0, 1) := by decide +kernel
theorem dX7_digits_201 : decode cX7_digits 201 = .ok (.getfield 94, 3) := by decide +kernel
theorem dX7_digits_204 : decode cX7_digits 204 = .ok (.aload_n 0, 1) := by decide +kernel
theorem dX7_digits_205 : decode cX7_digits 205 = .ok (.getfield 221, 3) := by decide +kernel
theorem dX7_digits_208 : decode cX7_digits 208 = .ok (.iload 6, 2) := by decide +kernel
theorem dX7_digits_210 : decode cX7_digits 210 = .ok (.iadd, 1) := by decide +kernel
theorem dX7_digits_211 : decode cX7_digits 211 = .ok (.iaload, 1) := by decide +kernel
theorem dX7_digits_212 : decode cX7_digits 212 = .ok (.bipush 15, 2) := by decide +kernel
theorem dX7_digits_214 : decode cX7_digits 214 = .ok (.iand, 1) := by decide +kernel
theorem dX7_digits_215 : decode cX7_digits 215 = .ok (.i2l, 1) := by decide +kernel
theorem dX7_digits_216 : decode cX7_digits 216 = .ok (.ladd, 1) := by decide +kernel
theorem dX7_digits_217 : decode cX7_digits 217 = .ok (.lstore 4, 2) := by decide +kernel
theorem dX7_digits_219 : decode cX7_digits 219 = .ok (.iinc 6 (-1), 3) := by decide +kernel
theorem dX7_digits_222 : decode cX7_digits 222 = .ok (.goto (-80), 3) := by decide +kernel
theorem dX7_digits_225 : decode cX7_digits 225 = .ok (.aload_n 0, 1) := by decide +kernel
theorem dX7_digits_226 : decode cX7_digits 226 = .ok (.dup, 1) := by decide +kernel
theorem dX7_digits_227 : decode cX7_digits 227 = .ok (.getfield 221, 3) := by decide +kernel
theorem dX7_digits_230 : decode cX7_digits 230 = .ok (.iload_n 1, 1) := by decide +kernel
theorem dX7_digits_231 : decode cX7_digits 231 = .ok (.iadd, 1) := by decide +kernel
theorem dX7_digits_232 : decode cX7_digits 232 = .ok (.putfield 221, 3) := by decide +kernel
theorem dX7_digits_235 : decode cX7_digits 235 = .ok (.iload_n 3, 1) := by decide +kernel
theorem dX7_digits_236 : decode cX7_digits 236 = .ok (.ifCond .eq 9, 3) := by decide +kernel
theorem dX7_digits_239 : decode cX7_digits 239 = .ok (.lload 4, 2) := by decide +kernel
theorem dX7_digits_241 : decode cX7_digits 241 = .ok (.lneg, 1) := by decide +kernel
theorem dX7_digits_242 : decode cX7_digits 242 = .ok (.goto 5, 3) := by decide +kernel
theorem dX7_digits_245 : decode cX7_digits 245 = .ok (.lload 4, 2) := by decide +kernel
theorem dX7_digits_247 : decode cX7_digits 247 = .ok (.lreturn, 1) := by decide +kernel
theorem dX7_value_0 : decode cX7_value 0 = .ok (.iload_n 1, 1) := by decide +kernel
theorem dX7_value_1 : decode cX7_value 1 = .ok (.ifCond .ne 7, 3) := by decide +kernel
theorem dX7_value_4 : decode cX7_value 4 = .ok (.iconst 0, 1) := by decide +kernel
theorem dX7_value_5 : decode cX7_value 5 = .ok (.goto 68, 3) := by decide +kernel
theorem dX7_value_8 : decode cX7_value 8 = .ok (.iload_n 1, 1) := by decide +kernel
theorem dX7_value_9 : decode cX7_value 9 = .ok (.iconst 5, 1) := by decide +kernel
theorem dX7_value_10 : decode cX7_value 10 = .ok (.if_icmp .ge 7, 3) := by decide +kernel
theorem dX7_value_13 : decode cX7_value 13 = .ok (.iload_n 1, 1) := by decide +kernel
theorem dX7_value_14 : decode cX7_value 14 = .ok (.goto 59, 3) := by decide +kernel
theorem dX7_value_17 : decode cX7_value 17 = .ok (.iload_n 1, 1) := by decide +kernel
theorem dX7_value_18 : decode cX7_value 18 = .ok (.iconst 5, 1) := by decide +kernel
theorem dX7_value_19 : decode cX7_value 19 = .ok (.if_icmp .ne 7, 3) := by decide +kernel
theorem dX7_value_22 : decode cX7_value 22 = .ok (.iconst 4, 1) := by decide +kernel
theorem dX7_value_23 : decode cX7_value 23 = .ok (.goto 50, 3) := by decide +kernel
theorem dX7_value_26 : decode cX7_value 26 = .ok (.iload_n 1, 1) := by decide +kernel
theorem dX7_value_27 : decode cX7_value 27 = .ok (.bipush 6, 2) := by decide +kernel
theorem dX7_value_29 : decode cX7_value 29 = .ok (.if_icmp .ne 8, 3) := by decide +kernel
theorem dX7_value_32 : decode cX7_value 32 = .ok (.bipush 6, 2) := by decide +kernel
theorem dX7_value_34 : decode cX7_value 34 = .ok (.goto 39, 3) := by decide +kernel
theorem dX7_value_37 : decode cX7_value 37 = .ok (.iload_n 1, 1) := by decide +kernel
theorem dX7_value_38 : decode cX7_value 38 = .ok (.bipush 7, 2) := by decide +kernel
theorem dX7_value_40 : decode cX7_value 40 = .ok (.if_icmp .ne 8, 3) := by decide +kernel
theorem dX7_value_43 : decode cX7_value 43 = .ok (.bipush 8, 2) := by decide +kernel
theorem dX7_value_45 : decode cX7_value 45 = .ok (.goto 28, 3) := by decide +kernel
theorem dX7_value_48 : decode cX7_value 48 = .ok (.iload_n 1, 1) := by decide +kernel
theorem dX7_value_49 : decode cX7_value 49 = .ok (.bipush 13, 2) := by decide +kernel
theorem dX7_value_51 : decode cX7_value 51 = .ok (.if_icmp .ge 10, 3) := by decide +kernel
theorem dX7_value_54 : decode cX7_value 54 = .ok (.iload_n 1, 1) := by decide +kernel
theorem dX7_value_55 : decode cX7_value 55 = .ok (.bipush 8, 2) := by decide +kernel
theorem dX7_value_57 : decode cX7_value 57 = .ok (.isub, 1) := by decide +kernel
theorem dX7_value_58 : decode cX7_value 58 = .ok (.goto 15, 3) := by decide +kernel
theorem dX7_value_61 : decode cX7_value 61 = .ok (.iload_n 1, 1) := by decide +kernel
theorem dX7_value_62 : decode cX7_value 62 = .ok (.bipush 14, 2) := by decide +kernel
theorem dX7_value_64 : decode cX7_value 64 = .ok (.if_icmp .ne 8, 3) := by decide +kernel
theorem dX7_value_67 : decode cX7_value 67 = .ok (.bipush 6, 2) := by decide +kernel
theorem dX7_value_69 : decode cX7_value 69 = .ok (.goto 4, 3) := by decide +kernel
theorem dX7_value_72 : decode cX7_value 72 = .ok (.iconst (-1), 1) := by decide +kernel
theorem dX7_value_73 : decode cX7_value 73 = .ok (.istore_n 2, 1) := by decide +kernel
theorem dX7_value_74 : decode cX7_value 74 = .ok (.iload_n 2, 1) := by decide +kernel
theorem dX7_value_75 : decode cX7_value 75 = .ok (.ifCond .lt 41, 3) := by decide +kernel
theorem dX7_value_78 : decode cX7_value 78 = .ok (.aload_n 0, 1) := by decide +kernel
theorem dX7_value_79 : decode cX7_value 79 = .ok (.iload_n 2, 1) := by decide +kernel
theorem dX7_value_80 : decode cX7_value 80 = .ok (.invokevirtual 243, 3) := by decide +kernel
theorem dX7_value_83 : decode cX7_value 83 = .ok (.ifCond .eq 32, 3) := by decide +kernel
theorem dX7_value_86 : decode cX7_value 86 = .ok (.aload_n 0, 1) := by decide +kernel
theorem dX7_value_87 : decode cX7_value 87 = .ok (.getfield 56, 3) := by decide +kernel
theorem dX7_value_90 : decode cX7_value 90 = .ok (.aload_n 0, 1) := by decide +kernel
theorem dX7_value_91 : decode cX7_value 91 = .ok (.getfield 190, 3) := by decide +kernel
theorem dX7_value_94 : decode cX7_value 94 = .ok (.iload_n 1, 1) := by decide +kernel
theorem dX7_value_95 : decode cX7_value 95 = .ok (.bipush 8, 2) := by decide +kernel
theorem dX7_value_97 : decode cX7_value 97 = .ok (.if_icmp .ge 11, 3) := by decide +kernel
theorem dX7_value_100 : decode cX7_value 100 = .ok (.aload_n 0, 1) := by decide +kernel
theorem dX7_value_101 : decode cX7_value 101 = .ok (.iload_n 2, 1) := by decide +kernel
theorem dX7_value_102 : decode cX7_value 102 = .ok (.invokevirtual 246, 3) := by decide +kernel
theorem dX7_value_105 : decode cX7_value 105 = .ok (.goto 9, 3) := by decide +kernel
theorem dX7_value_108 : decode cX7_value 108 = .ok (.aload_n 0, 1) := by decide +kernel
theorem dX7_value_109 : decode cX7_value 109 = .ok (.iload_n 2, 1) := by decide +kernel
theorem dX7_value_110 : decode cX7_value 110 = .ok (.iconst 1, 1) := by decide +kernel
theorem dX7_value_111 : decode cX7_value 111 = .ok (.invokevirtual 250, 3) := by decide +kernel
theorem dX7_value_114 : decode cX7_value 114 = .ok (.lastore, 1) := by decide +kernel
theorem dX7_value_115 : decode cX7_value 115 = .ok (.return_, 1) := by decide +kernel
theorem dX7_value_116 : decode cX7_value 116 = .ok (.aload_n 0, 1) := by decide +kernel
theorem dX7_value_117 : decode cX7_value 117 = .ok (.invokevirtual 227, 3) := by decide +kernel
theorem dX7_value_120 : decode cX7_value 120 = .ok (.istore_n 3, 1) := by decide +kernel
theorem dX7_value_121 : decode cX7_value 121 = .ok (.aload_n 0, 1) := by decide +kernel
theorem dX7_value_122 : decode cX7_value 122 = .ok (.getfield 204, 3) := by decide +kernel
theorem dX7_value_125 : decode cX7_value 125 = .ok (.ifCond .le 4, 3) := by decide +kernel
theorem dX7_value_128 : decode cX7_value 128 = .ok (.return_, 1) := by decide +kernel
theorem dX7_value_129 : decode cX7_value 129 = .ok (.aload_n 0, 1) := by decide +kernel
theorem dX7_value_130 : decode cX7_value 130 = .ok (.getfield 221, 3) := by decide +kernel
theorem dX7_value_133 : decode cX7_value 133 = .ok (.iconst 1, 1) := by decide +kernel
theorem dX7_value_134 : decode cX7_value 134 = .ok (.isub, 1) := by decide +kernel
theorem dX7_value_135 : decode cX7_value 135 = .ok (.istore 4, 2) := by decide +kernel
theorem dX7_value_137 : decode cX7_value 137 = .ok (.iload_n 3, 1) := by decide +kernel
theorem dX7_value_138 : decode cX7_value 138 = .ok (.sipush 202, 3) := by decide +kernel
theorem dX7_value_141 : decode cX7_value 141 = .ok (.if_icmp .lt 29, 3) := by decide +kernel
theorem dX7_value_144 : decode cX7_value 144 = .ok (.iload_n 3, 1) := by decide +kernel
theorem dX7_value_145 : decode cX7_value 145 = .ok (.sipush 208, 3) := by decide +kernel
theorem dX7_value_148 : decode cX7_value 148 = .ok (.sipush 217, 3) := by decide +kernel
theorem dX7_value_151 : decode cX7_value 151 = .ok (.invokestatic 100, 3) := by decide +kernel
theorem dX7_value_154 : decode cX7_value 154 = .ok (.ifCond .ne 16, 3) := by decide +kernel
theorem dX7_value_157 : decode cX7_value 157 = .ok (.iload_n 3, 1) := by decide +kernel
theorem dX7_value_158 : decode cX7_value 158 = .ok (.sipush 224, 3) := by decide +kernel
theorem dX7_value_161 : decode cX7_value 161 = .ok (.sipush 232, 3) := by decide +kernel
theorem dX7_value_164 : decode cX7_value 164 = .ok (.invokestatic 100, 3) := by decide +kernel
theorem dX7_value_167 : decode cX7_value 167 = .ok (.ifCond .eq 7, 3) := by decide +kernel
theorem dX7_value_170 : decode cX7_value 170 = .ok (.iconst 1, 1) := by decide +kernel
theorem dX7_value_171 : decode cX7_value 171 = .ok (.goto 4, 3) := by decide +kernel
theorem dX7_value_174 : decode cX7_value 174 = .ok (.iconst 0, 1) := by decide +kernel
theorem dX7_value_175 : decode cX7_value 175 = .ok (.istore 5, 2) := by decide +kernel
theorem dX7_value_177 : decode cX7_value 177 = .ok (.iload 5, 2) := by decide +kernel
theorem dX7_value_179 : decode cX7_value 179 = .ok (.ifCond .ne 14, 3) := by decide +kernel
theorem dX7_value_182 : decode cX7_value 182 = .ok (.aload_n 0, 1) := by decide +kernel
theorem dX7_value_183 : decode cX7_value 183 = .ok (.bipush 8, 2) := by decide +kernel
theorem dX7_value_185 : decode cX7_value 185 = .ok (.iload 4, 2) := by decide +kernel
theorem dX7_value_187 : decode cX7_value 187 = .ok (.invokevirtual 207, 3) := by decide +kernel
theorem dX7_value_190 : decode cX7_value 190 = .ok (.istore 6, 2) := by decide +kernel
theorem dX7_value_192 : decode cX7_value 192 = .ok (.return_, 1) := by decide +kernel
theorem dX7_value_193 : decode cX7_value 193 = .ok (.iload_n 3, 1) := by decide +kernel
theorem dX7_value_194 : decode cX7_value 194 = .ok (.sipush 192, 3) := by decide +kernel
theorem dX7_value_197 : decode cX7_value 197 = .ok (.if_icmp .ge 7, 3) := by decide +kernel
theorem dX7_value_200 : decode cX7_value 200 = .ok (.iload_n 3, 1) := by decide +kernel
theorem dX7_value_201 : decode cX7_value 201 = .ok (.goto 38, 3) := by decide +kernel
theorem dX7_value_204 : decode cX7_value 204 = .ok (.iload_n 3, 1) := by decide +kernel
theorem dX7_value_205 : decode cX7_value 205 = .ok (.sipush 202, 3) := by decide +kernel
theorem dX7_value_208 : decode cX7_value 208 = .ok (.if_icmp .ge 11, 3) := by decide +kernel
theorem dX7_value_211 : decode cX7_value 211 = .ok (.iload_n 3, 1) := by decide +kernel
theorem dX7_value_212 : decode cX7_value 212 = .ok (.sipush 192, 3) := by decide +kernel
theorem dX7_value_215 : decode cX7_value 215 = .ok (.isub, 1) := by decide +kernel
theorem dX7_value_216 : decode cX7_value 216 = .ok (.goto 23, 3) := by decide +kernel
theorem dX7_value_219 : decode cX7_value 219 = .ok (.iload_n 3, 1) := by decide +kernel
theorem dX7_value_220 : decode cX7_value 220 = .ok (.sipush 218, 3) := by decide +kernel
theorem dX7_value_223 : decode cX7_value 223 = .ok (.if_icmp .ge 11, 3) := by decide +kernel
theorem dX7_value_226 : decode cX7_value 226 = .ok (.iload_n 3, 1) := by decide +kernel
theorem dX7_value_227 : decode cX7_value 227 = .ok (.sipush 208, 3) := by decide +kernel
theorem dX7_value_230 : decode cX7_value 230 = .ok (.isub, 1) := by decide +kernel
theorem dX7_value_231 : decode cX7_value 231 = .ok (.goto 8, 3) := by decide +kernel
theorem dX7_value_234 : decode cX7_value 234 = .ok (.iload_n 3, 1) := by decide +kernel
theorem dX7_value_235 : decode cX7_value 235 = .ok (.sipush 224, 3) := by decide +kernel
theorem dX7_value_238 : decode cX7_value 238 = .ok (.isub, 1) := by decide +kernel
theorem dX7_value_239 : decode cX7_value 239 = .ok (.istore_n 2, 1) := by decide +kernel
theorem dX7_value_240 : decode cX7_value 240 = .ok (.aload_n 0, 1) := by decide +kernel
theorem dX7_value_241 : decode cX7_value 241 = .ok (.iload_n 2, 1) := by decide +kernel
theorem dX7_value_242 : decode cX7_value 242 = .ok (.invokevirtual 243, 3) := by decide +kernel
theorem dX7_value_245 : decode cX7_value 245 = .ok (.ifCond .ne 4, 3) := by decide +kernel
theorem dX7_value_248 : decode cX7_value 248 = .ok (.return_, 1) := by decide +kernel
theorem dX7_value_249 : decode cX7_value 249 = .ok (.iload_n 3, 1) := by decide +kernel
theorem dX7_value_250 : decode cX7_value 250 = .ok (.sipush 192, 3) := by decide +kernel
theorem dX7_value_253 : decode cX7_value 253 = .ok (.if_icmp .ge 22, 3) := by decide +kernel
theorem dX7_value_256 : decode cX7_value 256 = .ok (.aload_n 0, 1) := by decide +kernel
theorem dX7_value_257 : decode cX7_value 257 = .ok (.getfield 56, 3) := by decide +kernel
theorem dX7_value_260 : decode cX7_value 260 = .ok (.aload_n 0, 1) := by decide +kernel
theorem dX7_value_261 : decode cX7_value 261 = .ok (.getfield 190, 3) := by decide +kernel
theorem dX7_value_264 : decode cX7_value 264 = .ok (.iload_n 3, 1) := by decide +kernel
theorem dX7_value_265 : decode cX7_value 265 = .ok (.i2l, 1) := by decide +kernel
theorem dX7_value_266 : decode cX7_value 266 = .ok (.lastore, 1) := by decide +kernel
theorem dX7_value_267 : decode cX7_value 267 = .ok (.aload_n 0, 1) := by decide +kernel
theorem dX7_value_268 : decode cX7_value 268 = .ok (.iload_n 3, 1) := by decide +kernel
theorem dX7_value_269 : decode cX7_value 269 = .ok (.invokevirtual 231, 3) := by decide +kernel
theorem dX7_value_272 : decode cX7_value 272 = .ok (.goto 59, 3) := by decide +kernel
theorem dX7_value_275 : decode cX7_value 275 = .ok (.iload_n 3, 1) := by decide +kernel
theorem dX7_value_276 : decode cX7_value 276 = .ok (.sipush 224, 3) := by decide +kernel
theorem dX7_value_279 : decode cX7_value 279 = .ok (.if_icmp .ge 38, 3) := by decide +kernel
theorem dX7_value_282 : decode cX7_value 282 = .ok (.aload_n 0, 1) := by decide +kernel
theorem dX7_value_283 : decode cX7_value 283 = .ok (.iload_n 2, 1) := by decide +kernel
theorem dX7_value_284 : decode cX7_value 284 = .ok (.iconst 0, 1) := by decide +kernel
theorem dX7_value_285 : decode cX7_value 285 = .ok (.invokevirtual 250, 3) := by decide +kernel
theorem dX7_value_288 : decode cX7_value 288 = .ok (.lstore 6, 2) := by decide +kernel
theorem dX7_value_290 : decode cX7_value 290 = .ok (.aload_n 0, 1) := by decide +kernel
theorem dX7_value_291 : decode cX7_value 291 = .ok (.getfield 56, 3) := by decide +kernel
theorem dX7_value_294 : decode cX7_value 294 = .ok (.aload_n 0, 1) := by decide +kernel
theorem dX7_value_295 : decode cX7_value 295 = .ok (.getfield 190, 3) := by decide +kernel
theorem dX7_value_298 : decode cX7_value 298 = .ok (.iload_n 3, 1) := by decide +kernel
theorem dX7_value_299 : decode cX7_value 299 = .ok (.sipush 208, 3) := by decide +kernel
theorem dX7_value_302 : decode cX7_value 302 = .ok (.if_icmp .ge 8, 3) := by decide +kernel
theorem dX7_value_305 : decode cX7_value 305 = .ok (.lload 6, 2) := by decide +kernel
theorem dX7_value_307 : decode cX7_value 307 = .ok (.goto 6, 3) := by decide +kernel
theorem dX7_value_310 : decode cX7_value 310 = .ok (.lload 6, 2) := by decide +kernel
theorem dX7_value_312 : decode cX7_value 312 = .ok (.lneg, 1) := by decide +kernel
theorem dX7_value_313 : decode cX7_value 313 = .ok (.lastore, 1) := by decide +kernel
theorem dX7_value_314 : decode cX7_value 314 = .ok (.goto 17, 3) := by decide +kernel
theorem dX7_value_317 : decode cX7_value 317 = .ok (.aload_n 0, 1) := by decide +kernel
theorem dX7_value_318 : decode cX7_value 318 = .ok (.getfield 56, 3) := by decide +kernel
theorem dX7_value_321 : decode cX7_value 321 = .ok (.aload_n 0, 1) := by decide +kernel
theorem dX7_value_322 : decode cX7_value 322 = .ok (.getfield 190, 3) := by decide +kernel
theorem dX7_value_325 : decode cX7_value 325 = .ok (.aload_n 0, 1) := by decide +kernel
theorem dX7_value_326 : decode cX7_value 326 = .ok (.iload_n 2, 1) := by decide +kernel
theorem dX7_value_327 : decode cX7_value 327 = .ok (.invokevirtual 246, 3) := by decide +kernel
theorem dX7_value_330 : decode cX7_value 330 = .ok (.lastore, 1) := by decide +kernel
theorem dX7_value_331 : decode cX7_value 331 = .ok (.return_, 1) := by decide +kernel
theorem dX7_decode_0 : decode cX7_decode 0 = .ok (.aload_n 0, 1) := by decide +kernel
theorem dX7_decode_1 : decode cX7_decode 1 = .ok (.iconst 0, 1) := by decide +kernel
theorem dX7_decode_2 : decode cX7_decode 2 = .ok (.putfield 97, 3) := by decide +kernel
theorem dX7_decode_5 : decode cX7_decode 5 = .ok (.aload_n 0, 1) := by decide +kernel
theorem dX7_decode_6 : decode cX7_decode 6 = .ok (.aload_n 0, 1) := by decide +kernel
theorem dX7_decode_7 : decode cX7_decode 7 = .ok (.getfield 7, 3) := by decide +kernel
theorem dX7_decode_10 : decode cX7_decode 10 = .ok (.aload_n 0, 1) := by decide +kernel
theorem dX7_decode_11 : decode cX7_decode 11 = .ok (.getfield 104, 3) := by decide +kernel
theorem dX7_decode_14 : decode cX7_decode 14 = .ok (.invokevirtual 196, 3) := by decide +kernel
theorem dX7_decode_17 : decode cX7_decode 17 = .ok (.istore_n 1, 1) := by decide +kernel
theorem dX7_decode_18 : decode cX7_decode 18 = .ok (.iload_n 1, 1) := by decide +kernel
theorem dX7_decode_19 : decode cX7_decode 19 = .ok (.ifCond .le 8, 3) := by decide +kernel
theorem dX7_decode_22 : decode cX7_decode 22 = .ok (.iload_n 1, 1) := by decide +kernel
theorem dX7_decode_23 : decode cX7_decode 23 = .ok (.ineg, 1) := by decide +kernel
theorem dX7_decode_24 : decode cX7_decode 24 = .ok (.goto 7, 3) := by decide +kernel
theorem dX7_decode_27 : decode cX7_decode 27 = .ok (.aload_n 0, 1) := by decide +kernel
theorem dX7_decode_28 : decode cX7_decode 28 = .ok (.getfield 190, 3) := by decide +kernel
theorem dX7_decode_31 : decode cX7_decode 31 = .ok (.ireturn, 1) := by decide +kernel
theorem dX7_place_0 : decode cX7_place 0 = .ok (.aload_n 0, 1) := by decide +kernel
theorem dX7_place_1 : decode cX7_place 1 = .ok (.iconst 0, 1) := by decide +kernel
theorem dX7_place_2 : decode cX7_place 2 = .ok (.putfield 97, 3) := by decide +kernel
theorem dX7_place_5 : decode cX7_place 5 = .ok (.aload_n 0, 1) := by decide +kernel
theorem dX7_place_6 : decode cX7_place 6 = .ok (.getfield 90, 3) := by decide +kernel
theorem dX7_place_9 : decode cX7_place 9 = .ok (.ireturn, 1) := by decide +kernel
theorem dX7_clear_0 : decode cX7_clear 0 = .ok (.aload_n 0, 1) := by decide +kernel
theorem dX7_clear_1 : decode cX7_clear 1 = .ok (.iconst 0, 1) := by decide +kernel
theorem dX7_clear_2 : decode cX7_clear 2 = .ok (.putfield 97, 3) := by decide +kernel
theorem dX7_clear_5 : decode cX7_clear 5 = .ok (.aload_n 0, 1) := by decide +kernel
theorem dX7_clear_6 : decode cX7_clear 6 = .ok (.getfield 190, 3) := by decide +kernel
theorem dX7_clear_9 : decode cX7_clear 9 = .ok (.istore_n 1, 1) := by decide +kernel
theorem dX7_clear_10 : decode cX7_clear 10 = .ok (.aload_n 0, 1) := by decide +kernel
theorem dX7_clear_11 : decode cX7_clear 11 = .ok (.iconst 0, 1) := by decide +kernel
theorem dX7_clear_12 : decode cX7_clear 12 = .ok (.putfield 190, 3) := by decide +kernel
theorem dX7_clear_15 : decode cX7_clear 15 = .ok (.aload_n 0, 1) := by decide +kernel
theorem dX7_clear_16 : decode cX7_clear 16 = .ok (.iconst 0, 1) := by decide +kernel
theorem dX7_clear_17 : decode cX7_clear 17 = .ok (.putfield 193, 3) := by decide +kernel
theorem dX7_clear_20 : decode cX7_clear 20 = .ok (.iload_n 1, 1) := by decide +kernel
theorem dX7_clear_21 : decode cX7_clear 21 = .ok (.ireturn, 1) := by decide +kernel
theorem dX7_record_0 : decode cX7_record 0 = .ok (.iload_n 1, 1) := by decide +kernel
theorem dX7_record_1 : decode cX7_record 1 = .ok (.iconst 0, 1) := by decide +kernel
theorem dX7_record_2 : decode cX7_record 2 = .ok (.aload_n 0, 1) := by decide +kernel
theorem dX7_record_3 : decode cX7_record 3 = .ok (.getfield 190, 3) := by decide +kernel
theorem dX7_record_6 : decode cX7_record 6 = .ok (.iconst 1, 1) := by decide +kernel
theorem dX7_record_7 : decode cX7_record 7 = .ok (.isub, 1) := by decide +kernel
theorem dX7_record_8 : decode cX7_record 8 = .ok (.invokestatic 100, 3) := by decide +kernel
theorem dX7_record_11 : decode cX7_record 11 = .ok (.istore_n 3, 1) := by decide +kernel
theorem dX7_record_12 : decode cX7_record 12 = .ok (.iload_n 3, 1) := by decide +kernel
theorem dX7_record_13 : decode cX7_record 13 = .ok (.ifCond .eq 24, 3) := by decide +kernel
theorem dX7_record_16 : decode cX7_record 16 = .ok (.iload_n 2, 1) := by decide +kernel
theorem dX7_record_17 : decode cX7_record 17 = .ok (.ifCond .lt 20, 3) := by decide +kernel
theorem dX7_record_20 : decode cX7_record 20 = .ok (.iload_n 2, 1) := by decide +kernel
theorem dX7_record_21 : decode cX7_record 21 = .ok (.bipush 7, 2) := by decide +kernel
theorem dX7_record_23 : decode cX7_record 23 = .ok (.aload_n 0, 1) := by decide +kernel
theorem dX7_record_24 : decode cX7_record 24 = .ok (.getfield 75, 3) := by decide +kernel
theorem dX7_record_27 : decode cX7_record 27 = .ok (.iload_n 1, 1) := by decide +kernel
theorem dX7_record_28 : decode cX7_record 28 = .ok (.iaload, 1) := by decide +kernel
theorem dX7_record_29 : decode cX7_record 29 = .ok (.iadd, 1) := by decide +kernel
theorem dX7_record_30 : decode cX7_record 30 = .ok (.if_icmp .ge 7, 3) := by decide +kernel
theorem dX7_record_33 : decode cX7_record 33 = .ok (.iconst 1, 1) := by decide +kernel
theorem dX7_record_34 : decode cX7_record 34 = .ok (.goto 4, 3) := by decide +kernel
theorem dX7_record_37 : decode cX7_record 37 = .ok (.iconst 0, 1) := by decide +kernel
theorem dX7_record_38 : decode cX7_record 38 = .ok (.istore_n 3, 1) := by decide +kernel
theorem dX7_record_39 : decode cX7_record 39 = .ok (.aload_n 0, 1) := by decide +kernel
theorem dX7_record_40 : decode cX7_record 40 = .ok (.iload_n 3, 1) := by decide +kernel
theorem dX7_record_41 : decode cX7_record 41 = .ok (.iconst 1, 1) := by decide +kernel
theorem dX7_record_42 : decode cX7_record 42 = .ok (.invokevirtual 107, 3) := by decide +kernel
theorem dX7_record_45 : decode cX7_record 45 = .ok (.ifCond .eq 5, 3) := by decide +kernel
theorem dX7_record_48 : decode cX7_record 48 = .ok (.lconst 0, 1) := by decide +kernel
theorem dX7_record_49 : decode cX7_record 49 = .ok (.lreturn, 1) := by decide +kernel
theorem dX7_record_50 : decode cX7_record 50 = .ok (.iload_n 2, 1) := by decide +kernel
theorem dX7_record_51 : decode cX7_record 51 = .ok (.tableswitch 95 0 6 #[41, 48, 56, 64, 71, 79, 87], 41) := by decide +kernel
theorem dX7_record_92 : decode cX7_record 92 = .ok (.aload_n 0, 1) := by decide +kernel
theorem dX7_record_93 : decode cX7_record 93 = .ok (.getfield 56, 3) := by decide +kernel
theorem dX7_record_96 : decode cX7_record 96 = .ok (.iload_n 1, 1) := by decide +kernel
theorem dX7_record_97 : decode cX7_record 97 = .ok (.laload, 1) := by decide +kernel
theorem dX7_record_98 : decode cX7_record 98 = .ok (.lreturn, 1) := by decide +kernel
theorem dX7_record_99 : decode cX7_record 99 = .ok (.aload_n 0, 1) := by decide +kernel
theorem dX7_record_100 : decode cX7_record 100 = .ok (.getfield 60, 3) := by decide +kernel
theorem dX7_record_103 : decode cX7_record 103 = .ok (.iload_n 1, 1) := by decide +kernel
theorem dX7_record_104 : decode cX7_record 104 = .ok (.iaload, 1) := by decide +kernel
theorem dX7_record_105 : decode cX7_record 105 = .ok (.i2l, 1) := by decide +kernel
theorem dX7_record_106 : decode cX7_record 106 = .ok (.lreturn, 1) := by decide +kernel
theorem dX7_record_107 : decode cX7_record 107 = .ok (.aload_n 0, 1) := by decide +kernel
theorem dX7_record_108 : decode cX7_record 108 = .ok (.getfield 63, 3) := by decide +kernel
theorem dX7_record_111 : decode cX7_record 111 = .ok (.iload_n 1, 1) := by decide +kernel
theorem dX7_record_112 : decode cX7_record 112 = .ok (.iaload, 1) := by decide +kernel
theorem dX7_record_113 : decode cX7_record 113 = .ok (.i2l, 1) := by decide +kernel
theorem dX7_record_114 : decode cX7_record 114 = .ok (.lreturn, 1) := by decide +kernel
theorem dX7_record_115 : decode cX7_record 115 = .ok (.aload_n 0, 1) := by decide +kernel
theorem dX7_record_116 : decode cX7_record 116 = .ok (.getfield 66, 3) := by decide +kernel
theorem dX7_record_119 : decode cX7_record 119 = .ok (.iload_n 1, 1) := by decide +kernel
theorem dX7_record_120 : decode cX7_record 120 = .ok (.laload, 1) := by decide +kernel
theorem dX7_record_121 : decode cX7_record 121 = .ok (.lreturn, 1) := by decide +kernel
theorem dX7_record_122 : decode cX7_record 122 = .ok (.aload_n 0, 1) := by decide +kernel
theorem dX7_record_123 : decode cX7_record 123 = .ok (.getfield 69, 3) := by decide +kernel
theorem dX7_record_126 : decode cX7_record 126 = .ok (.iload_n 1, 1) := by decide +kernel
theorem dX7_record_127 : decode cX7_record 127 = .ok (.iaload, 1) := by decide +kernel
theorem dX7_record_128 : decode cX7_record 128 = .ok (.i2l, 1) := by decide +kernel
theorem dX7_record_129 : decode cX7_record 129 = .ok (.lreturn, 1) := by decide +kernel
theorem dX7_record_130 : decode cX7_record 130 = .ok (.aload_n 0, 1) := by decide +kernel
theorem dX7_record_131 : decode cX7_record 131 = .ok (.getfield 72, 3) := by decide +kernel
theorem dX7_record_134 : decode cX7_record 134 = .ok (.iload_n 1, 1) := by decide +kernel
theorem dX7_record_135 : decode cX7_record 135 = .ok (.iaload, 1) := by decide +kernel
theorem dX7_record_136 : decode cX7_record 136 = .ok (.i2l, 1) := by decide +kernel
theorem dX7_record_137 : decode cX7_record 137 = .ok (.lreturn, 1) := by decide +kernel
theorem dX7_record_138 : decode cX7_record 138 = .ok (.aload_n 0, 1) := by decide +kernel
theorem dX7_record_139 : decode cX7_record 139 = .ok (.getfield 75, 3) := by decide +kernel
theorem dX7_record_142 : decode cX7_record 142 = .ok (.iload_n 1, 1) := by decide +kernel
theorem dX7_record_143 : decode cX7_record 143 = .ok (.iaload, 1) := by decide +kernel
theorem dX7_record_144 : decode cX7_record 144 = .ok (.i2l, 1) := by decide +kernel
theorem dX7_record_145 : decode cX7_record 145 = .ok (.lreturn, 1) := by decide +kernel
theorem dX7_record_146 : decode cX7_record 146 = .ok (.aload_n 0, 1) := by decide +kernel
theorem dX7_record_147 : decode cX7_record 147 = .ok (.getfield 78, 3) := by decide +kernel
theorem dX7_record_150 : decode cX7_record 150 = .ok (.bipush 11, 2) := by decide +kernel
theorem dX7_record_152 : decode cX7_record 152 = .ok (.iload_n 1, 1) := by decide +kernel
theorem dX7_record_153 : decode cX7_record 153 = .ok (.imul, 1) := by decide +kernel
theorem dX7_record_154 : decode cX7_record 154 = .ok (.iload_n 2, 1) := by decide +kernel
theorem dX7_record_155 : decode cX7_record 155 = .ok (.iadd, 1) := by decide +kernel
theorem dX7_record_156 : decode cX7_record 156 = .ok (.bipush 7, 2) := by decide +kernel
theorem dX7_record_158 : decode cX7_record 158 = .ok (.isub, 1) := by decide +kernel
theorem dX7_record_159 : decode cX7_record 159 = .ok (.iaload, 1) := by decide +kernel
theorem dX7_record_160 : decode cX7_record 160 = .ok (.i2l, 1) := by decide +kernel
theorem dX7_record_161 : decode cX7_record 161 = .ok (.lreturn, 1) := by decide +kernel
theorem dX7_text_0 : decode cX7_text 0 = .ok (.iload_n 1, 1) := by decide +kernel
theorem dX7_text_1 : decode cX7_text 1 = .ok (.iconst 0, 1) := by decide +kernel
theorem dX7_text_2 : decode cX7_text 2 = .ok (.aload_n 0, 1) := by decide +kernel
theorem dX7_text_3 : decode cX7_text 3 = .ok (.getfield 190, 3) := by decide +kernel
theorem dX7_text_6 : decode cX7_text 6 = .ok (.iconst 1, 1) := by decide +kernel
theorem dX7_text_7 : decode cX7_text 7 = .ok (.isub, 1) := by decide +kernel
theorem dX7_text_8 : decode cX7_text 8 = .ok (.invokestatic 100, 3) := by decide +kernel
theorem dX7_text_11 : decode cX7_text 11 = .ok (.istore_n 3, 1) := by decide +kernel
theorem dX7_text_12 : decode cX7_text 12 = .ok (.iload_n 3, 1) := by decide +kernel
theorem dX7_text_13 : decode cX7_text 13 = .ok (.ifCond .eq 23, 3) := by decide +kernel
theorem dX7_text_16 : decode cX7_text 16 = .ok (.iload_n 2, 1) := by decide +kernel
theorem dX7_text_17 : decode cX7_text 17 = .ok (.iconst 0, 1) := by decide +kernel
theorem dX7_text_18 : decode cX7_text 18 = .ok (.aload_n 0, 1) := by decide +kernel
theorem dX7_text_19 : decode cX7_text 19 = .ok (.getfield 84, 3) := by decide +kernel
theorem dX7_text_22 : decode cX7_text 22 = .ok (.iload_n 1, 1) := by decide +kernel
theorem dX7_text_23 : decode cX7_text 23 = .ok (.iaload, 1) := by decide +kernel
theorem dX7_text_24 : decode cX7_text 24 = .ok (.iconst 1, 1) := by decide +kernel
theorem dX7_text_25 : decode cX7_text 25 = .ok (.isub, 1) := by decide +kernel
theorem dX7_text_26 : decode cX7_text 26 = .ok (.invokestatic 100, 3) := by decide +kernel
theorem dX7_text_29 : decode cX7_text 29 = .ok (.ifCond .eq 7, 3) := by decide +kernel
theorem dX7_text_32 : decode cX7_text 32 = .ok (.iconst 1, 1) := by decide +kernel
theorem dX7_text_33 : decode cX7_text 33 = .ok (.goto 4, 3) := by decide +kernel
theorem dX7_text_36 : decode cX7_text 36 = .ok (.iconst 0, 1) := by decide +kernel
theorem dX7_text_37 : decode cX7_text 37 = .ok (.istore_n 3, 1) := by decide +kernel
theorem dX7_text_38 : decode cX7_text 38 = .ok (.aload_n 0, 1) := by decide +kernel
theorem dX7_text_39 : decode cX7_text 39 = .ok (.iload_n 3, 1) := by decide +kernel
theorem dX7_text_40 : decode cX7_text 40 = .ok (.iconst 1, 1) := by decide +kernel
theorem dX7_text_41 : decode cX7_text 41 = .ok (.invokevirtual 107, 3) := by decide +kernel
theorem dX7_text_44 : decode cX7_text 44 = .ok (.ifCond .eq 7, 3) := by decide +kernel
theorem dX7_text_47 : decode cX7_text 47 = .ok (.iconst 0, 1) := by decide +kernel
theorem dX7_text_48 : decode cX7_text 48 = .ok (.goto 16, 3) := by decide +kernel
theorem dX7_text_51 : decode cX7_text 51 = .ok (.aload_n 0, 1) := by decide +kernel
theorem dX7_text_52 : decode cX7_text 52 = .ok (.getfield 87, 3) := by decide +kernel
theorem dX7_text_55 : decode cX7_text 55 = .ok (.aload_n 0, 1) := by decide +kernel
theorem dX7_text_56 : decode cX7_text 56 = .ok (.getfield 81, 3) := by decide +kernel
theorem dX7_text_59 : decode cX7_text 59 = .ok (.iload_n 1, 1) := by decide +kernel
theorem dX7_text_60 : decode cX7_text 60 = .ok (.iaload, 1) := by decide +kernel
theorem dX7_text_61 : decode cX7_text 61 = .ok (.iload_n 2, 1) := by decide +kernel
theorem dX7_text_62 : decode cX7_text 62 = .ok (.iadd, 1) := by decide +kernel
theorem dX7_text_63 : decode cX7_text 63 = .ok (.iaload, 1) := by decide +kernel
theorem dX7_text_64 : decode cX7_text 64 = .ok (.ireturn, 1) := by decide +kernel
theorem dX7_count_0 : decode cX7_count 0 = .ok (.aload_n 0, 1) := by decide +kernel
theorem dX7_count_1 : decode cX7_count 1 = .ok (.iload_n 1, 1) := by decide +kernel
theorem dX7_count_2 : decode cX7_count 2 = .ok (.iconst 0, 1) := by decide +kernel
theorem dX7_count_3 : decode cX7_count 3 = .ok (.iconst 5, 1) := by decide +kernel
theorem dX7_count_4 : decode cX7_count 4 = .ok (.invokestatic 100, 3) := by decide +kernel
theorem dX7_count_7 : decode cX7_count 7 = .ok (.iconst 1, 1) := by decide +kernel
theorem dX7_count_8 : decode cX7_count 8 = .ok (.invokevirtual 107, 3) := by decide +kernel
theorem dX7_count_11 : decode cX7_count 11 = .ok (.ifCond .eq 5, 3) := by decide +kernel
theorem dX7_count_14 : decode cX7_count 14 = .ok (.iconst 0, 1) := by decide +kernel
theorem dX7_count_15 : decode cX7_count 15 = .ok (.ireturn, 1) := by decide +kernel
theorem dX7_count_16 : decode cX7_count 16 = .ok (.iconst 0, 1) := by decide +kernel
theorem dX7_count_17 : decode cX7_count 17 = .ok (.istore_n 2, 1) := by decide +kernel
theorem dX7_count_18 : decode cX7_count 18 = .ok (.iconst 0, 1) := by decide +kernel
theorem dX7_count_19 : decode cX7_count 19 = .ok (.istore_n 3, 1) := by decide +kernel
theorem dX7_count_20 : decode cX7_count 20 = .ok (.iload_n 3, 1) := by decide +kernel
theorem dX7_count_21 : decode cX7_count 21 = .ok (.bipush 12, 2) := by decide +kernel
theorem dX7_count_23 : decode cX7_count 23 = .ok (.if_icmp .ge 26, 3) := by decide +kernel
theorem dX7_count_26 : decode cX7_count 26 = .ok (.iload_n 2, 1) := by decide +kernel
theorem dX7_count_27 : decode cX7_count 27 = .ok (.aload_n 0, 1) := by decide +kernel
theorem dX7_count_28 : decode cX7_count 28 = .ok (.getfield 19, 3) := by decide +kernel
theorem dX7_count_31 : decode cX7_count 31 = .ok (.iload_n 3, 1) := by decide +kernel
theorem dX7_count_32 : decode cX7_count 32 = .ok (.baload, 1) := by decide +kernel
theorem dX7_count_33 : decode cX7_count 33 = .ok (.ifCond .eq 7, 3) := by decide +kernel
theorem dX7_count_36 : decode cX7_count 36 = .ok (.iconst 1, 1) := by decide +kernel
theorem dX7_count_37 : decode cX7_count 37 = .ok (.goto 4, 3) := by decide +kernel
theorem dX7_count_40 : decode cX7_count 40 = .ok (.iconst 0, 1) := by decide +kernel
theorem dX7_count_41 : decode cX7_count 41 = .ok (.iadd, 1) := by decide +kernel
theorem dX7_count_42 : decode cX7_count 42 = .ok (.istore_n 2, 1) := by decide +kernel
theorem dX7_count_43 : decode cX7_count 43 = .ok (.iinc 3 1, 3) := by decide +kernel
theorem dX7_count_46 : decode cX7_count 46 = .ok (.goto (-26), 3) := by decide +kernel
theorem dX7_count_49 : decode cX7_count 49 = .ok (.iload_n 1, 1) := by decide +kernel
theorem dX7_count_50 : decode cX7_count 50 = .ok (.ifCond .ne 7, 3) := by decide +kernel
theorem dX7_count_53 : decode cX7_count 53 = .ok (.iload_n 2, 1) := by decide +kernel
theorem dX7_count_54 : decode cX7_count 54 = .ok (.goto 55, 3) := by decide +kernel
theorem dX7_count_57 : decode cX7_count 57 = .ok (.iload_n 1, 1) := by decide +kernel
theorem dX7_count_58 : decode cX7_count 58 = .ok (.iconst 1, 1) := by decide +kernel
theorem dX7_count_59 : decode cX7_count 59 = .ok (.if_icmp .ne 10, 3) := by decide +kernel
theorem dX7_count_62 : decode cX7_count 62 = .ok (.aload_n 0, 1) := by decide +kernel
theorem dX7_count_63 : decode cX7_count 63 = .ok (.getfield 104, 3) := by decide +kernel
theorem dX7_count_66 : decode cX7_count 66 = .ok (.goto 43, 3) := by decide +kernel
theorem dX7_count_69 : decode cX7_count 69 = .ok (.iload_n 1, 1) := by decide +kernel
theorem dX7_count_70 : decode cX7_count 70 = .ok (.iconst 2, 1) := by decide +kernel
theorem dX7_count_71 : decode cX7_count 71 = .ok (.if_icmp .ne 10, 3) := by decide +kernel
theorem dX7_count_74 : decode cX7_count 74 = .ok (.aload_n 0, 1) := by decide +kernel
theorem dX7_count_75 : decode cX7_count 75 = .ok (.getfield 175, 3) := by decide +kernel
theorem dX7_count_78 : decode cX7_count 78 = .ok (.goto 31, 3) := by decide +kernel
theorem dX7_count_81 : decode cX7_count 81 = .ok (.iload_n 1, 1) := by decide +kernel
theorem dX7_count_82 : decode cX7_count 82 = .ok (.iconst 3, 1) := by decide +kernel
theorem dX7_count_83 : decode cX7_count 83 = .ok (.if_icmp .ne 10, 3) := by decide +kernel
theorem dX7_count_86 : decode cX7_count 86 = .ok (.aload_n 0, 1) := by decide +kernel
theorem dX7_count_87 : decode cX7_count 87 = .ok (.getfield 190, 3) := by decide +kernel
theorem dX7_count_90 : decode cX7_count 90 = .ok (.goto 19, 3) := by decide +kernel
theorem dX7_count_93 : decode cX7_count 93 = .ok (.iload_n 1, 1) := by decide +kernel
theorem dX7_count_94 : decode cX7_count 94 = .ok (.iconst 4, 1) := by decide +kernel
theorem dX7_count_95 : decode cX7_count 95 = .ok (.if_icmp .ne 10, 3) := by decide +kernel
theorem dX7_count_98 : decode cX7_count 98 = .ok (.aload_n 0, 1) := by decide +kernel
theorem dX7_count_99 : decode cX7_count 99 = .ok (.getfield 129, 3) := by decide +kernel
theorem dX7_count_102 : decode cX7_count 102 = .ok (.goto 7, 3) := by decide +kernel
theorem dX7_count_105 : decode cX7_count 105 = .ok (.aload_n 0, 1) := by decide +kernel
theorem dX7_count_106 : decode cX7_count 106 = .ok (.getfield 156, 3) := by decide +kernel
theorem dX7_count_109 : decode cX7_count 109 = .ok (.ireturn, 1) := by decide +kernel
end
