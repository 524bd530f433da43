/-! The instructions of the class, decoded. By program (wip/mkdec.py). -/
theorem dX6_init_0 : decode cX6_init 0 = .ok (.aload_n 0, 1) := by decide +kernel
theorem dX6_init_1 : decode cX6_init 1 = .ok (.invokespecial 1, 3) := by decide +kernel
theorem dX6_init_4 : decode cX6_init 4 = .ok (.aload_n 0, 1) := by decide +kernel
theorem dX6_init_5 : decode cX6_init 5 = .ok (.new 7, 3) := by decide +kernel
theorem dX6_init_8 : decode cX6_init 8 = .ok (.dup, 1) := by decide +kernel
theorem dX6_init_9 : decode cX6_init 9 = .ok (.invokespecial 9, 3) := by decide +kernel
theorem dX6_init_12 : decode cX6_init 12 = .ok (.putfield 10, 3) := by decide +kernel
theorem dX6_init_15 : decode cX6_init 15 = .ok (.aload_n 0, 1) := by decide +kernel
theorem dX6_init_16 : decode cX6_init 16 = .ok (.new 16, 3) := by decide +kernel
theorem dX6_init_19 : decode cX6_init 19 = .ok (.dup, 1) := by decide +kernel
theorem dX6_init_20 : decode cX6_init 20 = .ok (.invokespecial 18, 3) := by decide +kernel
theorem dX6_init_23 : decode cX6_init 23 = .ok (.putfield 19, 3) := by decide +kernel
theorem dX6_init_26 : decode cX6_init 26 = .ok (.aload_n 0, 1) := by decide +kernel
theorem dX6_init_27 : decode cX6_init 27 = .ok (.new 23, 3) := by decide +kernel
theorem dX6_init_30 : decode cX6_init 30 = .ok (.dup, 1) := by decide +kernel
theorem dX6_init_31 : decode cX6_init 31 = .ok (.invokespecial 25, 3) := by decide +kernel
theorem dX6_init_34 : decode cX6_init 34 = .ok (.putfield 26, 3) := by decide +kernel
theorem dX6_init_37 : decode cX6_init 37 = .ok (.aload_n 0, 1) := by decide +kernel
theorem dX6_init_38 : decode cX6_init 38 = .ok (.new 30, 3) := by decide +kernel
theorem dX6_init_41 : decode cX6_init 41 = .ok (.dup, 1) := by decide +kernel
theorem dX6_init_42 : decode cX6_init 42 = .ok (.aload_n 0, 1) := by decide +kernel
theorem dX6_init_43 : decode cX6_init 43 = .ok (.getfield 10, 3) := by decide +kernel
theorem dX6_init_46 : decode cX6_init 46 = .ok (.aload_n 0, 1) := by decide +kernel
theorem dX6_init_47 : decode cX6_init 47 = .ok (.getfield 26, 3) := by decide +kernel
theorem dX6_init_50 : decode cX6_init 50 = .ok (.invokespecial 32, 3) := by decide +kernel
theorem dX6_init_53 : decode cX6_init 53 = .ok (.putfield 35, 3) := by decide +kernel
theorem dX6_init_56 : decode cX6_init 56 = .ok (.aload_n 0, 1) := by decide +kernel
theorem dX6_init_57 : decode cX6_init 57 = .ok (.bipush 12, 2) := by decide +kernel
theorem dX6_init_59 : decode cX6_init 59 = .ok (.newarray .long, 2) := by decide +kernel
theorem dX6_init_61 : decode cX6_init 61 = .ok (.putfield 39, 3) := by decide +kernel
theorem dX6_init_64 : decode cX6_init 64 = .ok (.aload_n 0, 1) := by decide +kernel
theorem dX6_init_65 : decode cX6_init 65 = .ok (.iconst 0, 1) := by decide +kernel
theorem dX6_init_66 : decode cX6_init 66 = .ok (.putfield 43, 3) := by decide +kernel
theorem dX6_init_69 : decode cX6_init 69 = .ok (.return_, 1) := by decide +kernel
theorem dX6_type_0 : decode cX6_type 0 = .ok (.iload_n 3, 1) := by decide +kernel
theorem dX6_type_1 : decode cX6_type 1 = .ok (.iconst 1, 1) := by decide +kernel
theorem dX6_type_2 : decode cX6_type 2 = .ok (.if_icmp .lt 9, 3) := by decide +kernel
theorem dX6_type_5 : decode cX6_type 5 = .ok (.iload_n 3, 1) := by decide +kernel
theorem dX6_type_6 : decode cX6_type 6 = .ok (.bipush 8, 2) := by decide +kernel
theorem dX6_type_8 : decode cX6_type 8 = .ok (.if_icmp .le 13, 3) := by decide +kernel
theorem dX6_type_11 : decode cX6_type 11 = .ok (.new 47, 3) := by decide +kernel
theorem dX6_type_14 : decode cX6_type 14 = .ok (.dup, 1) := by decide +kernel
theorem dX6_type_15 : decode cX6_type 15 = .ok (.ldc 49, 2) := by decide +kernel
theorem dX6_type_17 : decode cX6_type 17 = .ok (.invokespecial 51, 3) := by decide +kernel
theorem dX6_type_20 : decode cX6_type 20 = .ok (.athrow, 1) := by decide +kernel
theorem dX6_type_21 : decode cX6_type 21 = .ok (.aload_n 0, 1) := by decide +kernel
theorem dX6_type_22 : decode cX6_type 22 = .ok (.getfield 10, 3) := by decide +kernel
theorem dX6_type_25 : decode cX6_type 25 = .ok (.invokevirtual 54, 3) := by decide +kernel
theorem dX6_type_28 : decode cX6_type 28 = .ok (.iload_n 3, 1) := by decide +kernel
theorem dX6_type_29 : decode cX6_type 29 = .ok (.iadd, 1) := by decide +kernel
theorem dX6_type_30 : decode cX6_type 30 = .ok (.sipush 300, 3) := by decide +kernel
theorem dX6_type_33 : decode cX6_type 33 = .ok (.if_icmp .le 13, 3) := by decide +kernel
theorem dX6_type_36 : decode cX6_type 36 = .ok (.new 58, 3) := by decide +kernel
theorem dX6_type_39 : decode cX6_type 39 = .ok (.dup, 1) := by decide +kernel
theorem dX6_type_40 : decode cX6_type 40 = .ok (.ldc 60, 2) := by decide +kernel
theorem dX6_type_42 : decode cX6_type 42 = .ok (.invokespecial 62, 3) := by decide +kernel
theorem dX6_type_45 : decode cX6_type 45 = .ok (.athrow, 1) := by decide +kernel
theorem dX6_type_46 : decode cX6_type 46 = .ok (.iload_n 3, 1) := by decide +kernel
theorem dX6_type_47 : decode cX6_type 47 = .ok (.iconst 1, 1) := by decide +kernel
theorem dX6_type_48 : decode cX6_type 48 = .ok (.isub, 1) := by decide +kernel
theorem dX6_type_49 : decode cX6_type 49 = .ok (.istore 4, 2) := by decide +kernel
theorem dX6_type_51 : decode cX6_type 51 = .ok (.iload 4, 2) := by decide +kernel
theorem dX6_type_53 : decode cX6_type 53 = .ok (.ifCond .lt 24, 3) := by decide +kernel
theorem dX6_type_56 : decode cX6_type 56 = .ok (.aload_n 0, 1) := by decide +kernel
theorem dX6_type_57 : decode cX6_type 57 = .ok (.getfield 10, 3) := by decide +kernel
theorem dX6_type_60 : decode cX6_type 60 = .ok (.lload_n 1, 1) := by decide +kernel
theorem dX6_type_61 : decode cX6_type 61 = .ok (.bipush 8, 2) := by decide +kernel
theorem dX6_type_63 : decode cX6_type 63 = .ok (.iload 4, 2) := by decide +kernel
theorem dX6_type_65 : decode cX6_type 65 = .ok (.imul, 1) := by decide +kernel
theorem dX6_type_66 : decode cX6_type 66 = .ok (.lushr, 1) := by decide +kernel
theorem dX6_type_67 : decode cX6_type 67 = .ok (.l2i, 1) := by decide +kernel
theorem dX6_type_68 : decode cX6_type 68 = .ok (.invokevirtual 63, 3) := by decide +kernel
theorem dX6_type_71 : decode cX6_type 71 = .ok (.iinc 4 (-1), 3) := by decide +kernel
theorem dX6_type_74 : decode cX6_type 74 = .ok (.goto (-23), 3) := by decide +kernel
theorem dX6_type_77 : decode cX6_type 77 = .ok (.aload_n 0, 1) := by decide +kernel
theorem dX6_type_78 : decode cX6_type 78 = .ok (.getfield 10, 3) := by decide +kernel
theorem dX6_type_81 : decode cX6_type 81 = .ok (.invokevirtual 54, 3) := by decide +kernel
theorem dX6_type_84 : decode cX6_type 84 = .ok (.ireturn, 1) := by decide +kernel
theorem dX6_keep_0 : decode cX6_keep 0 = .ok (.iload_n 1, 1) := by decide +kernel
theorem dX6_keep_1 : decode cX6_keep 1 = .ok (.ifCond .lt 14, 3) := by decide +kernel
theorem dX6_keep_4 : decode cX6_keep 4 = .ok (.iload_n 1, 1) := by decide +kernel
theorem dX6_keep_5 : decode cX6_keep 5 = .ok (.aload_n 0, 1) := by decide +kernel
theorem dX6_keep_6 : decode cX6_keep 6 = .ok (.getfield 10, 3) := by decide +kernel
theorem dX6_keep_9 : decode cX6_keep 9 = .ok (.invokevirtual 54, 3) := by decide +kernel
theorem dX6_keep_12 : decode cX6_keep 12 = .ok (.if_icmp .le 13, 3) := by decide +kernel
theorem dX6_keep_15 : decode cX6_keep 15 = .ok (.new 47, 3) := by decide +kernel
theorem dX6_keep_18 : decode cX6_keep 18 = .ok (.dup, 1) := by decide +kernel
theorem dX6_keep_19 : decode cX6_keep 19 = .ok (.ldc 67, 2) := by decide +kernel
theorem dX6_keep_21 : decode cX6_keep 21 = .ok (.invokespecial 51, 3) := by decide +kernel
theorem dX6_keep_24 : decode cX6_keep 24 = .ok (.athrow, 1) := by decide +kernel
theorem dX6_keep_25 : decode cX6_keep 25 = .ok (.aload_n 0, 1) := by decide +kernel
theorem dX6_keep_26 : decode cX6_keep 26 = .ok (.getfield 10, 3) := by decide +kernel
theorem dX6_keep_29 : decode cX6_keep 29 = .ok (.iload_n 1, 1) := by decide +kernel
theorem dX6_keep_30 : decode cX6_keep 30 = .ok (.invokevirtual 69, 3) := by decide +kernel
theorem dX6_keep_33 : decode cX6_keep 33 = .ok (.return_, 1) := by decide +kernel
theorem dX6_typed_0 : decode cX6_typed 0 = .ok (.iload_n 1, 1) := by decide +kernel
theorem dX6_typed_1 : decode cX6_typed 1 = .ok (.ifCond .lt 14, 3) := by decide +kernel
theorem dX6_typed_4 : decode cX6_typed 4 = .ok (.iload_n 1, 1) := by decide +kernel
theorem dX6_typed_5 : decode cX6_typed 5 = .ok (.aload_n 0, 1) := by decide +kernel
theorem dX6_typed_6 : decode cX6_typed 6 = .ok (.getfield 10, 3) := by decide +kernel
theorem dX6_typed_9 : decode cX6_typed 9 = .ok (.invokevirtual 54, 3) := by decide +kernel
theorem dX6_typed_12 : decode cX6_typed 12 = .ok (.if_icmp .lt 13, 3) := by decide +kernel
theorem dX6_typed_15 : decode cX6_typed 15 = .ok (.new 72, 3) := by decide +kernel
theorem dX6_typed_18 : decode cX6_typed 18 = .ok (.dup, 1) := by decide +kernel
theorem dX6_typed_19 : decode cX6_typed 19 = .ok (.ldc 74, 2) := by decide +kernel
theorem dX6_typed_21 : decode cX6_typed 21 = .ok (.invokespecial 76, 3) := by decide +kernel
theorem dX6_typed_24 : decode cX6_typed 24 = .ok (.athrow, 1) := by decide +kernel
theorem dX6_typed_25 : decode cX6_typed 25 = .ok (.aload_n 0, 1) := by decide +kernel
theorem dX6_typed_26 : decode cX6_typed 26 = .ok (.getfield 10, 3) := by decide +kernel
theorem dX6_typed_29 : decode cX6_typed 29 = .ok (.iload_n 1, 1) := by decide +kernel
theorem dX6_typed_30 : decode cX6_typed 30 = .ok (.invokevirtual 77, 3) := by decide +kernel
theorem dX6_typed_33 : decode cX6_typed 33 = .ok (.ireturn, 1) := by decide +kernel
theorem dX6_meter_0 : decode cX6_meter 0 = .ok (.iload_n 1, 1) := by decide +kernel
theorem dX6_meter_1 : decode cX6_meter 1 = .ok (.invokestatic 81, 3) := by decide +kernel
theorem dX6_meter_4 : decode cX6_meter 4 = .ok (.ifCond .ne 13, 3) := by decide +kernel
theorem dX6_meter_7 : decode cX6_meter 7 = .ok (.new 72, 3) := by decide +kernel
theorem dX6_meter_10 : decode cX6_meter 10 = .ok (.dup, 1) := by decide +kernel
theorem dX6_meter_11 : decode cX6_meter 11 = .ok (.ldc 85, 2) := by decide +kernel
theorem dX6_meter_13 : decode cX6_meter 13 = .ok (.invokespecial 76, 3) := by decide +kernel
theorem dX6_meter_16 : decode cX6_meter 16 = .ok (.athrow, 1) := by decide +kernel
theorem dX6_meter_17 : decode cX6_meter 17 = .ok (.iload_n 2, 1) := by decide +kernel
theorem dX6_meter_18 : decode cX6_meter 18 = .ok (.ifCond .lt 17, 3) := by decide +kernel
theorem dX6_meter_21 : decode cX6_meter 21 = .ok (.iload_n 2, 1) := by decide +kernel
theorem dX6_meter_22 : decode cX6_meter 22 = .ok (.sipush 250, 3) := by decide +kernel
theorem dX6_meter_25 : decode cX6_meter 25 = .ok (.if_icmp .gt 10, 3) := by decide +kernel
theorem dX6_meter_28 : decode cX6_meter 28 = .ok (.iload_n 3, 1) := by decide +kernel
theorem dX6_meter_29 : decode cX6_meter 29 = .ok (.invokestatic 87, 3) := by decide +kernel
theorem dX6_meter_32 : decode cX6_meter 32 = .ok (.ifCond .ne 13, 3) := by decide +kernel
theorem dX6_meter_35 : decode cX6_meter 35 = .ok (.new 47, 3) := by decide +kernel
theorem dX6_meter_38 : decode cX6_meter 38 = .ok (.dup, 1) := by decide +kernel
theorem dX6_meter_39 : decode cX6_meter 39 = .ok (.ldc 90, 2) := by decide +kernel
theorem dX6_meter_41 : decode cX6_meter 41 = .ok (.invokespecial 51, 3) := by decide +kernel
theorem dX6_meter_44 : decode cX6_meter 44 = .ok (.athrow, 1) := by decide +kernel
theorem dX6_meter_45 : decode cX6_meter 45 = .ok (.iload 4, 2) := by decide +kernel
theorem dX6_meter_47 : decode cX6_meter 47 = .ok (.sipush 255, 3) := by decide +kernel
theorem dX6_meter_50 : decode cX6_meter 50 = .ok (.iand, 1) := by decide +kernel
theorem dX6_meter_51 : decode cX6_meter 51 = .ok (.invokestatic 92, 3) := by decide +kernel
theorem dX6_meter_54 : decode cX6_meter 54 = .ok (.ifCond .eq 30, 3) := by decide +kernel
theorem dX6_meter_57 : decode cX6_meter 57 = .ok (.iload 4, 2) := by decide +kernel
theorem dX6_meter_59 : decode cX6_meter 59 = .ok (.bipush 8, 2) := by decide +kernel
theorem dX6_meter_61 : decode cX6_meter 61 = .ok (.ishr, 1) := by decide +kernel
theorem dX6_meter_62 : decode cX6_meter 62 = .ok (.invokestatic 92, 3) := by decide +kernel
theorem dX6_meter_65 : decode cX6_meter 65 = .ok (.ifCond .eq 19, 3) := by decide +kernel
theorem dX6_meter_68 : decode cX6_meter 68 = .ok (.iload 5, 2) := by decide +kernel
theorem dX6_meter_70 : decode cX6_meter 70 = .ok (.invokestatic 92, 3) := by decide +kernel
theorem dX6_meter_73 : decode cX6_meter 73 = .ok (.ifCond .eq 11, 3) := by decide +kernel
theorem dX6_meter_76 : decode cX6_meter 76 = .ok (.iload 6, 2) := by decide +kernel
theorem dX6_meter_78 : decode cX6_meter 78 = .ok (.invokestatic 92, 3) := by decide +kernel
theorem dX6_meter_81 : decode cX6_meter 81 = .ok (.ifCond .ne 13, 3) := by decide +kernel
theorem dX6_meter_84 : decode cX6_meter 84 = .ok (.new 47, 3) := by decide +kernel
theorem dX6_meter_87 : decode cX6_meter 87 = .ok (.dup, 1) := by decide +kernel
theorem dX6_meter_88 : decode cX6_meter 88 = .ok (.ldc 95, 2) := by decide +kernel
theorem dX6_meter_90 : decode cX6_meter 90 = .ok (.invokespecial 51, 3) := by decide +kernel
theorem dX6_meter_93 : decode cX6_meter 93 = .ok (.athrow, 1) := by decide +kernel
theorem dX6_meter_94 : decode cX6_meter 94 = .ok (.iload_n 3, 1) := by decide +kernel
theorem dX6_meter_95 : decode cX6_meter 95 = .ok (.i2l, 1) := by decide +kernel
theorem dX6_meter_96 : decode cX6_meter 96 = .ok (.ldc2_w 97, 3) := by decide +kernel
theorem dX6_meter_99 : decode cX6_meter 99 = .ok (.land, 1) := by decide +kernel
theorem dX6_meter_100 : decode cX6_meter 100 = .ok (.iload 4, 2) := by decide +kernel
theorem dX6_meter_102 : decode cX6_meter 102 = .ok (.i2l, 1) := by decide +kernel
theorem dX6_meter_103 : decode cX6_meter 103 = .ok (.bipush 32, 2) := by decide +kernel
theorem dX6_meter_105 : decode cX6_meter 105 = .ok (.lshl, 1) := by decide +kernel
theorem dX6_meter_106 : decode cX6_meter 106 = .ok (.lor, 1) := by decide +kernel
theorem dX6_meter_107 : decode cX6_meter 107 = .ok (.iload 5, 2) := by decide +kernel
theorem dX6_meter_109 : decode cX6_meter 109 = .ok (.i2l, 1) := by decide +kernel
theorem dX6_meter_110 : decode cX6_meter 110 = .ok (.bipush 48, 2) := by decide +kernel
theorem dX6_meter_112 : decode cX6_meter 112 = .ok (.lshl, 1) := by decide +kernel
theorem dX6_meter_113 : decode cX6_meter 113 = .ok (.lor, 1) := by decide +kernel
theorem dX6_meter_114 : decode cX6_meter 114 = .ok (.iload 6, 2) := by decide +kernel
theorem dX6_meter_116 : decode cX6_meter 116 = .ok (.i2l, 1) := by decide +kernel
theorem dX6_meter_117 : decode cX6_meter 117 = .ok (.bipush 56, 2) := by decide +kernel
theorem dX6_meter_119 : decode cX6_meter 119 = .ok (.lshl, 1) := by decide +kernel
theorem dX6_meter_120 : decode cX6_meter 120 = .ok (.lor, 1) := by decide +kernel
theorem dX6_meter_121 : decode cX6_meter 121 = .ok (.lstore 7, 2) := by decide +kernel
theorem dX6_meter_123 : decode cX6_meter 123 = .ok (.aload_n 0, 1) := by decide +kernel
theorem dX6_meter_124 : decode cX6_meter 124 = .ok (.getfield 19, 3) := by decide +kernel
theorem dX6_meter_127 : decode cX6_meter 127 = .ok (.iload_n 1, 1) := by decide +kernel
theorem dX6_meter_128 : decode cX6_meter 128 = .ok (.lload 7, 2) := by decide +kernel
theorem dX6_meter_130 : decode cX6_meter 130 = .ok (.invokevirtual 99, 3) := by decide +kernel
theorem dX6_meter_133 : decode cX6_meter 133 = .ok (.ifCond .eq 13, 3) := by decide +kernel
theorem dX6_meter_136 : decode cX6_meter 136 = .ok (.new 47, 3) := by decide +kernel
theorem dX6_meter_139 : decode cX6_meter 139 = .ok (.dup, 1) := by decide +kernel
theorem dX6_meter_140 : decode cX6_meter 140 = .ok (.ldc 103, 2) := by decide +kernel
theorem dX6_meter_142 : decode cX6_meter 142 = .ok (.invokespecial 51, 3) := by decide +kernel
theorem dX6_meter_145 : decode cX6_meter 145 = .ok (.athrow, 1) := by decide +kernel
theorem dX6_meter_146 : decode cX6_meter 146 = .ok (.aload_n 0, 1) := by decide +kernel
theorem dX6_meter_147 : decode cX6_meter 147 = .ok (.getfield 19, 3) := by decide +kernel
theorem dX6_meter_150 : decode cX6_meter 150 = .ok (.iload_n 1, 1) := by decide +kernel
theorem dX6_meter_151 : decode cX6_meter 151 = .ok (.new 105, 3) := by decide +kernel
theorem dX6_meter_154 : decode cX6_meter 154 = .ok (.dup, 1) := by decide +kernel
theorem dX6_meter_155 : decode cX6_meter 155 = .ok (.iload_n 2, 1) := by decide +kernel
theorem dX6_meter_156 : decode cX6_meter 156 = .ok (.lload 7, 2) := by decide +kernel
theorem dX6_meter_158 : decode cX6_meter 158 = .ok (.invokespecial 107, 3) := by decide +kernel
theorem dX6_meter_161 : decode cX6_meter 161 = .ok (.invokevirtual 110, 3) := by decide +kernel
theorem dX6_meter_164 : decode cX6_meter 164 = .ok (.return_, 1) := by decide +kernel
theorem dX6_remove_0 : decode cX6_remove 0 = .ok (.iload_n 1, 1) := by decide +kernel
theorem dX6_remove_1 : decode cX6_remove 1 = .ok (.invokestatic 81, 3) := by decide +kernel
theorem dX6_remove_4 : decode cX6_remove 4 = .ok (.ifCond .ne 13, 3) := by decide +kernel
theorem dX6_remove_7 : decode cX6_remove 7 = .ok (.new 72, 3) := by decide +kernel
theorem dX6_remove_10 : decode cX6_remove 10 = .ok (.dup, 1) := by decide +kernel
theorem dX6_remove_11 : decode cX6_remove 11 = .ok (.ldc 85, 2) := by decide +kernel
theorem dX6_remove_13 : decode cX6_remove 13 = .ok (.invokespecial 76, 3) := by decide +kernel
theorem dX6_remove_16 : decode cX6_remove 16 = .ok (.athrow, 1) := by decide +kernel
theorem dX6_remove_17 : decode cX6_remove 17 = .ok (.aload_n 0, 1) := by decide +kernel
theorem dX6_remove_18 : decode cX6_remove 18 = .ok (.getfield 19, 3) := by decide +kernel
theorem dX6_remove_21 : decode cX6_remove 21 = .ok (.iload_n 1, 1) := by decide +kernel
theorem dX6_remove_22 : decode cX6_remove 22 = .ok (.invokevirtual 114, 3) := by decide +kernel
theorem dX6_remove_25 : decode cX6_remove 25 = .ok (.ifnull 7, 3) := by decide +kernel
theorem dX6_remove_28 : decode cX6_remove 28 = .ok (.iconst 1, 1) := by decide +kernel
theorem dX6_remove_29 : decode cX6_remove 29 = .ok (.goto 4, 3) := by decide +kernel
theorem dX6_remove_32 : decode cX6_remove 32 = .ok (.iconst 0, 1) := by decide +kernel
theorem dX6_remove_33 : decode cX6_remove 33 = .ok (.istore_n 2, 1) := by decide +kernel
theorem dX6_remove_34 : decode cX6_remove 34 = .ok (.aload_n 0, 1) := by decide +kernel
theorem dX6_remove_35 : decode cX6_remove 35 = .ok (.getfield 19, 3) := by decide +kernel
theorem dX6_remove_38 : decode cX6_remove 38 = .ok (.iload_n 1, 1) := by decide +kernel
theorem dX6_remove_39 : decode cX6_remove 39 = .ok (.aconst_null, 1) := by decide +kernel
theorem dX6_remove_40 : decode cX6_remove 40 = .ok (.invokevirtual 110, 3) := by decide +kernel
theorem dX6_remove_43 : decode cX6_remove 43 = .ok (.iload_n 2, 1) := by decide +kernel
theorem dX6_remove_44 : decode cX6_remove 44 = .ok (.ireturn, 1) := by decide +kernel
theorem dX6_page_0 : decode cX6_page 0 = .ok (.aload_n 0, 1) := by decide +kernel
theorem dX6_page_1 : decode cX6_page 1 = .ok (.getfield 19, 3) := by decide +kernel
theorem dX6_page_4 : decode cX6_page 4 = .ok (.iload_n 1, 1) := by decide +kernel
theorem dX6_page_5 : decode cX6_page 5 = .ok (.invokevirtual 114, 3) := by decide +kernel
theorem dX6_page_8 : decode cX6_page 8 = .ok (.astore_n 3, 1) := by decide +kernel
theorem dX6_page_9 : decode cX6_page 9 = .ok (.aload_n 3, 1) := by decide +kernel
theorem dX6_page_10 : decode cX6_page 10 = .ok (.ifnull 12, 3) := by decide +kernel
theorem dX6_page_13 : decode cX6_page 13 = .ok (.iload_n 2, 1) := by decide +kernel
theorem dX6_page_14 : decode cX6_page 14 = .ok (.ifCond .lt 8, 3) := by decide +kernel
theorem dX6_page_17 : decode cX6_page 17 = .ok (.iload_n 2, 1) := by decide +kernel
theorem dX6_page_18 : decode cX6_page 18 = .ok (.iconst 3, 1) := by decide +kernel
theorem dX6_page_19 : decode cX6_page 19 = .ok (.if_icmp .lt 13, 3) := by decide +kernel
theorem dX6_page_22 : decode cX6_page 22 = .ok (.new 72, 3) := by decide +kernel
theorem dX6_page_25 : decode cX6_page 25 = .ok (.dup, 1) := by decide +kernel
theorem dX6_page_26 : decode cX6_page 26 = .ok (.ldc 118, 2) := by decide +kernel
theorem dX6_page_28 : decode cX6_page 28 = .ok (.invokespecial 76, 3) := by decide +kernel
theorem dX6_page_31 : decode cX6_page 31 = .ok (.athrow, 1) := by decide +kernel
theorem dX6_page_32 : decode cX6_page 32 = .ok (.aload_n 0, 1) := by decide +kernel
theorem dX6_page_33 : decode cX6_page 33 = .ok (.getfield 10, 3) := by decide +kernel
theorem dX6_page_36 : decode cX6_page 36 = .ok (.invokevirtual 54, 3) := by decide +kernel
theorem dX6_page_39 : decode cX6_page 39 = .ok (.bipush 60, 2) := by decide +kernel
theorem dX6_page_41 : decode cX6_page 41 = .ok (.if_icmp .le 13, 3) := by decide +kernel
theorem dX6_page_44 : decode cX6_page 44 = .ok (.new 58, 3) := by decide +kernel
theorem dX6_page_47 : decode cX6_page 47 = .ok (.dup, 1) := by decide +kernel
theorem dX6_page_48 : decode cX6_page 48 = .ok (.ldc 120, 2) := by decide +kernel
theorem dX6_page_50 : decode cX6_page 50 = .ok (.invokespecial 62, 3) := by decide +kernel
theorem dX6_page_53 : decode cX6_page 53 = .ok (.athrow, 1) := by decide +kernel
theorem dX6_page_54 : decode cX6_page 54 = .ok (.aload_n 3, 1) := by decide +kernel
theorem dX6_page_55 : decode cX6_page 55 = .ok (.iload_n 2, 1) := by decide +kernel
theorem dX6_page_56 : decode cX6_page 56 = .ok (.aload_n 0, 1) := by decide +kernel
theorem dX6_page_57 : decode cX6_page 57 = .ok (.getfield 10, 3) := by decide +kernel
theorem dX6_page_60 : decode cX6_page 60 = .ok (.invokevirtual 122, 3) := by decide +kernel
theorem dX6_page_63 : decode cX6_page 63 = .ok (.aload_n 0, 1) := by decide +kernel
theorem dX6_page_64 : decode cX6_page 64 = .ok (.getfield 10, 3) := by decide +kernel
theorem dX6_page_67 : decode cX6_page 67 = .ok (.iconst 0, 1) := by decide +kernel
theorem dX6_page_68 : decode cX6_page 68 = .ok (.invokevirtual 69, 3) := by decide +kernel
theorem dX6_page_71 : decode cX6_page 71 = .ok (.aload_n 3, 1) := by decide +kernel
theorem dX6_page_72 : decode cX6_page 72 = .ok (.invokevirtual 126, 3) := by decide +kernel
theorem dX6_page_75 : decode cX6_page 75 = .ok (.ireturn, 1) := by decide +kernel
theorem dX6_state_0 : decode cX6_state 0 = .ok (.iload_n 1, 1) := by decide +kernel
theorem dX6_state_1 : decode cX6_state 1 = .ok (.invokestatic 81, 3) := by decide +kernel
theorem dX6_state_4 : decode cX6_state 4 = .ok (.ifCond .eq 13, 3) := by decide +kernel
theorem dX6_state_7 : decode cX6_state 7 = .ok (.iload_n 2, 1) := by decide +kernel
theorem dX6_state_8 : decode cX6_state 8 = .ok (.ifCond .lt 9, 3) := by decide +kernel
theorem dX6_state_11 : decode cX6_state 11 = .ok (.iload_n 2, 1) := by decide +kernel
theorem dX6_state_12 : decode cX6_state 12 = .ok (.bipush 6, 2) := by decide +kernel
theorem dX6_state_14 : decode cX6_state 14 = .ok (.if_icmp .le 13, 3) := by decide +kernel
theorem dX6_state_17 : decode cX6_state 17 = .ok (.new 72, 3) := by decide +kernel
theorem dX6_state_20 : decode cX6_state 20 = .ok (.dup, 1) := by decide +kernel
theorem dX6_state_21 : decode cX6_state 21 = .ok (.ldc 129, 2) := by decide +kernel
theorem dX6_state_23 : decode cX6_state 23 = .ok (.invokespecial 76, 3) := by decide +kernel
theorem dX6_state_26 : decode cX6_state 26 = .ok (.athrow, 1) := by decide +kernel
theorem dX6_state_27 : decode cX6_state 27 = .ok (.aload_n 0, 1) := by decide +kernel
theorem dX6_state_28 : decode cX6_state 28 = .ok (.getfield 19, 3) := by decide +kernel
theorem dX6_state_31 : decode cX6_state 31 = .ok (.iload_n 1, 1) := by decide +kernel
theorem dX6_state_32 : decode cX6_state 32 = .ok (.invokevirtual 114, 3) := by decide +kernel
theorem dX6_state_35 : decode cX6_state 35 = .ok (.astore_n 3, 1) := by decide +kernel
theorem dX6_state_36 : decode cX6_state 36 = .ok (.aload_n 3, 1) := by decide +kernel
theorem dX6_state_37 : decode cX6_state 37 = .ok (.ifnonnull 7, 3) := by decide +kernel
theorem dX6_state_40 : decode cX6_state 40 = .ok (.iconst 0, 1) := by decide +kernel
theorem dX6_state_41 : decode cX6_state 41 = .ok (.goto 8, 3) := by decide +kernel
theorem dX6_state_44 : decode cX6_state 44 = .ok (.aload_n 3, 1) := by decide +kernel
theorem dX6_state_45 : decode cX6_state 45 = .ok (.iload_n 2, 1) := by decide +kernel
theorem dX6_state_46 : decode cX6_state 46 = .ok (.invokevirtual 131, 3) := by decide +kernel
theorem dX6_state_49 : decode cX6_state 49 = .ok (.ireturn, 1) := by decide +kernel
theorem dX6_send_0 : decode cX6_send 0 = .ok (.aload_n 0, 1) := by decide +kernel
theorem dX6_send_1 : decode cX6_send 1 = .ok (.getfield 19, 3) := by decide +kernel
theorem dX6_send_4 : decode cX6_send 4 = .ok (.aload_n 0, 1) := by decide +kernel
theorem dX6_send_5 : decode cX6_send 5 = .ok (.getfield 10, 3) := by decide +kernel
theorem dX6_send_8 : decode cX6_send 8 = .ok (.invokevirtual 134, 3) := by decide +kernel
theorem dX6_send_11 : decode cX6_send 11 = .ok (.istore_n 1, 1) := by decide +kernel
theorem dX6_send_12 : decode cX6_send 12 = .ok (.aload_n 0, 1) := by decide +kernel
theorem dX6_send_13 : decode cX6_send 13 = .ok (.getfield 10, 3) := by decide +kernel
theorem dX6_send_16 : decode cX6_send 16 = .ok (.aload_n 0, 1) := by decide +kernel
theorem dX6_send_17 : decode cX6_send 17 = .ok (.getfield 19, 3) := by decide +kernel
theorem dX6_send_20 : decode cX6_send 20 = .ok (.invokevirtual 138, 3) := by decide +kernel
theorem dX6_send_23 : decode cX6_send 23 = .ok (.invokevirtual 142, 3) := by decide +kernel
theorem dX6_send_26 : decode cX6_send 26 = .ok (.iload_n 1, 1) := by decide +kernel
theorem dX6_send_27 : decode cX6_send 27 = .ok (.ireturn, 1) := by decide +kernel
theorem dX6_search_0 : decode cX6_search 0 = .ok (.aload_n 0, 1) := by decide +kernel
theorem dX6_search_1 : decode cX6_search 1 = .ok (.iconst 0, 1) := by decide +kernel
theorem dX6_search_2 : decode cX6_search 2 = .ok (.putfield 43, 3) := by decide +kernel
theorem dX6_search_5 : decode cX6_search 5 = .ok (.aload_n 0, 1) := by decide +kernel
theorem dX6_search_6 : decode cX6_search 6 = .ok (.iconst 0, 1) := by decide +kernel
theorem dX6_search_7 : decode cX6_search 7 = .ok (.ldc2_w 146, 3) := by decide +kernel
theorem dX6_search_10 : decode cX6_search 10 = .ok (.invokevirtual 148, 3) := by decide +kernel
theorem dX6_search_13 : decode cX6_search 13 = .ok (.aload_n 0, 1) := by decide +kernel
theorem dX6_search_14 : decode cX6_search 14 = .ok (.getfield 43, 3) := by decide +kernel
theorem dX6_search_17 : decode cX6_search 17 = .ok (.ireturn, 1) := by decide +kernel
theorem dX6_found_0 : decode cX6_found 0 = .ok (.aload_n 0, 1) := by decide +kernel
theorem dX6_found_1 : decode cX6_found 1 = .ok (.iload_n 1, 1) := by decide +kernel
theorem dX6_found_2 : decode cX6_found 2 = .ok (.invokevirtual 151, 3) := by decide +kernel
theorem dX6_found_5 : decode cX6_found 5 = .ok (.ifCond .eq 13, 3) := by decide +kernel
theorem dX6_found_8 : decode cX6_found 8 = .ok (.iload_n 2, 1) := by decide +kernel
theorem dX6_found_9 : decode cX6_found 9 = .ok (.ifCond .lt 9, 3) := by decide +kernel
theorem dX6_found_12 : decode cX6_found 12 = .ok (.iload_n 2, 1) := by decide +kernel
theorem dX6_found_13 : decode cX6_found 13 = .ok (.bipush 8, 2) := by decide +kernel
theorem dX6_found_15 : decode cX6_found 15 = .ok (.if_icmp .lt 13, 3) := by decide +kernel
theorem dX6_found_18 : decode cX6_found 18 = .ok (.new 72, 3) := by decide +kernel
theorem dX6_found_21 : decode cX6_found 21 = .ok (.dup, 1) := by decide +kernel
theorem dX6_found_22 : decode cX6_found 22 = .ok (.ldc 154, 2) := by decide +kernel
theorem dX6_found_24 : decode cX6_found 24 = .ok (.invokespecial 76, 3) := by decide +kernel
theorem dX6_found_27 : decode cX6_found 27 = .ok (.athrow, 1) := by decide +kernel
theorem dX6_found_28 : decode cX6_found 28 = .ok (.aload_n 0, 1) := by decide +kernel
theorem dX6_found_29 : decode cX6_found 29 = .ok (.getfield 39, 3) := by decide +kernel
theorem dX6_found_32 : decode cX6_found 32 = .ok (.iload_n 1, 1) := by decide +kernel
theorem dX6_found_33 : decode cX6_found 33 = .ok (.laload, 1) := by decide +kernel
theorem dX6_found_34 : decode cX6_found 34 = .ok (.bipush 8, 2) := by decide +kernel
theorem dX6_found_36 : decode cX6_found 36 = .ok (.iload_n 2, 1) := by decide +kernel
theorem dX6_found_37 : decode cX6_found 37 = .ok (.imul, 1) := by decide +kernel
theorem dX6_found_38 : decode cX6_found 38 = .ok (.lushr, 1) := by decide +kernel
theorem dX6_found_39 : decode cX6_found 39 = .ok (.l2i, 1) := by decide +kernel
theorem dX6_found_40 : decode cX6_found 40 = .ok (.sipush 255, 3) := by decide +kernel
theorem dX6_found_43 : decode cX6_found 43 = .ok (.iand, 1) := by decide +kernel
theorem dX6_found_44 : decode cX6_found 44 = .ok (.ireturn, 1) := by decide +kernel
theorem dX6_readOut_0 : decode cX6_readOut 0 = .ok (.aload_n 0, 1) := by decide +kernel
theorem dX6_readOut_1 : decode cX6_readOut 1 = .ok (.iload_n 1, 1) := by decide +kernel
theorem dX6_readOut_2 : decode cX6_readOut 2 = .ok (.invokevirtual 151, 3) := by decide +kernel
theorem dX6_readOut_5 : decode cX6_readOut 5 = .ok (.ifCond .ne 13, 3) := by decide +kernel
theorem dX6_readOut_8 : decode cX6_readOut 8 = .ok (.new 72, 3) := by decide +kernel
theorem dX6_readOut_11 : decode cX6_readOut 11 = .ok (.dup, 1) := by decide +kernel
theorem dX6_readOut_12 : decode cX6_readOut 12 = .ok (.ldc 156, 2) := by decide +kernel
theorem dX6_readOut_14 : decode cX6_readOut 14 = .ok (.invokespecial 76, 3) := by decide +kernel
theorem dX6_readOut_17 : decode cX6_readOut 17 = .ok (.athrow, 1) := by decide +kernel
theorem dX6_readOut_18 : decode cX6_readOut 18 = .ok (.aload_n 0, 1) := by decide +kernel
theorem dX6_readOut_19 : decode cX6_readOut 19 = .ok (.getfield 26, 3) := by decide +kernel
theorem dX6_readOut_22 : decode cX6_readOut 22 = .ok (.iconst 0, 1) := by decide +kernel
theorem dX6_readOut_23 : decode cX6_readOut 23 = .ok (.invokevirtual 158, 3) := by decide +kernel
theorem dX6_readOut_26 : decode cX6_readOut 26 = .ok (.aload_n 0, 1) := by decide +kernel
theorem dX6_readOut_27 : decode cX6_readOut 27 = .ok (.getfield 35, 3) := by decide +kernel
theorem dX6_readOut_30 : decode cX6_readOut 30 = .ok (.invokevirtual 159, 3) := by decide +kernel
theorem dX6_readOut_33 : decode cX6_readOut 33 = .ok (.aload_n 0, 1) := by decide +kernel
theorem dX6_readOut_34 : decode cX6_readOut 34 = .ok (.aload_n 0, 1) := by decide +kernel
theorem dX6_readOut_35 : decode cX6_readOut 35 = .ok (.getfield 39, 3) := by decide +kernel
theorem dX6_readOut_38 : decode cX6_readOut 38 = .ok (.iload_n 1, 1) := by decide +kernel
theorem dX6_readOut_39 : decode cX6_readOut 39 = .ok (.laload, 1) := by decide +kernel
theorem dX6_readOut_40 : decode cX6_readOut 40 = .ok (.invokevirtual 162, 3) := by decide +kernel
theorem dX6_readOut_43 : decode cX6_readOut 43 = .ok (.ifCond .ne 5, 3) := by decide +kernel
theorem dX6_readOut_46 : decode cX6_readOut 46 = .ok (.iconst (-1), 1) := by decide +kernel
theorem dX6_readOut_47 : decode cX6_readOut 47 = .ok (.ireturn, 1) := by decide +kernel
theorem dX6_readOut_48 : decode cX6_readOut 48 = .ok (.iconst 1, 1) := by decide +kernel
theorem dX6_readOut_49 : decode cX6_readOut 49 = .ok (.istore_n 2, 1) := by decide +kernel
theorem dX6_readOut_50 : decode cX6_readOut 50 = .ok (.iconst 0, 1) := by decide +kernel
theorem dX6_readOut_51 : decode cX6_readOut 51 = .ok (.istore_n 3, 1) := by decide +kernel
theorem dX6_readOut_52 : decode cX6_readOut 52 = .ok (.iload_n 3, 1) := by decide +kernel
theorem dX6_readOut_53 : decode cX6_readOut 53 = .ok (.bipush 10, 2) := by decide +kernel
theorem dX6_readOut_55 : decode cX6_readOut 55 = .ok (.if_icmp .ge 93, 3) := by decide +kernel
theorem dX6_readOut_58 : decode cX6_readOut 58 = .ok (.iload_n 2, 1) := by decide +kernel
theorem dX6_readOut_59 : decode cX6_readOut 59 = .ok (.ifCond .eq 89, 3) := by decide +kernel
theorem dX6_readOut_62 : decode cX6_readOut 62 = .ok (.aload_n 0, 1) := by decide +kernel
theorem dX6_readOut_63 : decode cX6_readOut 63 = .ok (.getfield 19, 3) := by decide +kernel
theorem dX6_readOut_66 : decode cX6_readOut 66 = .ok (.iload_n 3, 1) := by decide +kernel
theorem dX6_readOut_67 : decode cX6_readOut 67 = .ok (.iconst 2, 1) := by decide +kernel
theorem dX6_readOut_68 : decode cX6_readOut 68 = .ok (.irem, 1) := by decide +kernel
theorem dX6_readOut_69 : decode cX6_readOut 69 = .ok (.ifCond .ne 8, 3) := by decide +kernel
theorem dX6_readOut_72 : decode cX6_readOut 72 = .ok (.bipush 123, 2) := by decide +kernel
theorem dX6_readOut_74 : decode cX6_readOut 74 = .ok (.goto 5, 3) := by decide +kernel
theorem dX6_readOut_77 : decode cX6_readOut 77 = .ok (.bipush 91, 2) := by decide +kernel
theorem dX6_readOut_79 : decode cX6_readOut 79 = .ok (.sipush 253, 3) := by decide +kernel
theorem dX6_readOut_82 : decode cX6_readOut 82 = .ok (.invokevirtual 166, 3) := by decide +kernel
theorem dX6_readOut_85 : decode cX6_readOut 85 = .ok (.ifCond .gt 13, 3) := by decide +kernel
theorem dX6_readOut_88 : decode cX6_readOut 88 = .ok (.aload_n 0, 1) := by decide +kernel
theorem dX6_readOut_89 : decode cX6_readOut 89 = .ok (.getfield 26, 3) := by decide +kernel
theorem dX6_readOut_92 : decode cX6_readOut 92 = .ok (.iconst 0, 1) := by decide +kernel
theorem dX6_readOut_93 : decode cX6_readOut 93 = .ok (.invokevirtual 158, 3) := by decide +kernel
theorem dX6_readOut_96 : decode cX6_readOut 96 = .ok (.iconst (-1), 1) := by decide +kernel
theorem dX6_readOut_97 : decode cX6_readOut 97 = .ok (.ireturn, 1) := by decide +kernel
theorem dX6_readOut_98 : decode cX6_readOut 98 = .ok (.aload_n 0, 1) := by decide +kernel
theorem dX6_readOut_99 : decode cX6_readOut 99 = .ok (.getfield 35, 3) := by decide +kernel
theorem dX6_readOut_102 : decode cX6_readOut 102 = .ok (.aload_n 0, 1) := by decide +kernel
theorem dX6_readOut_103 : decode cX6_readOut 103 = .ok (.getfield 19, 3) := by decide +kernel
theorem dX6_readOut_106 : decode cX6_readOut 106 = .ok (.invokevirtual 138, 3) := by decide +kernel
theorem dX6_readOut_109 : decode cX6_readOut 109 = .ok (.invokevirtual 170, 3) := by decide +kernel
theorem dX6_readOut_112 : decode cX6_readOut 112 = .ok (.ifCond .ne 22, 3) := by decide +kernel
theorem dX6_readOut_115 : decode cX6_readOut 115 = .ok (.aload_n 0, 1) := by decide +kernel
theorem dX6_readOut_116 : decode cX6_readOut 116 = .ok (.getfield 26, 3) := by decide +kernel
theorem dX6_readOut_119 : decode cX6_readOut 119 = .ok (.iconst 0, 1) := by decide +kernel
theorem dX6_readOut_120 : decode cX6_readOut 120 = .ok (.invokevirtual 158, 3) := by decide +kernel
theorem dX6_readOut_123 : decode cX6_readOut 123 = .ok (.bipush (-2), 2) := by decide +kernel
theorem dX6_readOut_125 : decode cX6_readOut 125 = .ok (.aload_n 0, 1) := by decide +kernel
theorem dX6_readOut_126 : decode cX6_readOut 126 = .ok (.getfield 35, 3) := by decide +kernel
theorem dX6_readOut_129 : decode cX6_readOut 129 = .ok (.invokevirtual 174, 3) := by decide +kernel
theorem dX6_readOut_132 : decode cX6_readOut 132 = .ok (.isub, 1) := by decide +kernel
theorem dX6_readOut_133 : decode cX6_readOut 133 = .ok (.ireturn, 1) := by decide +kernel
theorem dX6_readOut_134 : decode cX6_readOut 134 = .ok (.aload_n 0, 1) := by decide +kernel
theorem dX6_readOut_135 : decode cX6_readOut 135 = .ok (.getfield 35, 3) := by decide +kernel
theorem dX6_readOut_138 : decode cX6_readOut 138 = .ok (.invokevirtual 177, 3) := by decide +kernel
theorem dX6_readOut_141 : decode cX6_readOut 141 = .ok (.istore_n 2, 1) := by decide +kernel
theorem dX6_readOut_142 : decode cX6_readOut 142 = .ok (.iinc 3 1, 3) := by decide +kernel
theorem dX6_readOut_145 : decode cX6_readOut 145 = .ok (.goto (-93), 3) := by decide +kernel
theorem dX6_readOut_148 : decode cX6_readOut 148 = .ok (.aload_n 0, 1) := by decide +kernel
theorem dX6_readOut_149 : decode cX6_readOut 149 = .ok (.getfield 26, 3) := by decide +kernel
theorem dX6_readOut_152 : decode cX6_readOut 152 = .ok (.invokevirtual 181, 3) := by decide +kernel
theorem dX6_readOut_155 : decode cX6_readOut 155 = .ok (.ireturn, 1) := by decide +kernel
theorem dX6_decode_0 : decode cX6_decode 0 = .ok (.aload_n 0, 1) := by decide +kernel
theorem dX6_decode_1 : decode cX6_decode 1 = .ok (.getfield 35, 3) := by decide +kernel
theorem dX6_decode_4 : decode cX6_decode 4 = .ok (.aload_n 0, 1) := by decide +kernel
theorem dX6_decode_5 : decode cX6_decode 5 = .ok (.getfield 10, 3) := by decide +kernel
theorem dX6_decode_8 : decode cX6_decode 8 = .ok (.invokevirtual 170, 3) := by decide +kernel
theorem dX6_decode_11 : decode cX6_decode 11 = .ok (.ifCond .eq 13, 3) := by decide +kernel
theorem dX6_decode_14 : decode cX6_decode 14 = .ok (.aload_n 0, 1) := by decide +kernel
theorem dX6_decode_15 : decode cX6_decode 15 = .ok (.getfield 26, 3) := by decide +kernel
theorem dX6_decode_18 : decode cX6_decode 18 = .ok (.invokevirtual 181, 3) := by decide +kernel
theorem dX6_decode_21 : decode cX6_decode 21 = .ok (.goto 11, 3) := by decide +kernel
theorem dX6_decode_24 : decode cX6_decode 24 = .ok (.aload_n 0, 1) := by decide +kernel
theorem dX6_decode_25 : decode cX6_decode 25 = .ok (.getfield 35, 3) := by decide +kernel
theorem dX6_decode_28 : decode cX6_decode 28 = .ok (.invokevirtual 174, 3) := by decide +kernel
theorem dX6_decode_31 : decode cX6_decode 31 = .ok (.ineg, 1) := by decide +kernel
theorem dX6_decode_32 : decode cX6_decode 32 = .ok (.ireturn, 1) := by decide +kernel
theorem dX6_place_0 : decode cX6_place 0 = .ok (.aload_n 0, 1) := by decide +kernel
theorem dX6_place_1 : decode cX6_place 1 = .ok (.getfield 35, 3) := by decide +kernel
theorem dX6_place_4 : decode cX6_place 4 = .ok (.invokevirtual 182, 3) := by decide +kernel
theorem dX6_place_7 : decode cX6_place 7 = .ok (.ireturn, 1) := by decide +kernel
theorem dX6_clear_0 : decode cX6_clear 0 = .ok (.aload_n 0, 1) := by decide +kernel
theorem dX6_clear_1 : decode cX6_clear 1 = .ok (.getfield 26, 3) := by decide +kernel
theorem dX6_clear_4 : decode cX6_clear 4 = .ok (.invokevirtual 181, 3) := by decide +kernel
theorem dX6_clear_7 : decode cX6_clear 7 = .ok (.istore_n 1, 1) := by decide +kernel
theorem dX6_clear_8 : decode cX6_clear 8 = .ok (.aload_n 0, 1) := by decide +kernel
theorem dX6_clear_9 : decode cX6_clear 9 = .ok (.getfield 26, 3) := by decide +kernel
theorem dX6_clear_12 : decode cX6_clear 12 = .ok (.iconst 0, 1) := by decide +kernel
theorem dX6_clear_13 : decode cX6_clear 13 = .ok (.invokevirtual 158, 3) := by decide +kernel
theorem dX6_clear_16 : decode cX6_clear 16 = .ok (.iload_n 1, 1) := by decide +kernel
theorem dX6_clear_17 : decode cX6_clear 17 = .ok (.ireturn, 1) := by decide +kernel
theorem dX6_record_0 : decode cX6_record 0 = .ok (.aload_n 0, 1) := by decide +kernel
theorem dX6_record_1 : decode cX6_record 1 = .ok (.getfield 26, 3) := by decide +kernel
theorem dX6_record_4 : decode cX6_record 4 = .ok (.iload_n 1, 1) := by decide +kernel
theorem dX6_record_5 : decode cX6_record 5 = .ok (.invokevirtual 185, 3) := by decide +kernel
theorem dX6_record_8 : decode cX6_record 8 = .ok (.astore_n 3, 1) := by decide +kernel
theorem dX6_record_9 : decode cX6_record 9 = .ok (.aload_n 3, 1) := by decide +kernel
theorem dX6_record_10 : decode cX6_record 10 = .ok (.ifnull 18, 3) := by decide +kernel
theorem dX6_record_13 : decode cX6_record 13 = .ok (.iload_n 2, 1) := by decide +kernel
theorem dX6_record_14 : decode cX6_record 14 = .ok (.ifCond .lt 14, 3) := by decide +kernel
theorem dX6_record_17 : decode cX6_record 17 = .ok (.iload_n 2, 1) := by decide +kernel
theorem dX6_record_18 : decode cX6_record 18 = .ok (.bipush 7, 2) := by decide +kernel
theorem dX6_record_20 : decode cX6_record 20 = .ok (.aload_n 3, 1) := by decide +kernel
theorem dX6_record_21 : decode cX6_record 21 = .ok (.invokevirtual 188, 3) := by decide +kernel
theorem dX6_record_24 : decode cX6_record 24 = .ok (.iadd, 1) := by decide +kernel
theorem dX6_record_25 : decode cX6_record 25 = .ok (.if_icmp .lt 13, 3) := by decide +kernel
theorem dX6_record_28 : decode cX6_record 28 = .ok (.new 72, 3) := by decide +kernel
theorem dX6_record_31 : decode cX6_record 31 = .ok (.dup, 1) := by decide +kernel
theorem dX6_record_32 : decode cX6_record 32 = .ok (.ldc 193, 2) := by decide +kernel
theorem dX6_record_34 : decode cX6_record 34 = .ok (.invokespecial 76, 3) := by decide +kernel
theorem dX6_record_37 : decode cX6_record 37 = .ok (.athrow, 1) := by decide +kernel
theorem dX6_record_38 : decode cX6_record 38 = .ok (.aload_n 3, 1) := by decide +kernel
theorem dX6_record_39 : decode cX6_record 39 = .ok (.iload_n 2, 1) := by decide +kernel
theorem dX6_record_40 : decode cX6_record 40 = .ok (.invokevirtual 195, 3) := by decide +kernel
theorem dX6_record_43 : decode cX6_record 43 = .ok (.lreturn, 1) := by decide +kernel
theorem dX6_text_0 : decode cX6_text 0 = .ok (.aload_n 0, 1) := by decide +kernel
theorem dX6_text_1 : decode cX6_text 1 = .ok (.getfield 26, 3) := by decide +kernel
theorem dX6_text_4 : decode cX6_text 4 = .ok (.iload_n 1, 1) := by decide +kernel
theorem dX6_text_5 : decode cX6_text 5 = .ok (.invokevirtual 185, 3) := by decide +kernel
theorem dX6_text_8 : decode cX6_text 8 = .ok (.astore_n 3, 1) := by decide +kernel
theorem dX6_text_9 : decode cX6_text 9 = .ok (.aload_n 3, 1) := by decide +kernel
theorem dX6_text_10 : decode cX6_text 10 = .ok (.ifnull 15, 3) := by decide +kernel
theorem dX6_text_13 : decode cX6_text 13 = .ok (.iload_n 2, 1) := by decide +kernel
theorem dX6_text_14 : decode cX6_text 14 = .ok (.ifCond .lt 11, 3) := by decide +kernel
theorem dX6_text_17 : decode cX6_text 17 = .ok (.iload_n 2, 1) := by decide +kernel
theorem dX6_text_18 : decode cX6_text 18 = .ok (.aload_n 3, 1) := by decide +kernel
theorem dX6_text_19 : decode cX6_text 19 = .ok (.invokevirtual 198, 3) := by decide +kernel
theorem dX6_text_22 : decode cX6_text 22 = .ok (.if_icmp .lt 13, 3) := by decide +kernel
theorem dX6_text_25 : decode cX6_text 25 = .ok (.new 72, 3) := by decide +kernel
theorem dX6_text_28 : decode cX6_text 28 = .ok (.dup, 1) := by decide +kernel
theorem dX6_text_29 : decode cX6_text 29 = .ok (.ldc 201, 2) := by decide +kernel
theorem dX6_text_31 : decode cX6_text 31 = .ok (.invokespecial 76, 3) := by decide +kernel
theorem dX6_text_34 : decode cX6_text 34 = .ok (.athrow, 1) := by decide +kernel
theorem dX6_text_35 : decode cX6_text 35 = .ok (.aload_n 3, 1) := by decide +kernel
theorem dX6_text_36 : decode cX6_text 36 = .ok (.iload_n 2, 1) := by decide +kernel
theorem dX6_text_37 : decode cX6_text 37 = .ok (.invokevirtual 203, 3) := by decide +kernel
theorem dX6_text_40 : decode cX6_text 40 = .ok (.ireturn, 1) := by decide +kernel
theorem dX6_count_0 : decode cX6_count 0 = .ok (.iload_n 1, 1) := by decide +kernel
theorem dX6_count_1 : decode cX6_count 1 = .ok (.tableswitch 84 0 5 #[39, 47, 55, 60, 68, 76], 39) := by decide +kernel
theorem dX6_count_40 : decode cX6_count 40 = .ok (.aload_n 0, 1) := by decide +kernel
theorem dX6_count_41 : decode cX6_count 41 = .ok (.getfield 19, 3) := by decide +kernel
theorem dX6_count_44 : decode cX6_count 44 = .ok (.invokevirtual 206, 3) := by decide +kernel
theorem dX6_count_47 : decode cX6_count 47 = .ok (.ireturn, 1) := by decide +kernel
theorem dX6_count_48 : decode cX6_count 48 = .ok (.aload_n 0, 1) := by decide +kernel
theorem dX6_count_49 : decode cX6_count 49 = .ok (.getfield 10, 3) := by decide +kernel
theorem dX6_count_52 : decode cX6_count 52 = .ok (.invokevirtual 54, 3) := by decide +kernel
theorem dX6_count_55 : decode cX6_count 55 = .ok (.ireturn, 1) := by decide +kernel
theorem dX6_count_56 : decode cX6_count 56 = .ok (.aload_n 0, 1) := by decide +kernel
theorem dX6_count_57 : decode cX6_count 57 = .ok (.getfield 43, 3) := by decide +kernel
theorem dX6_count_60 : decode cX6_count 60 = .ok (.ireturn, 1) := by decide +kernel
theorem dX6_count_61 : decode cX6_count 61 = .ok (.aload_n 0, 1) := by decide +kernel
theorem dX6_count_62 : decode cX6_count 62 = .ok (.getfield 26, 3) := by decide +kernel
theorem dX6_count_65 : decode cX6_count 65 = .ok (.invokevirtual 181, 3) := by decide +kernel
theorem dX6_count_68 : decode cX6_count 68 = .ok (.ireturn, 1) := by decide +kernel
theorem dX6_count_69 : decode cX6_count 69 = .ok (.aload_n 0, 1) := by decide +kernel
theorem dX6_count_70 : decode cX6_count 70 = .ok (.getfield 19, 3) := by decide +kernel
theorem dX6_count_73 : decode cX6_count 73 = .ok (.invokevirtual 209, 3) := by decide +kernel
theorem dX6_count_76 : decode cX6_count 76 = .ok (.ireturn, 1) := by decide +kernel
theorem dX6_count_77 : decode cX6_count 77 = .ok (.aload_n 0, 1) := by decide +kernel
theorem dX6_count_78 : decode cX6_count 78 = .ok (.getfield 19, 3) := by decide +kernel
theorem dX6_count_81 : decode cX6_count 81 = .ok (.invokevirtual 212, 3) := by decide +kernel
theorem dX6_count_84 : decode cX6_count 84 = .ok (.ireturn, 1) := by decide +kernel
theorem dX6_count_85 : decode cX6_count 85 = .ok (.new 72, 3) := by decide +kernel
theorem dX6_count_88 : decode cX6_count 88 = .ok (.dup, 1) := by decide +kernel
theorem dX6_count_89 : decode cX6_count 89 = .ok (.ldc 215, 2) := by decide +kernel
theorem dX6_count_91 : decode cX6_count 91 = .ok (.invokespecial 76, 3) := by decide +kernel
theorem dX6_count_94 : decode cX6_count 94 = .ok (.athrow, 1) := by decide +kernel
theorem dX6_probe_0 : decode cX6_probe 0 = .ok (.aload_n 0, 1) := by decide +kernel
theorem dX6_probe_1 : decode cX6_probe 1 = .ok (.getfield 19, 3) := by decide +kernel
theorem dX6_probe_4 : decode cX6_probe 4 = .ok (.lload_n 2, 1) := by decide +kernel
theorem dX6_probe_5 : decode cX6_probe 5 = .ok (.invokevirtual 217, 3) := by decide +kernel
theorem dX6_probe_8 : decode cX6_probe 8 = .ok (.istore 4, 2) := by decide +kernel
theorem dX6_probe_10 : decode cX6_probe 10 = .ok (.iload 4, 2) := by decide +kernel
theorem dX6_probe_12 : decode cX6_probe 12 = .ok (.iconst 1, 1) := by decide +kernel
theorem dX6_probe_13 : decode cX6_probe 13 = .ok (.if_icmp .ne 15, 3) := by decide +kernel
theorem dX6_probe_16 : decode cX6_probe 16 = .ok (.aload_n 0, 1) := by decide +kernel
theorem dX6_probe_17 : decode cX6_probe 17 = .ok (.lload_n 2, 1) := by decide +kernel
theorem dX6_probe_18 : decode cX6_probe 18 = .ok (.invokevirtual 221, 3) := by decide +kernel
theorem dX6_probe_21 : decode cX6_probe 21 = .ok (.aload_n 0, 1) := by decide +kernel
theorem dX6_probe_22 : decode cX6_probe 22 = .ok (.invokevirtual 225, 3) := by decide +kernel
theorem dX6_probe_25 : decode cX6_probe 25 = .ok (.goto 62, 3) := by decide +kernel
theorem dX6_probe_28 : decode cX6_probe 28 = .ok (.iload 4, 2) := by decide +kernel
theorem dX6_probe_30 : decode cX6_probe 30 = .ok (.bipush (-2), 2) := by decide +kernel
theorem dX6_probe_32 : decode cX6_probe 32 = .ok (.if_icmp .ne 55, 3) := by decide +kernel
theorem dX6_probe_35 : decode cX6_probe 35 = .ok (.iload_n 1, 1) := by decide +kernel
theorem dX6_probe_36 : decode cX6_probe 36 = .ok (.bipush 12, 2) := by decide +kernel
theorem dX6_probe_38 : decode cX6_probe 38 = .ok (.if_icmp .ge 49, 3) := by decide +kernel
theorem dX6_probe_41 : decode cX6_probe 41 = .ok (.iload_n 1, 1) := by decide +kernel
theorem dX6_probe_42 : decode cX6_probe 42 = .ok (.bipush 8, 2) := by decide +kernel
theorem dX6_probe_44 : decode cX6_probe 44 = .ok (.if_icmp .ge 8, 3) := by decide +kernel
theorem dX6_probe_47 : decode cX6_probe 47 = .ok (.bipush 10, 2) := by decide +kernel
theorem dX6_probe_49 : decode cX6_probe 49 = .ok (.goto 6, 3) := by decide +kernel
theorem dX6_probe_52 : decode cX6_probe 52 = .ok (.sipush 255, 3) := by decide +kernel
theorem dX6_probe_55 : decode cX6_probe 55 = .ok (.istore 5, 2) := by decide +kernel
theorem dX6_probe_57 : decode cX6_probe 57 = .ok (.iconst 0, 1) := by decide +kernel
theorem dX6_probe_58 : decode cX6_probe 58 = .ok (.istore 6, 2) := by decide +kernel
theorem dX6_probe_60 : decode cX6_probe 60 = .ok (.iload 6, 2) := by decide +kernel
theorem dX6_probe_62 : decode cX6_probe 62 = .ok (.iload 5, 2) := by decide +kernel
theorem dX6_probe_64 : decode cX6_probe 64 = .ok (.if_icmp .ge 23, 3) := by decide +kernel
theorem dX6_probe_67 : decode cX6_probe 67 = .ok (.aload_n 0, 1) := by decide +kernel
theorem dX6_probe_68 : decode cX6_probe 68 = .ok (.iload_n 1, 1) := by decide +kernel
theorem dX6_probe_69 : decode cX6_probe 69 = .ok (.iconst 1, 1) := by decide +kernel
theorem dX6_probe_70 : decode cX6_probe 70 = .ok (.iadd, 1) := by decide +kernel
theorem dX6_probe_71 : decode cX6_probe 71 = .ok (.lload_n 2, 1) := by decide +kernel
theorem dX6_probe_72 : decode cX6_probe 72 = .ok (.iload_n 1, 1) := by decide +kernel
theorem dX6_probe_73 : decode cX6_probe 73 = .ok (.iload 6, 2) := by decide +kernel
theorem dX6_probe_75 : decode cX6_probe 75 = .ok (.invokestatic 228, 3) := by decide +kernel
theorem dX6_probe_78 : decode cX6_probe 78 = .ok (.invokevirtual 148, 3) := by decide +kernel
theorem dX6_probe_81 : decode cX6_probe 81 = .ok (.iinc 6 1, 3) := by decide +kernel
theorem dX6_probe_84 : decode cX6_probe 84 = .ok (.goto (-24), 3) := by decide +kernel
theorem dX6_probe_87 : decode cX6_probe 87 = .ok (.return_, 1) := by decide +kernel
theorem dX6_withPart_0 : decode cX6_withPart 0 = .ok (.iload_n 2, 1) := by decide +kernel
theorem dX6_withPart_1 : decode cX6_withPart 1 = .ok (.bipush 8, 2) := by decide +kernel
theorem dX6_withPart_3 : decode cX6_withPart 3 = .ok (.if_icmp .ge 30, 3) := by decide +kernel
theorem dX6_withPart_6 : decode cX6_withPart 6 = .ok (.iconst 4, 1) := by decide +kernel
theorem dX6_withPart_7 : decode cX6_withPart 7 = .ok (.bipush 7, 2) := by decide +kernel
theorem dX6_withPart_9 : decode cX6_withPart 9 = .ok (.iload_n 2, 1) := by decide +kernel
theorem dX6_withPart_10 : decode cX6_withPart 10 = .ok (.isub, 1) := by decide +kernel
theorem dX6_withPart_11 : decode cX6_withPart 11 = .ok (.imul, 1) := by decide +kernel
theorem dX6_withPart_12 : decode cX6_withPart 12 = .ok (.istore 4, 2) := by decide +kernel
theorem dX6_withPart_14 : decode cX6_withPart 14 = .ok (.lload_n 0, 1) := by decide +kernel
theorem dX6_withPart_15 : decode cX6_withPart 15 = .ok (.ldc2_w 232, 3) := by decide +kernel
theorem dX6_withPart_18 : decode cX6_withPart 18 = .ok (.iload 4, 2) := by decide +kernel
theorem dX6_withPart_20 : decode cX6_withPart 20 = .ok (.lshl, 1) := by decide +kernel
theorem dX6_withPart_21 : decode cX6_withPart 21 = .ok (.ldc2_w 146, 3) := by decide +kernel
theorem dX6_withPart_24 : decode cX6_withPart 24 = .ok (.lxor, 1) := by decide +kernel
theorem dX6_withPart_25 : decode cX6_withPart 25 = .ok (.land, 1) := by decide +kernel
theorem dX6_withPart_26 : decode cX6_withPart 26 = .ok (.iload_n 3, 1) := by decide +kernel
theorem dX6_withPart_27 : decode cX6_withPart 27 = .ok (.i2l, 1) := by decide +kernel
theorem dX6_withPart_28 : decode cX6_withPart 28 = .ok (.iload 4, 2) := by decide +kernel
theorem dX6_withPart_30 : decode cX6_withPart 30 = .ok (.lshl, 1) := by decide +kernel
theorem dX6_withPart_31 : decode cX6_withPart 31 = .ok (.lor, 1) := by decide +kernel
theorem dX6_withPart_32 : decode cX6_withPart 32 = .ok (.lreturn, 1) := by decide +kernel
theorem dX6_withPart_33 : decode cX6_withPart 33 = .ok (.bipush 32, 2) := by decide +kernel
theorem dX6_withPart_35 : decode cX6_withPart 35 = .ok (.bipush 8, 2) := by decide +kernel
theorem dX6_withPart_37 : decode cX6_withPart 37 = .ok (.iload_n 2, 1) := by decide +kernel
theorem dX6_withPart_38 : decode cX6_withPart 38 = .ok (.bipush 8, 2) := by decide +kernel
theorem dX6_withPart_40 : decode cX6_withPart 40 = .ok (.isub, 1) := by decide +kernel
theorem dX6_withPart_41 : decode cX6_withPart 41 = .ok (.imul, 1) := by decide +kernel
theorem dX6_withPart_42 : decode cX6_withPart 42 = .ok (.iadd, 1) := by decide +kernel
theorem dX6_withPart_43 : decode cX6_withPart 43 = .ok (.istore 4, 2) := by decide +kernel
theorem dX6_withPart_45 : decode cX6_withPart 45 = .ok (.lload_n 0, 1) := by decide +kernel
theorem dX6_withPart_46 : decode cX6_withPart 46 = .ok (.ldc2_w 234, 3) := by decide +kernel
theorem dX6_withPart_49 : decode cX6_withPart 49 = .ok (.iload 4, 2) := by decide +kernel
theorem dX6_withPart_51 : decode cX6_withPart 51 = .ok (.lshl, 1) := by decide +kernel
theorem dX6_withPart_52 : decode cX6_withPart 52 = .ok (.ldc2_w 146, 3) := by decide +kernel
theorem dX6_withPart_55 : decode cX6_withPart 55 = .ok (.lxor, 1) := by decide +kernel
theorem dX6_withPart_56 : decode cX6_withPart 56 = .ok (.land, 1) := by decide +kernel
theorem dX6_withPart_57 : decode cX6_withPart 57 = .ok (.iload_n 3, 1) := by decide +kernel
theorem dX6_withPart_58 : decode cX6_withPart 58 = .ok (.i2l, 1) := by decide +kernel
theorem dX6_withPart_59 : decode cX6_withPart 59 = .ok (.iload 4, 2) := by decide +kernel
theorem dX6_withPart_61 : decode cX6_withPart 61 = .ok (.lshl, 1) := by decide +kernel
theorem dX6_withPart_62 : decode cX6_withPart 62 = .ok (.lor, 1) := by decide +kernel
theorem dX6_withPart_63 : decode cX6_withPart 63 = .ok (.lreturn, 1) := by decide +kernel
theorem dX6_addFound_0 : decode cX6_addFound 0 = .ok (.aload_n 0, 1) := by decide +kernel
theorem dX6_addFound_1 : decode cX6_addFound 1 = .ok (.getfield 19, 3) := by decide +kernel
theorem dX6_addFound_4 : decode cX6_addFound 4 = .ok (.bipush 91, 2) := by decide +kernel
theorem dX6_addFound_6 : decode cX6_addFound 6 = .ok (.sipush 253, 3) := by decide +kernel
theorem dX6_addFound_9 : decode cX6_addFound 9 = .ok (.invokevirtual 166, 3) := by decide +kernel
theorem dX6_addFound_12 : decode cX6_addFound 12 = .ok (.istore_n 1, 1) := by decide +kernel
theorem dX6_addFound_13 : decode cX6_addFound 13 = .ok (.iload_n 1, 1) := by decide +kernel
theorem dX6_addFound_14 : decode cX6_addFound 14 = .ok (.ifCond .le 43, 3) := by decide +kernel
theorem dX6_addFound_17 : decode cX6_addFound 17 = .ok (.aload_n 0, 1) := by decide +kernel
theorem dX6_addFound_18 : decode cX6_addFound 18 = .ok (.getfield 43, 3) := by decide +kernel
theorem dX6_addFound_21 : decode cX6_addFound 21 = .ok (.bipush 12, 2) := by decide +kernel
theorem dX6_addFound_23 : decode cX6_addFound 23 = .ok (.if_icmp .ge 34, 3) := by decide +kernel
theorem dX6_addFound_26 : decode cX6_addFound 26 = .ok (.aload_n 0, 1) := by decide +kernel
theorem dX6_addFound_27 : decode cX6_addFound 27 = .ok (.getfield 39, 3) := by decide +kernel
theorem dX6_addFound_30 : decode cX6_addFound 30 = .ok (.aload_n 0, 1) := by decide +kernel
theorem dX6_addFound_31 : decode cX6_addFound 31 = .ok (.getfield 43, 3) := by decide +kernel
theorem dX6_addFound_34 : decode cX6_addFound 34 = .ok (.aload_n 0, 1) := by decide +kernel
theorem dX6_addFound_35 : decode cX6_addFound 35 = .ok (.getfield 19, 3) := by decide +kernel
theorem dX6_addFound_38 : decode cX6_addFound 38 = .ok (.invokevirtual 138, 3) := by decide +kernel
theorem dX6_addFound_41 : decode cX6_addFound 41 = .ok (.bipush 7, 2) := by decide +kernel
theorem dX6_addFound_43 : decode cX6_addFound 43 = .ok (.invokevirtual 236, 3) := by decide +kernel
theorem dX6_addFound_46 : decode cX6_addFound 46 = .ok (.lastore, 1) := by decide +kernel
theorem dX6_addFound_47 : decode cX6_addFound 47 = .ok (.aload_n 0, 1) := by decide +kernel
theorem dX6_addFound_48 : decode cX6_addFound 48 = .ok (.dup, 1) := by decide +kernel
theorem dX6_addFound_49 : decode cX6_addFound 49 = .ok (.getfield 43, 3) := by decide +kernel
theorem dX6_addFound_52 : decode cX6_addFound 52 = .ok (.iconst 1, 1) := by decide +kernel
theorem dX6_addFound_53 : decode cX6_addFound 53 = .ok (.iadd, 1) := by decide +kernel
theorem dX6_addFound_54 : decode cX6_addFound 54 = .ok (.putfield 43, 3) := by decide +kernel
theorem dX6_addFound_57 : decode cX6_addFound 57 = .ok (.return_, 1) := by decide +kernel
theorem dX6_isSelected_0 : decode cX6_isSelected 0 = .ok (.aload_n 0, 1) := by decide +kernel
theorem dX6_isSelected_1 : decode cX6_isSelected 1 = .ok (.getfield 19, 3) := by decide +kernel
theorem dX6_isSelected_4 : decode cX6_isSelected 4 = .ok (.lload_n 1, 1) := by decide +kernel
theorem dX6_isSelected_5 : decode cX6_isSelected 5 = .ok (.invokevirtual 217, 3) := by decide +kernel
theorem dX6_isSelected_8 : decode cX6_isSelected 8 = .ok (.iconst 1, 1) := by decide +kernel
theorem dX6_isSelected_9 : decode cX6_isSelected 9 = .ok (.if_icmp .ne 7, 3) := by decide +kernel
theorem dX6_isSelected_12 : decode cX6_isSelected 12 = .ok (.iconst 1, 1) := by decide +kernel
theorem dX6_isSelected_13 : decode cX6_isSelected 13 = .ok (.goto 4, 3) := by decide +kernel
theorem dX6_isSelected_16 : decode cX6_isSelected 16 = .ok (.iconst 0, 1) := by decide +kernel
theorem dX6_isSelected_17 : decode cX6_isSelected 17 = .ok (.istore_n 3, 1) := by decide +kernel
theorem dX6_isSelected_18 : decode cX6_isSelected 18 = .ok (.iload_n 3, 1) := by decide +kernel
theorem dX6_isSelected_19 : decode cX6_isSelected 19 = .ok (.ifCond .eq 8, 3) := by decide +kernel
theorem dX6_isSelected_22 : decode cX6_isSelected 22 = .ok (.aload_n 0, 1) := by decide +kernel
theorem dX6_isSelected_23 : decode cX6_isSelected 23 = .ok (.lload_n 1, 1) := by decide +kernel
theorem dX6_isSelected_24 : decode cX6_isSelected 24 = .ok (.invokevirtual 221, 3) := by decide +kernel
theorem dX6_isSelected_27 : decode cX6_isSelected 27 = .ok (.iload_n 3, 1) := by decide +kernel
theorem dX6_isSelected_28 : decode cX6_isSelected 28 = .ok (.ireturn, 1) := by decide +kernel
theorem dX6_resetSelected_0 : decode cX6_resetSelected 0 = .ok (.aload_n 0, 1) := by decide +kernel
theorem dX6_resetSelected_1 : decode cX6_resetSelected 1 = .ok (.getfield 19, 3) := by decide +kernel
theorem dX6_resetSelected_4 : decode cX6_resetSelected 4 = .ok (.bipush 64, 2) := by decide +kernel
theorem dX6_resetSelected_6 : decode cX6_resetSelected 6 = .ok (.sipush 253, 3) := by decide +kernel
theorem dX6_resetSelected_9 : decode cX6_resetSelected 9 = .ok (.invokevirtual 166, 3) := by decide +kernel
theorem dX6_resetSelected_12 : decode cX6_resetSelected 12 = .ok (.pop, 1) := by decide +kernel
theorem dX6_resetSelected_13 : decode cX6_resetSelected 13 = .ok (.aload_n 0, 1) := by decide +kernel
theorem dX6_resetSelected_14 : decode cX6_resetSelected 14 = .ok (.getfield 19, 3) := by decide +kernel
theorem dX6_resetSelected_17 : decode cX6_resetSelected 17 = .ok (.lload_n 1, 1) := by decide +kernel
theorem dX6_resetSelected_18 : decode cX6_resetSelected 18 = .ok (.invokevirtual 217, 3) := by decide +kernel
theorem dX6_resetSelected_21 : decode cX6_resetSelected 21 = .ok (.pop, 1) := by decide +kernel
theorem dX6_resetSelected_22 : decode cX6_resetSelected 22 = .ok (.return_, 1) := by decide +kernel
theorem dX6_isFoundOne_0 : decode cX6_isFoundOne 0 = .ok (.iload_n 1, 1) := by decide +kernel
theorem dX6_isFoundOne_1 : decode cX6_isFoundOne 1 = .ok (.ifCond .lt 21, 3) := by decide +kernel
theorem dX6_isFoundOne_4 : decode cX6_isFoundOne 4 = .ok (.iload_n 1, 1) := by decide +kernel
theorem dX6_isFoundOne_5 : decode cX6_isFoundOne 5 = .ok (.aload_n 0, 1) := by decide +kernel
theorem dX6_isFoundOne_6 : decode cX6_isFoundOne 6 = .ok (.getfield 43, 3) := by decide +kernel
theorem dX6_isFoundOne_9 : decode cX6_isFoundOne 9 = .ok (.if_icmp .ge 13, 3) := by decide +kernel
theorem dX6_isFoundOne_12 : decode cX6_isFoundOne 12 = .ok (.iload_n 1, 1) := by decide +kernel
theorem dX6_isFoundOne_13 : decode cX6_isFoundOne 13 = .ok (.bipush 12, 2) := by decide +kernel
theorem dX6_isFoundOne_15 : decode cX6_isFoundOne 15 = .ok (.if_icmp .ge 7, 3) := by decide +kernel
theorem dX6_isFoundOne_18 : decode cX6_isFoundOne 18 = .ok (.iconst 1, 1) := by decide +kernel
theorem dX6_isFoundOne_19 : decode cX6_isFoundOne 19 = .ok (.goto 4, 3) := by decide +kernel
theorem dX6_isFoundOne_22 : decode cX6_isFoundOne 22 = .ok (.iconst 0, 1) := by decide +kernel
theorem dX6_isFoundOne_23 : decode cX6_isFoundOne 23 = .ok (.ireturn, 1) := by decide +kernel
theorem dX6_isMeterNumber_0 : decode cX6_isMeterNumber 0 = .ok (.iload_n 0, 1) := by decide +kernel
theorem dX6_isMeterNumber_1 : decode cX6_isMeterNumber 1 = .ok (.ifCond .lt 13, 3) := by decide +kernel
theorem dX6_isMeterNumber_4 : decode cX6_isMeterNumber 4 = .ok (.iload_n 0, 1) := by decide +kernel
theorem dX6_isMeterNumber_5 : decode cX6_isMeterNumber 5 = .ok (.bipush 12, 2) := by decide +kernel
theorem dX6_isMeterNumber_7 : decode cX6_isMeterNumber 7 = .ok (.if_icmp .ge 7, 3) := by decide +kernel
theorem dX6_isMeterNumber_10 : decode cX6_isMeterNumber 10 = .ok (.iconst 1, 1) := by decide +kernel
theorem dX6_isMeterNumber_11 : decode cX6_isMeterNumber 11 = .ok (.goto 4, 3) := by decide +kernel
theorem dX6_isMeterNumber_14 : decode cX6_isMeterNumber 14 = .ok (.iconst 0, 1) := by decide +kernel
theorem dX6_isMeterNumber_15 : decode cX6_isMeterNumber 15 = .ok (.ireturn, 1) := by decide +kernel
theorem dX6_isAddressByte_0 : decode cX6_isAddressByte 0 = .ok (.iload_n 0, 1) := by decide +kernel
theorem dX6_isAddressByte_1 : decode cX6_isAddressByte 1 = .ok (.ifCond .lt 14, 3) := by decide +kernel
theorem dX6_isAddressByte_4 : decode cX6_isAddressByte 4 = .ok (.iload_n 0, 1) := by decide +kernel
theorem dX6_isAddressByte_5 : decode cX6_isAddressByte 5 = .ok (.sipush 254, 3) := by decide +kernel
theorem dX6_isAddressByte_8 : decode cX6_isAddressByte 8 = .ok (.if_icmp .gt 7, 3) := by decide +kernel
theorem dX6_isAddressByte_11 : decode cX6_isAddressByte 11 = .ok (.iconst 1, 1) := by decide +kernel
theorem dX6_isAddressByte_12 : decode cX6_isAddressByte 12 = .ok (.goto 4, 3) := by decide +kernel
theorem dX6_isAddressByte_15 : decode cX6_isAddressByte 15 = .ok (.iconst 0, 1) := by decide +kernel
theorem dX6_isAddressByte_16 : decode cX6_isAddressByte 16 = .ok (.ireturn, 1) := by decide +kernel
theorem dX6_areDigits_0 : decode cX6_areDigits 0 = .ok (.iconst 0, 1) := by decide +kernel
theorem dX6_areDigits_1 : decode cX6_areDigits 1 = .ok (.istore_n 1, 1) := by decide +kernel
theorem dX6_areDigits_2 : decode cX6_areDigits 2 = .ok (.iload_n 1, 1) := by decide +kernel
theorem dX6_areDigits_3 : decode cX6_areDigits 3 = .ok (.bipush 32, 2) := by decide +kernel
theorem dX6_areDigits_5 : decode cX6_areDigits 5 = .ok (.if_icmp .ge 22, 3) := by decide +kernel
theorem dX6_areDigits_8 : decode cX6_areDigits 8 = .ok (.iload_n 0, 1) := by decide +kernel
theorem dX6_areDigits_9 : decode cX6_areDigits 9 = .ok (.iload_n 1, 1) := by decide +kernel
theorem dX6_areDigits_10 : decode cX6_areDigits 10 = .ok (.iushr, 1) := by decide +kernel
theorem dX6_areDigits_11 : decode cX6_areDigits 11 = .ok (.bipush 15, 2) := by decide +kernel
theorem dX6_areDigits_13 : decode cX6_areDigits 13 = .ok (.iand, 1) := by decide +kernel
theorem dX6_areDigits_14 : decode cX6_areDigits 14 = .ok (.bipush 9, 2) := by decide +kernel
theorem dX6_areDigits_16 : decode cX6_areDigits 16 = .ok (.if_icmp .le 5, 3) := by decide +kernel
theorem dX6_areDigits_19 : decode cX6_areDigits 19 = .ok (.iconst 0, 1) := by decide +kernel
theorem dX6_areDigits_20 : decode cX6_areDigits 20 = .ok (.ireturn, 1) := by decide +kernel
theorem dX6_areDigits_21 : decode cX6_areDigits 21 = .ok (.iinc 1 4, 3) := by decide +kernel
theorem dX6_areDigits_24 : decode cX6_areDigits 24 = .ok (.goto (-22), 3) := by decide +kernel
theorem dX6_areDigits_27 : decode cX6_areDigits 27 = .ok (.iconst 1, 1) := by decide +kernel
theorem dX6_areDigits_28 : decode cX6_areDigits 28 = .ok (.ireturn, 1) := by decide +kernel
