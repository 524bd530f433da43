/-! The instructions of the class, decoded. By program (wip/mkdec.py). -/
theorem dX0_init_0 : decode cX0_init 0 = .ok (.aload_n 0, 1) := by decide +kernel
theorem dX0_init_1 : decode cX0_init 1 = .ok (.invokespecial 3, 3) := by decide +kernel
theorem dX0_init_4 : decode cX0_init 4 = .ok (.aload_n 0, 1) := by decide +kernel
theorem dX0_init_5 : decode cX0_init 5 = .ok (.bipush 12, 2) := by decide +kernel
theorem dX0_init_7 : decode cX0_init 7 = .ok (.anewarray 9, 3) := by decide +kernel
theorem dX0_init_10 : decode cX0_init 10 = .ok (.putfield 11, 3) := by decide +kernel
theorem dX0_init_13 : decode cX0_init 13 = .ok (.aload_n 0, 1) := by decide +kernel
theorem dX0_init_14 : decode cX0_init 14 = .ok (.new 17, 3) := by decide +kernel
theorem dX0_init_17 : decode cX0_init 17 = .ok (.dup, 1) := by decide +kernel
theorem dX0_init_18 : decode cX0_init 18 = .ok (.invokespecial 19, 3) := by decide +kernel
theorem dX0_init_21 : decode cX0_init 21 = .ok (.putfield 20, 3) := by decide +kernel
theorem dX0_init_24 : decode cX0_init 24 = .ok (.aload_n 0, 1) := by decide +kernel
theorem dX0_init_25 : decode cX0_init 25 = .ok (.iconst 0, 1) := by decide +kernel
theorem dX0_init_26 : decode cX0_init 26 = .ok (.putfield 24, 3) := by decide +kernel
theorem dX0_init_29 : decode cX0_init 29 = .ok (.aload_n 0, 1) := by decide +kernel
theorem dX0_init_30 : decode cX0_init 30 = .ok (.iconst 0, 1) := by decide +kernel
theorem dX0_init_31 : decode cX0_init 31 = .ok (.putfield 28, 3) := by decide +kernel
theorem dX0_init_34 : decode cX0_init 34 = .ok (.return_, 1) := by decide +kernel
theorem dX0_meterAt_0 : decode cX0_meterAt 0 = .ok (.iload_n 1, 1) := by decide +kernel
theorem dX0_meterAt_1 : decode cX0_meterAt 1 = .ok (.ifCond .lt 18, 3) := by decide +kernel
theorem dX0_meterAt_4 : decode cX0_meterAt 4 = .ok (.iload_n 1, 1) := by decide +kernel
theorem dX0_meterAt_5 : decode cX0_meterAt 5 = .ok (.bipush 12, 2) := by decide +kernel
theorem dX0_meterAt_7 : decode cX0_meterAt 7 = .ok (.if_icmp .ge 12, 3) := by decide +kernel
theorem dX0_meterAt_10 : decode cX0_meterAt 10 = .ok (.aload_n 0, 1) := by decide +kernel
theorem dX0_meterAt_11 : decode cX0_meterAt 11 = .ok (.getfield 11, 3) := by decide +kernel
theorem dX0_meterAt_14 : decode cX0_meterAt 14 = .ok (.iload_n 1, 1) := by decide +kernel
theorem dX0_meterAt_15 : decode cX0_meterAt 15 = .ok (.aaload, 1) := by decide +kernel
theorem dX0_meterAt_16 : decode cX0_meterAt 16 = .ok (.goto 4, 3) := by decide +kernel
theorem dX0_meterAt_19 : decode cX0_meterAt 19 = .ok (.aconst_null, 1) := by decide +kernel
theorem dX0_meterAt_20 : decode cX0_meterAt 20 = .ok (.areturn, 1) := by decide +kernel
theorem dX0_plug_0 : decode cX0_plug 0 = .ok (.iload_n 1, 1) := by decide +kernel
theorem dX0_plug_1 : decode cX0_plug 1 = .ok (.ifCond .lt 16, 3) := by decide +kernel
theorem dX0_plug_4 : decode cX0_plug 4 = .ok (.iload_n 1, 1) := by decide +kernel
theorem dX0_plug_5 : decode cX0_plug 5 = .ok (.bipush 12, 2) := by decide +kernel
theorem dX0_plug_7 : decode cX0_plug 7 = .ok (.if_icmp .ge 10, 3) := by decide +kernel
theorem dX0_plug_10 : decode cX0_plug 10 = .ok (.aload_n 0, 1) := by decide +kernel
theorem dX0_plug_11 : decode cX0_plug 11 = .ok (.getfield 11, 3) := by decide +kernel
theorem dX0_plug_14 : decode cX0_plug 14 = .ok (.iload_n 1, 1) := by decide +kernel
theorem dX0_plug_15 : decode cX0_plug 15 = .ok (.aload_n 2, 1) := by decide +kernel
theorem dX0_plug_16 : decode cX0_plug 16 = .ok (.aastore, 1) := by decide +kernel
theorem dX0_plug_17 : decode cX0_plug 17 = .ok (.return_, 1) := by decide +kernel
theorem dX0_hasAnother_0 : decode cX0_hasAnother 0 = .ok (.iconst 0, 1) := by decide +kernel
theorem dX0_hasAnother_1 : decode cX0_hasAnother 1 = .ok (.istore 4, 2) := by decide +kernel
theorem dX0_hasAnother_3 : decode cX0_hasAnother 3 = .ok (.iload 4, 2) := by decide +kernel
theorem dX0_hasAnother_5 : decode cX0_hasAnother 5 = .ok (.bipush 12, 2) := by decide +kernel
theorem dX0_hasAnother_7 : decode cX0_hasAnother 7 = .ok (.if_icmp .ge 41, 3) := by decide +kernel
theorem dX0_hasAnother_10 : decode cX0_hasAnother 10 = .ok (.iload 4, 2) := by decide +kernel
theorem dX0_hasAnother_12 : decode cX0_hasAnother 12 = .ok (.iload_n 1, 1) := by decide +kernel
theorem dX0_hasAnother_13 : decode cX0_hasAnother 13 = .ok (.if_icmp .eq 29, 3) := by decide +kernel
theorem dX0_hasAnother_16 : decode cX0_hasAnother 16 = .ok (.aload_n 0, 1) := by decide +kernel
theorem dX0_hasAnother_17 : decode cX0_hasAnother 17 = .ok (.getfield 11, 3) := by decide +kernel
theorem dX0_hasAnother_20 : decode cX0_hasAnother 20 = .ok (.iload 4, 2) := by decide +kernel
theorem dX0_hasAnother_22 : decode cX0_hasAnother 22 = .ok (.aaload, 1) := by decide +kernel
theorem dX0_hasAnother_23 : decode cX0_hasAnother 23 = .ok (.ifnull 19, 3) := by decide +kernel
theorem dX0_hasAnother_26 : decode cX0_hasAnother 26 = .ok (.aload_n 0, 1) := by decide +kernel
theorem dX0_hasAnother_27 : decode cX0_hasAnother 27 = .ok (.getfield 11, 3) := by decide +kernel
theorem dX0_hasAnother_30 : decode cX0_hasAnother 30 = .ok (.iload 4, 2) := by decide +kernel
theorem dX0_hasAnother_32 : decode cX0_hasAnother 32 = .ok (.aaload, 1) := by decide +kernel
theorem dX0_hasAnother_33 : decode cX0_hasAnother 33 = .ok (.lload_n 2, 1) := by decide +kernel
theorem dX0_hasAnother_34 : decode cX0_hasAnother 34 = .ok (.invokevirtual 31, 3) := by decide +kernel
theorem dX0_hasAnother_37 : decode cX0_hasAnother 37 = .ok (.ifCond .eq 5, 3) := by decide +kernel
theorem dX0_hasAnother_40 : decode cX0_hasAnother 40 = .ok (.iconst 1, 1) := by decide +kernel
theorem dX0_hasAnother_41 : decode cX0_hasAnother 41 = .ok (.ireturn, 1) := by decide +kernel
theorem dX0_hasAnother_42 : decode cX0_hasAnother 42 = .ok (.iinc 4 1, 3) := by decide +kernel
theorem dX0_hasAnother_45 : decode cX0_hasAnother 45 = .ok (.goto (-42), 3) := by decide +kernel
theorem dX0_hasAnother_48 : decode cX0_hasAnother 48 = .ok (.iconst 0, 1) := by decide +kernel
theorem dX0_hasAnother_49 : decode cX0_hasAnother 49 = .ok (.ireturn, 1) := by decide +kernel
theorem dX0_meterNumber_0 : decode cX0_meterNumber 0 = .ok (.iconst 0, 1) := by decide +kernel
theorem dX0_meterNumber_1 : decode cX0_meterNumber 1 = .ok (.istore_n 1, 1) := by decide +kernel
theorem dX0_meterNumber_2 : decode cX0_meterNumber 2 = .ok (.iconst 0, 1) := by decide +kernel
theorem dX0_meterNumber_3 : decode cX0_meterNumber 3 = .ok (.istore_n 2, 1) := by decide +kernel
theorem dX0_meterNumber_4 : decode cX0_meterNumber 4 = .ok (.iload_n 2, 1) := by decide +kernel
theorem dX0_meterNumber_5 : decode cX0_meterNumber 5 = .ok (.bipush 12, 2) := by decide +kernel
theorem dX0_meterNumber_7 : decode cX0_meterNumber 7 = .ok (.if_icmp .ge 21, 3) := by decide +kernel
theorem dX0_meterNumber_10 : decode cX0_meterNumber 10 = .ok (.aload_n 0, 1) := by decide +kernel
theorem dX0_meterNumber_11 : decode cX0_meterNumber 11 = .ok (.getfield 11, 3) := by decide +kernel
theorem dX0_meterNumber_14 : decode cX0_meterNumber 14 = .ok (.iload_n 2, 1) := by decide +kernel
theorem dX0_meterNumber_15 : decode cX0_meterNumber 15 = .ok (.aaload, 1) := by decide +kernel
theorem dX0_meterNumber_16 : decode cX0_meterNumber 16 = .ok (.ifnull 6, 3) := by decide +kernel
theorem dX0_meterNumber_19 : decode cX0_meterNumber 19 = .ok (.iinc 1 1, 3) := by decide +kernel
theorem dX0_meterNumber_22 : decode cX0_meterNumber 22 = .ok (.iinc 2 1, 3) := by decide +kernel
theorem dX0_meterNumber_25 : decode cX0_meterNumber 25 = .ok (.goto (-21), 3) := by decide +kernel
theorem dX0_meterNumber_28 : decode cX0_meterNumber 28 = .ok (.iload_n 1, 1) := by decide +kernel
theorem dX0_meterNumber_29 : decode cX0_meterNumber 29 = .ok (.ireturn, 1) := by decide +kernel
theorem dX0_frameNumber_0 : decode cX0_frameNumber 0 = .ok (.aload_n 0, 1) := by decide +kernel
theorem dX0_frameNumber_1 : decode cX0_frameNumber 1 = .ok (.getfield 24, 3) := by decide +kernel
theorem dX0_frameNumber_4 : decode cX0_frameNumber 4 = .ok (.ireturn, 1) := by decide +kernel
theorem dX0_collisionNumber_0 : decode cX0_collisionNumber 0 = .ok (.aload_n 0, 1) := by decide +kernel
theorem dX0_collisionNumber_1 : decode cX0_collisionNumber 1 = .ok (.getfield 28, 3) := by decide +kernel
theorem dX0_collisionNumber_4 : decode cX0_collisionNumber 4 = .ok (.ireturn, 1) := by decide +kernel
theorem dX0_lastAnswer_0 : decode cX0_lastAnswer 0 = .ok (.aload_n 0, 1) := by decide +kernel
theorem dX0_lastAnswer_1 : decode cX0_lastAnswer 1 = .ok (.getfield 20, 3) := by decide +kernel
theorem dX0_lastAnswer_4 : decode cX0_lastAnswer 4 = .ok (.areturn, 1) := by decide +kernel
theorem dX0_put_0 : decode cX0_put 0 = .ok (.aload_n 1, 1) := by decide +kernel
theorem dX0_put_1 : decode cX0_put 1 = .ok (.invokevirtual 35, 3) := by decide +kernel
theorem dX0_put_4 : decode cX0_put 4 = .ok (.ifCond .eq 18, 3) := by decide +kernel
theorem dX0_put_7 : decode cX0_put 7 = .ok (.aload_n 0, 1) := by decide +kernel
theorem dX0_put_8 : decode cX0_put 8 = .ok (.aload_n 1, 1) := by decide +kernel
theorem dX0_put_9 : decode cX0_put 9 = .ok (.iconst 1, 1) := by decide +kernel
theorem dX0_put_10 : decode cX0_put 10 = .ok (.invokevirtual 39, 3) := by decide +kernel
theorem dX0_put_13 : decode cX0_put 13 = .ok (.aload_n 1, 1) := by decide +kernel
theorem dX0_put_14 : decode cX0_put 14 = .ok (.iconst 2, 1) := by decide +kernel
theorem dX0_put_15 : decode cX0_put 15 = .ok (.invokevirtual 39, 3) := by decide +kernel
theorem dX0_put_18 : decode cX0_put 18 = .ok (.invokevirtual 43, 3) := by decide +kernel
theorem dX0_put_21 : decode cX0_put 21 = .ok (.ireturn, 1) := by decide +kernel
theorem dX0_put_22 : decode cX0_put 22 = .ok (.aload_n 1, 1) := by decide +kernel
theorem dX0_put_23 : decode cX0_put 23 = .ok (.invokevirtual 47, 3) := by decide +kernel
theorem dX0_put_26 : decode cX0_put 26 = .ok (.ifCond .eq 29, 3) := by decide +kernel
theorem dX0_put_29 : decode cX0_put 29 = .ok (.aload_n 1, 1) := by decide +kernel
theorem dX0_put_30 : decode cX0_put 30 = .ok (.iconst 4, 1) := by decide +kernel
theorem dX0_put_31 : decode cX0_put 31 = .ok (.invokevirtual 39, 3) := by decide +kernel
theorem dX0_put_34 : decode cX0_put 34 = .ok (.bipush 83, 2) := by decide +kernel
theorem dX0_put_36 : decode cX0_put 36 = .ok (.if_icmp .eq 13, 3) := by decide +kernel
theorem dX0_put_39 : decode cX0_put 39 = .ok (.aload_n 1, 1) := by decide +kernel
theorem dX0_put_40 : decode cX0_put 40 = .ok (.iconst 4, 1) := by decide +kernel
theorem dX0_put_41 : decode cX0_put 41 = .ok (.invokevirtual 39, 3) := by decide +kernel
theorem dX0_put_44 : decode cX0_put 44 = .ok (.bipush 115, 2) := by decide +kernel
theorem dX0_put_46 : decode cX0_put 46 = .ok (.if_icmp .ne 9, 3) := by decide +kernel
theorem dX0_put_49 : decode cX0_put 49 = .ok (.aload_n 0, 1) := by decide +kernel
theorem dX0_put_50 : decode cX0_put 50 = .ok (.aload_n 1, 1) := by decide +kernel
theorem dX0_put_51 : decode cX0_put 51 = .ok (.invokevirtual 50, 3) := by decide +kernel
theorem dX0_put_54 : decode cX0_put 54 = .ok (.ireturn, 1) := by decide +kernel
theorem dX0_put_55 : decode cX0_put 55 = .ok (.aload_n 0, 1) := by decide +kernel
theorem dX0_put_56 : decode cX0_put 56 = .ok (.dup, 1) := by decide +kernel
theorem dX0_put_57 : decode cX0_put 57 = .ok (.getfield 24, 3) := by decide +kernel
theorem dX0_put_60 : decode cX0_put 60 = .ok (.iconst 1, 1) := by decide +kernel
theorem dX0_put_61 : decode cX0_put 61 = .ok (.iadd, 1) := by decide +kernel
theorem dX0_put_62 : decode cX0_put 62 = .ok (.putfield 24, 3) := by decide +kernel
theorem dX0_put_65 : decode cX0_put 65 = .ok (.aload_n 0, 1) := by decide +kernel
theorem dX0_put_66 : decode cX0_put 66 = .ok (.iconst 0, 1) := by decide +kernel
theorem dX0_put_67 : decode cX0_put 67 = .ok (.invokevirtual 54, 3) := by decide +kernel
theorem dX0_put_70 : decode cX0_put 70 = .ok (.ireturn, 1) := by decide +kernel
theorem dX0_putShort_0 : decode cX0_putShort 0 = .ok (.aload_n 0, 1) := by decide +kernel
theorem dX0_putShort_1 : decode cX0_putShort 1 = .ok (.dup, 1) := by decide +kernel
theorem dX0_putShort_2 : decode cX0_putShort 2 = .ok (.getfield 24, 3) := by decide +kernel
theorem dX0_putShort_5 : decode cX0_putShort 5 = .ok (.iconst 1, 1) := by decide +kernel
theorem dX0_putShort_6 : decode cX0_putShort 6 = .ok (.iadd, 1) := by decide +kernel
theorem dX0_putShort_7 : decode cX0_putShort 7 = .ok (.putfield 24, 3) := by decide +kernel
theorem dX0_putShort_10 : decode cX0_putShort 10 = .ok (.iconst 0, 1) := by decide +kernel
theorem dX0_putShort_11 : decode cX0_putShort 11 = .ok (.istore_n 3, 1) := by decide +kernel
theorem dX0_putShort_12 : decode cX0_putShort 12 = .ok (.iconst 0, 1) := by decide +kernel
theorem dX0_putShort_13 : decode cX0_putShort 13 = .ok (.istore 4, 2) := by decide +kernel
theorem dX0_putShort_15 : decode cX0_putShort 15 = .ok (.iload 4, 2) := by decide +kernel
theorem dX0_putShort_17 : decode cX0_putShort 17 = .ok (.bipush 12, 2) := by decide +kernel
theorem dX0_putShort_19 : decode cX0_putShort 19 = .ok (.if_icmp .ge 49, 3) := by decide +kernel
theorem dX0_putShort_22 : decode cX0_putShort 22 = .ok (.aload_n 0, 1) := by decide +kernel
theorem dX0_putShort_23 : decode cX0_putShort 23 = .ok (.getfield 11, 3) := by decide +kernel
theorem dX0_putShort_26 : decode cX0_putShort 26 = .ok (.iload 4, 2) := by decide +kernel
theorem dX0_putShort_28 : decode cX0_putShort 28 = .ok (.aaload, 1) := by decide +kernel
theorem dX0_putShort_29 : decode cX0_putShort 29 = .ok (.astore 5, 2) := by decide +kernel
theorem dX0_putShort_31 : decode cX0_putShort 31 = .ok (.aload 5, 2) := by decide +kernel
theorem dX0_putShort_33 : decode cX0_putShort 33 = .ok (.ifnull 29, 3) := by decide +kernel
theorem dX0_putShort_36 : decode cX0_putShort 36 = .ok (.aload 5, 2) := by decide +kernel
theorem dX0_putShort_38 : decode cX0_putShort 38 = .ok (.iload_n 2, 1) := by decide +kernel
theorem dX0_putShort_39 : decode cX0_putShort 39 = .ok (.invokevirtual 57, 3) := by decide +kernel
theorem dX0_putShort_42 : decode cX0_putShort 42 = .ok (.ifCond .eq 20, 3) := by decide +kernel
theorem dX0_putShort_45 : decode cX0_putShort 45 = .ok (.aload 5, 2) := by decide +kernel
theorem dX0_putShort_47 : decode cX0_putShort 47 = .ok (.iload_n 1, 1) := by decide +kernel
theorem dX0_putShort_48 : decode cX0_putShort 48 = .ok (.iload_n 2, 1) := by decide +kernel
theorem dX0_putShort_49 : decode cX0_putShort 49 = .ok (.aload_n 0, 1) := by decide +kernel
theorem dX0_putShort_50 : decode cX0_putShort 50 = .ok (.getfield 20, 3) := by decide +kernel
theorem dX0_putShort_53 : decode cX0_putShort 53 = .ok (.invokevirtual 61, 3) := by decide +kernel
theorem dX0_putShort_56 : decode cX0_putShort 56 = .ok (.ifCond .eq 6, 3) := by decide +kernel
theorem dX0_putShort_59 : decode cX0_putShort 59 = .ok (.iinc 3 1, 3) := by decide +kernel
theorem dX0_putShort_62 : decode cX0_putShort 62 = .ok (.iinc 4 1, 3) := by decide +kernel
theorem dX0_putShort_65 : decode cX0_putShort 65 = .ok (.goto (-50), 3) := by decide +kernel
theorem dX0_putShort_68 : decode cX0_putShort 68 = .ok (.aload_n 0, 1) := by decide +kernel
theorem dX0_putShort_69 : decode cX0_putShort 69 = .ok (.iload_n 2, 1) := by decide +kernel
theorem dX0_putShort_70 : decode cX0_putShort 70 = .ok (.sipush 255, 3) := by decide +kernel
theorem dX0_putShort_73 : decode cX0_putShort 73 = .ok (.if_icmp .ne 7, 3) := by decide +kernel
theorem dX0_putShort_76 : decode cX0_putShort 76 = .ok (.iconst 0, 1) := by decide +kernel
theorem dX0_putShort_77 : decode cX0_putShort 77 = .ok (.goto 4, 3) := by decide +kernel
theorem dX0_putShort_80 : decode cX0_putShort 80 = .ok (.iload_n 3, 1) := by decide +kernel
theorem dX0_putShort_81 : decode cX0_putShort 81 = .ok (.invokevirtual 54, 3) := by decide +kernel
theorem dX0_putShort_84 : decode cX0_putShort 84 = .ok (.ireturn, 1) := by decide +kernel
theorem dX0_putSelect_0 : decode cX0_putSelect 0 = .ok (.aload_n 0, 1) := by decide +kernel
theorem dX0_putSelect_1 : decode cX0_putSelect 1 = .ok (.dup, 1) := by decide +kernel
theorem dX0_putSelect_2 : decode cX0_putSelect 2 = .ok (.getfield 24, 3) := by decide +kernel
theorem dX0_putSelect_5 : decode cX0_putSelect 5 = .ok (.iconst 1, 1) := by decide +kernel
theorem dX0_putSelect_6 : decode cX0_putSelect 6 = .ok (.iadd, 1) := by decide +kernel
theorem dX0_putSelect_7 : decode cX0_putSelect 7 = .ok (.putfield 24, 3) := by decide +kernel
theorem dX0_putSelect_10 : decode cX0_putSelect 10 = .ok (.lload_n 1, 1) := by decide +kernel
theorem dX0_putSelect_11 : decode cX0_putSelect 11 = .ok (.invokestatic 65, 3) := by decide +kernel
theorem dX0_putSelect_14 : decode cX0_putSelect 14 = .ok (.lstore_n 3, 1) := by decide +kernel
theorem dX0_putSelect_15 : decode cX0_putSelect 15 = .ok (.iconst 0, 1) := by decide +kernel
theorem dX0_putSelect_16 : decode cX0_putSelect 16 = .ok (.istore 5, 2) := by decide +kernel
theorem dX0_putSelect_18 : decode cX0_putSelect 18 = .ok (.iconst 0, 1) := by decide +kernel
theorem dX0_putSelect_19 : decode cX0_putSelect 19 = .ok (.istore 6, 2) := by decide +kernel
theorem dX0_putSelect_21 : decode cX0_putSelect 21 = .ok (.iload 6, 2) := by decide +kernel
theorem dX0_putSelect_23 : decode cX0_putSelect 23 = .ok (.bipush 12, 2) := by decide +kernel
theorem dX0_putSelect_25 : decode cX0_putSelect 25 = .ok (.if_icmp .ge 40, 3) := by decide +kernel
theorem dX0_putSelect_28 : decode cX0_putSelect 28 = .ok (.aload_n 0, 1) := by decide +kernel
theorem dX0_putSelect_29 : decode cX0_putSelect 29 = .ok (.getfield 11, 3) := by decide +kernel
theorem dX0_putSelect_32 : decode cX0_putSelect 32 = .ok (.iload 6, 2) := by decide +kernel
theorem dX0_putSelect_34 : decode cX0_putSelect 34 = .ok (.aaload, 1) := by decide +kernel
theorem dX0_putSelect_35 : decode cX0_putSelect 35 = .ok (.astore 7, 2) := by decide +kernel
theorem dX0_putSelect_37 : decode cX0_putSelect 37 = .ok (.aload 7, 2) := by decide +kernel
theorem dX0_putSelect_39 : decode cX0_putSelect 39 = .ok (.ifnull 20, 3) := by decide +kernel
theorem dX0_putSelect_42 : decode cX0_putSelect 42 = .ok (.aload 7, 2) := by decide +kernel
theorem dX0_putSelect_44 : decode cX0_putSelect 44 = .ok (.lload_n 1, 1) := by decide +kernel
theorem dX0_putSelect_45 : decode cX0_putSelect 45 = .ok (.lload_n 3, 1) := by decide +kernel
theorem dX0_putSelect_46 : decode cX0_putSelect 46 = .ok (.aload_n 0, 1) := by decide +kernel
theorem dX0_putSelect_47 : decode cX0_putSelect 47 = .ok (.getfield 20, 3) := by decide +kernel
theorem dX0_putSelect_50 : decode cX0_putSelect 50 = .ok (.invokevirtual 69, 3) := by decide +kernel
theorem dX0_putSelect_53 : decode cX0_putSelect 53 = .ok (.ifCond .eq 6, 3) := by decide +kernel
theorem dX0_putSelect_56 : decode cX0_putSelect 56 = .ok (.iinc 5 1, 3) := by decide +kernel
theorem dX0_putSelect_59 : decode cX0_putSelect 59 = .ok (.iinc 6 1, 3) := by decide +kernel
theorem dX0_putSelect_62 : decode cX0_putSelect 62 = .ok (.goto (-41), 3) := by decide +kernel
theorem dX0_putSelect_65 : decode cX0_putSelect 65 = .ok (.aload_n 0, 1) := by decide +kernel
theorem dX0_putSelect_66 : decode cX0_putSelect 66 = .ok (.iload 5, 2) := by decide +kernel
theorem dX0_putSelect_68 : decode cX0_putSelect 68 = .ok (.invokevirtual 54, 3) := by decide +kernel
theorem dX0_putSelect_71 : decode cX0_putSelect 71 = .ok (.ireturn, 1) := by decide +kernel
theorem dX0_putSendingFrame_0 : decode cX0_putSendingFrame 0 = .ok (.aload_n 1, 1) := by decide +kernel
theorem dX0_putSendingFrame_1 : decode cX0_putSendingFrame 1 = .ok (.iconst 5, 1) := by decide +kernel
theorem dX0_putSendingFrame_2 : decode cX0_putSendingFrame 2 = .ok (.invokevirtual 39, 3) := by decide +kernel
theorem dX0_putSendingFrame_5 : decode cX0_putSendingFrame 5 = .ok (.istore_n 2, 1) := by decide +kernel
theorem dX0_putSendingFrame_6 : decode cX0_putSendingFrame 6 = .ok (.aload_n 1, 1) := by decide +kernel
theorem dX0_putSendingFrame_7 : decode cX0_putSendingFrame 7 = .ok (.bipush 6, 2) := by decide +kernel
theorem dX0_putSendingFrame_9 : decode cX0_putSendingFrame 9 = .ok (.invokevirtual 39, 3) := by decide +kernel
theorem dX0_putSendingFrame_12 : decode cX0_putSendingFrame 12 = .ok (.bipush 82, 2) := by decide +kernel
theorem dX0_putSendingFrame_14 : decode cX0_putSendingFrame 14 = .ok (.if_icmp .ne 30, 3) := by decide +kernel
theorem dX0_putSendingFrame_17 : decode cX0_putSendingFrame 17 = .ok (.aload_n 1, 1) := by decide +kernel
theorem dX0_putSendingFrame_18 : decode cX0_putSendingFrame 18 = .ok (.invokevirtual 73, 3) := by decide +kernel
theorem dX0_putSendingFrame_21 : decode cX0_putSendingFrame 21 = .ok (.bipush 8, 2) := by decide +kernel
theorem dX0_putSendingFrame_23 : decode cX0_putSendingFrame 23 = .ok (.if_icmp .ne 21, 3) := by decide +kernel
theorem dX0_putSendingFrame_26 : decode cX0_putSendingFrame 26 = .ok (.iload_n 2, 1) := by decide +kernel
theorem dX0_putSendingFrame_27 : decode cX0_putSendingFrame 27 = .ok (.sipush 253, 3) := by decide +kernel
theorem dX0_putSendingFrame_30 : decode cX0_putSendingFrame 30 = .ok (.if_icmp .ne 14, 3) := by decide +kernel
theorem dX0_putSendingFrame_33 : decode cX0_putSendingFrame 33 = .ok (.aload_n 0, 1) := by decide +kernel
theorem dX0_putSendingFrame_34 : decode cX0_putSendingFrame 34 = .ok (.aload_n 1, 1) := by decide +kernel
theorem dX0_putSendingFrame_35 : decode cX0_putSendingFrame 35 = .ok (.bipush 7, 2) := by decide +kernel
theorem dX0_putSendingFrame_37 : decode cX0_putSendingFrame 37 = .ok (.invokevirtual 77, 3) := by decide +kernel
theorem dX0_putSendingFrame_40 : decode cX0_putSendingFrame 40 = .ok (.invokevirtual 81, 3) := by decide +kernel
theorem dX0_putSendingFrame_43 : decode cX0_putSendingFrame 43 = .ok (.ireturn, 1) := by decide +kernel
theorem dX0_putSendingFrame_44 : decode cX0_putSendingFrame 44 = .ok (.aload_n 0, 1) := by decide +kernel
theorem dX0_putSendingFrame_45 : decode cX0_putSendingFrame 45 = .ok (.dup, 1) := by decide +kernel
theorem dX0_putSendingFrame_46 : decode cX0_putSendingFrame 46 = .ok (.getfield 24, 3) := by decide +kernel
theorem dX0_putSendingFrame_49 : decode cX0_putSendingFrame 49 = .ok (.iconst 1, 1) := by decide +kernel
theorem dX0_putSendingFrame_50 : decode cX0_putSendingFrame 50 = .ok (.iadd, 1) := by decide +kernel
theorem dX0_putSendingFrame_51 : decode cX0_putSendingFrame 51 = .ok (.putfield 24, 3) := by decide +kernel
theorem dX0_putSendingFrame_54 : decode cX0_putSendingFrame 54 = .ok (.iconst 0, 1) := by decide +kernel
theorem dX0_putSendingFrame_55 : decode cX0_putSendingFrame 55 = .ok (.istore_n 3, 1) := by decide +kernel
theorem dX0_putSendingFrame_56 : decode cX0_putSendingFrame 56 = .ok (.iconst 0, 1) := by decide +kernel
theorem dX0_putSendingFrame_57 : decode cX0_putSendingFrame 57 = .ok (.istore 4, 2) := by decide +kernel
theorem dX0_putSendingFrame_59 : decode cX0_putSendingFrame 59 = .ok (.iload 4, 2) := by decide +kernel
theorem dX0_putSendingFrame_61 : decode cX0_putSendingFrame 61 = .ok (.bipush 12, 2) := by decide +kernel
theorem dX0_putSendingFrame_63 : decode cX0_putSendingFrame 63 = .ok (.if_icmp .ge 48, 3) := by decide +kernel
theorem dX0_putSendingFrame_66 : decode cX0_putSendingFrame 66 = .ok (.aload_n 0, 1) := by decide +kernel
theorem dX0_putSendingFrame_67 : decode cX0_putSendingFrame 67 = .ok (.getfield 11, 3) := by decide +kernel
theorem dX0_putSendingFrame_70 : decode cX0_putSendingFrame 70 = .ok (.iload 4, 2) := by decide +kernel
theorem dX0_putSendingFrame_72 : decode cX0_putSendingFrame 72 = .ok (.aaload, 1) := by decide +kernel
theorem dX0_putSendingFrame_73 : decode cX0_putSendingFrame 73 = .ok (.astore 5, 2) := by decide +kernel
theorem dX0_putSendingFrame_75 : decode cX0_putSendingFrame 75 = .ok (.aload 5, 2) := by decide +kernel
theorem dX0_putSendingFrame_77 : decode cX0_putSendingFrame 77 = .ok (.ifnull 28, 3) := by decide +kernel
theorem dX0_putSendingFrame_80 : decode cX0_putSendingFrame 80 = .ok (.aload 5, 2) := by decide +kernel
theorem dX0_putSendingFrame_82 : decode cX0_putSendingFrame 82 = .ok (.iload_n 2, 1) := by decide +kernel
theorem dX0_putSendingFrame_83 : decode cX0_putSendingFrame 83 = .ok (.invokevirtual 57, 3) := by decide +kernel
theorem dX0_putSendingFrame_86 : decode cX0_putSendingFrame 86 = .ok (.ifCond .eq 19, 3) := by decide +kernel
theorem dX0_putSendingFrame_89 : decode cX0_putSendingFrame 89 = .ok (.aload 5, 2) := by decide +kernel
theorem dX0_putSendingFrame_91 : decode cX0_putSendingFrame 91 = .ok (.aload_n 1, 1) := by decide +kernel
theorem dX0_putSendingFrame_92 : decode cX0_putSendingFrame 92 = .ok (.aload_n 0, 1) := by decide +kernel
theorem dX0_putSendingFrame_93 : decode cX0_putSendingFrame 93 = .ok (.getfield 20, 3) := by decide +kernel
theorem dX0_putSendingFrame_96 : decode cX0_putSendingFrame 96 = .ok (.invokevirtual 85, 3) := by decide +kernel
theorem dX0_putSendingFrame_99 : decode cX0_putSendingFrame 99 = .ok (.ifCond .eq 6, 3) := by decide +kernel
theorem dX0_putSendingFrame_102 : decode cX0_putSendingFrame 102 = .ok (.iinc 3 1, 3) := by decide +kernel
theorem dX0_putSendingFrame_105 : decode cX0_putSendingFrame 105 = .ok (.iinc 4 1, 3) := by decide +kernel
theorem dX0_putSendingFrame_108 : decode cX0_putSendingFrame 108 = .ok (.goto (-49), 3) := by decide +kernel
theorem dX0_putSendingFrame_111 : decode cX0_putSendingFrame 111 = .ok (.aload_n 0, 1) := by decide +kernel
theorem dX0_putSendingFrame_112 : decode cX0_putSendingFrame 112 = .ok (.iload_n 2, 1) := by decide +kernel
theorem dX0_putSendingFrame_113 : decode cX0_putSendingFrame 113 = .ok (.sipush 255, 3) := by decide +kernel
theorem dX0_putSendingFrame_116 : decode cX0_putSendingFrame 116 = .ok (.if_icmp .ne 7, 3) := by decide +kernel
theorem dX0_putSendingFrame_119 : decode cX0_putSendingFrame 119 = .ok (.iconst 0, 1) := by decide +kernel
theorem dX0_putSendingFrame_120 : decode cX0_putSendingFrame 120 = .ok (.goto 4, 3) := by decide +kernel
theorem dX0_putSendingFrame_123 : decode cX0_putSendingFrame 123 = .ok (.iload_n 3, 1) := by decide +kernel
theorem dX0_putSendingFrame_124 : decode cX0_putSendingFrame 124 = .ok (.invokevirtual 54, 3) := by decide +kernel
theorem dX0_putSendingFrame_127 : decode cX0_putSendingFrame 127 = .ok (.ireturn, 1) := by decide +kernel
theorem dX0_caredBits_0 : decode cX0_caredBits 0 = .ok (.lconst 0, 1) := by decide +kernel
theorem dX0_caredBits_1 : decode cX0_caredBits 1 = .ok (.lstore_n 2, 1) := by decide +kernel
theorem dX0_caredBits_2 : decode cX0_caredBits 2 = .ok (.iconst 0, 1) := by decide +kernel
theorem dX0_caredBits_3 : decode cX0_caredBits 3 = .ok (.istore 4, 2) := by decide +kernel
theorem dX0_caredBits_5 : decode cX0_caredBits 5 = .ok (.iload 4, 2) := by decide +kernel
theorem dX0_caredBits_7 : decode cX0_caredBits 7 = .ok (.bipush 32, 2) := by decide +kernel
theorem dX0_caredBits_9 : decode cX0_caredBits 9 = .ok (.if_icmp .ge 33, 3) := by decide +kernel
theorem dX0_caredBits_12 : decode cX0_caredBits 12 = .ok (.lload_n 0, 1) := by decide +kernel
theorem dX0_caredBits_13 : decode cX0_caredBits 13 = .ok (.iload 4, 2) := by decide +kernel
theorem dX0_caredBits_15 : decode cX0_caredBits 15 = .ok (.lushr, 1) := by decide +kernel
theorem dX0_caredBits_16 : decode cX0_caredBits 16 = .ok (.ldc2_w 89, 3) := by decide +kernel
theorem dX0_caredBits_19 : decode cX0_caredBits 19 = .ok (.land, 1) := by decide +kernel
theorem dX0_caredBits_20 : decode cX0_caredBits 20 = .ok (.ldc2_w 89, 3) := by decide +kernel
theorem dX0_caredBits_23 : decode cX0_caredBits 23 = .ok (.lcmp, 1) := by decide +kernel
theorem dX0_caredBits_24 : decode cX0_caredBits 24 = .ok (.ifCond .eq 12, 3) := by decide +kernel
theorem dX0_caredBits_27 : decode cX0_caredBits 27 = .ok (.lload_n 2, 1) := by decide +kernel
theorem dX0_caredBits_28 : decode cX0_caredBits 28 = .ok (.ldc2_w 89, 3) := by decide +kernel
theorem dX0_caredBits_31 : decode cX0_caredBits 31 = .ok (.iload 4, 2) := by decide +kernel
theorem dX0_caredBits_33 : decode cX0_caredBits 33 = .ok (.lshl, 1) := by decide +kernel
theorem dX0_caredBits_34 : decode cX0_caredBits 34 = .ok (.lor, 1) := by decide +kernel
theorem dX0_caredBits_35 : decode cX0_caredBits 35 = .ok (.lstore_n 2, 1) := by decide +kernel
theorem dX0_caredBits_36 : decode cX0_caredBits 36 = .ok (.iinc 4 4, 3) := by decide +kernel
theorem dX0_caredBits_39 : decode cX0_caredBits 39 = .ok (.goto (-34), 3) := by decide +kernel
theorem dX0_caredBits_42 : decode cX0_caredBits 42 = .ok (.bipush 32, 2) := by decide +kernel
theorem dX0_caredBits_44 : decode cX0_caredBits 44 = .ok (.istore 4, 2) := by decide +kernel
theorem dX0_caredBits_46 : decode cX0_caredBits 46 = .ok (.iload 4, 2) := by decide +kernel
theorem dX0_caredBits_48 : decode cX0_caredBits 48 = .ok (.bipush 64, 2) := by decide +kernel
theorem dX0_caredBits_50 : decode cX0_caredBits 50 = .ok (.if_icmp .ge 33, 3) := by decide +kernel
theorem dX0_caredBits_53 : decode cX0_caredBits 53 = .ok (.lload_n 0, 1) := by decide +kernel
theorem dX0_caredBits_54 : decode cX0_caredBits 54 = .ok (.iload 4, 2) := by decide +kernel
theorem dX0_caredBits_56 : decode cX0_caredBits 56 = .ok (.lushr, 1) := by decide +kernel
theorem dX0_caredBits_57 : decode cX0_caredBits 57 = .ok (.ldc2_w 91, 3) := by decide +kernel
theorem dX0_caredBits_60 : decode cX0_caredBits 60 = .ok (.land, 1) := by decide +kernel
theorem dX0_caredBits_61 : decode cX0_caredBits 61 = .ok (.ldc2_w 91, 3) := by decide +kernel
theorem dX0_caredBits_64 : decode cX0_caredBits 64 = .ok (.lcmp, 1) := by decide +kernel
theorem dX0_caredBits_65 : decode cX0_caredBits 65 = .ok (.ifCond .eq 12, 3) := by decide +kernel
theorem dX0_caredBits_68 : decode cX0_caredBits 68 = .ok (.lload_n 2, 1) := by decide +kernel
theorem dX0_caredBits_69 : decode cX0_caredBits 69 = .ok (.ldc2_w 91, 3) := by decide +kernel
theorem dX0_caredBits_72 : decode cX0_caredBits 72 = .ok (.iload 4, 2) := by decide +kernel
theorem dX0_caredBits_74 : decode cX0_caredBits 74 = .ok (.lshl, 1) := by decide +kernel
theorem dX0_caredBits_75 : decode cX0_caredBits 75 = .ok (.lor, 1) := by decide +kernel
theorem dX0_caredBits_76 : decode cX0_caredBits 76 = .ok (.lstore_n 2, 1) := by decide +kernel
theorem dX0_caredBits_77 : decode cX0_caredBits 77 = .ok (.iinc 4 8, 3) := by decide +kernel
theorem dX0_caredBits_80 : decode cX0_caredBits 80 = .ok (.goto (-34), 3) := by decide +kernel
theorem dX0_caredBits_83 : decode cX0_caredBits 83 = .ok (.lload_n 2, 1) := by decide +kernel
theorem dX0_caredBits_84 : decode cX0_caredBits 84 = .ok (.lreturn, 1) := by decide +kernel
theorem dX0_outcome_0 : decode cX0_outcome 0 = .ok (.iload_n 1, 1) := by decide +kernel
theorem dX0_outcome_1 : decode cX0_outcome 1 = .ok (.iconst 1, 1) := by decide +kernel
theorem dX0_outcome_2 : decode cX0_outcome 2 = .ok (.if_icmp .ne 11, 3) := by decide +kernel
theorem dX0_outcome_5 : decode cX0_outcome 5 = .ok (.aload_n 0, 1) := by decide +kernel
theorem dX0_outcome_6 : decode cX0_outcome 6 = .ok (.getfield 20, 3) := by decide +kernel
theorem dX0_outcome_9 : decode cX0_outcome 9 = .ok (.invokevirtual 93, 3) := by decide +kernel
theorem dX0_outcome_12 : decode cX0_outcome 12 = .ok (.ireturn, 1) := by decide +kernel
theorem dX0_outcome_13 : decode cX0_outcome 13 = .ok (.aload_n 0, 1) := by decide +kernel
theorem dX0_outcome_14 : decode cX0_outcome 14 = .ok (.getfield 20, 3) := by decide +kernel
theorem dX0_outcome_17 : decode cX0_outcome 17 = .ok (.iconst 0, 1) := by decide +kernel
theorem dX0_outcome_18 : decode cX0_outcome 18 = .ok (.invokevirtual 96, 3) := by decide +kernel
theorem dX0_outcome_21 : decode cX0_outcome 21 = .ok (.iload_n 1, 1) := by decide +kernel
theorem dX0_outcome_22 : decode cX0_outcome 22 = .ok (.ifCond .ne 5, 3) := by decide +kernel
theorem dX0_outcome_25 : decode cX0_outcome 25 = .ok (.iconst 0, 1) := by decide +kernel
theorem dX0_outcome_26 : decode cX0_outcome 26 = .ok (.ireturn, 1) := by decide +kernel
theorem dX0_outcome_27 : decode cX0_outcome 27 = .ok (.aload_n 0, 1) := by decide +kernel
theorem dX0_outcome_28 : decode cX0_outcome 28 = .ok (.dup, 1) := by decide +kernel
theorem dX0_outcome_29 : decode cX0_outcome 29 = .ok (.getfield 28, 3) := by decide +kernel
theorem dX0_outcome_32 : decode cX0_outcome 32 = .ok (.iconst 1, 1) := by decide +kernel
theorem dX0_outcome_33 : decode cX0_outcome 33 = .ok (.iadd, 1) := by decide +kernel
theorem dX0_outcome_34 : decode cX0_outcome 34 = .ok (.putfield 28, 3) := by decide +kernel
theorem dX0_outcome_37 : decode cX0_outcome 37 = .ok (.bipush (-2), 2) := by decide +kernel
theorem dX0_outcome_39 : decode cX0_outcome 39 = .ok (.ireturn, 1) := by decide +kernel
