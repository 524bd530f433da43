section
/-! The instructions of the class, decoded. By program (wip/mkdec.py). -/
theorem dX0_init_0 : decode cX0_init 0 = .ok (.aload_n 0, 1) := by decide +kernel
theorem dX0_init_1 : decode cX0_init 1 = .ok (.invokespecial 3, 3) := by decide +kernel
theorem dX0_init_4 : decode cX0_init 4 = .ok (.aload_n 0, 1) := by decide +kernel
theorem dX0_init_5 : decode cX0_init 5 = .ok (.bipush 12, 2) := by decide +kernel
theorem dX0_init_7 : decode cX0_init 7 = .ok (.anewarray 9, 3) := by decide +kernel
theorem dX0_init_10 : decode cX0_init 10 = .ok (.putfield 11, 3) := by decide +kernel
theorem dX0_init_13 : decode cX0_init 13 = .ok (.aload_n 0, 1) := by decide +kernel
theorem dX0_init_14 : decode cX0_init 14 = .ok (.new 17, 3) := by decide +kernel
theorem dX0_init_17 : decode cX0_init 17 = .ok (.dup, 1) := by decide +kernel
theorem dX0_init_18 : decode cX0_init 18 = .ok (.invokespecial 19, 3) := by decide +kernel
theorem dX0_init_21 : decode cX0_init 21 = .ok (.putfield 20, 3) := by decide +kernel
theorem dX0_init_24 : decode cX0_init 24 = .ok (.aload_n 0, 1) := by decide +kernel
theorem dX0_init_25 : decode cX0_init 25 = .ok (.iconst 0, 1) := by decide +kernel
theorem dX0_init_26 : decode cX0_init 26 = .ok (.putfield 24, 3) := by decide +kernel
theorem dX0_init_29 : decode cX0_init 29 = .ok (.aload_n 0, 1) := by decide +kernel
theorem dX0_init_30 : decode cX0_init 30 = .ok (.iconst 0, 1) := by decide +kernel
theorem dX0_init_31 : decode cX0_init 31 = .ok (.putfield 28, 3) := by decide +kernel
theorem dX0_init_34 : decode cX0_init 34 = .ok (.return_, 1) := by decide +kernel
theorem dX0_meterAt_0 : decode cX0_meterAt 0 = .ok (.iload_n 1, 1) := by decide +kernel
theorem dX0_meterAt_1 : decode cX0_meterAt 1 = .ok (.ifCond .lt 18, 3) := by decide +kernel
theorem dX0_meterAt_4 : decode cX0_meterAt 4 = .ok (.iload_n 1, 1) := by decide +kernel
theorem dX0_meterAt_5 : decode cX0_meterAt 5 = .ok (.bipush 12, 2) := by decide +kernel
theorem dX0_meterAt_7 : decode cX0_meterAt 7 = .ok (.if_icmp .ge 12, 3) := by decide +kernel
theorem dX0_meterAt_10 : decode cX0_meterAt 10 = .ok (.aload_n 0, 1) := by decide +kernel
theorem dX0_meterAt_11 : decode cX0_meterAt 11 = .ok (.getfield 11, 3) := by decide +kernel
theorem dX0_meterAt_14 : decode cX0_meterAt 14 = .ok (.iload_n 1, 1) := by decide +kernel
theorem dX0_meterAt_15 : decode cX0_meterAt 15 = .ok (.aaload, 1) := by decide +kernel
theorem dX0_meterAt_16 : decode cX0_meterAt 16 = .ok (.goto 4, 3) := by decide +kernel
theorem dX0_meterAt_19 : decode cX0_meterAt 19 = .ok (.aconst_null, 1) := by decide +kernel
theorem dX0_meterAt_20 : decode cX0_meterAt 20 = .ok (.areturn, 1) := by decide +kernel
theorem dX0_plug_0 : decode cX0_plug 0 = .ok (.iload_n 1, 1) := by decide +kernel
theorem dX0_plug_1 : decode cX0_plug 1 = .ok (.ifCond .lt 16, 3) := by decide +kernel
theorem dX0_plug_4 : decode cX0_plug 4 = .ok (.iload_n 1, 1) := by decide +kernel
theorem dX0_plug_5 : decode cX0_plug 5 = .ok (.bipush 12, 2) := by decide +kernel
theorem dX0_plug_7 : decode cX0_plug 7 = .ok (.if_icmp .ge 10, 3) := by decide +kernel
theorem dX0_plug_10 : decode cX0_plug 10 = .ok (.aload_n 0, 1) := by decide +kernel
theorem dX0_plug_11 : decode cX0_plug 11 = .ok (.getfield 11, 3) := by decide +kernel
theorem dX0_plug_14 : decode cX0_plug 14 = .ok (.iload_n 1, 1) := by decide +kernel
theorem dX0_plug_15 : decode cX0_plug 15 = .ok (.aload_n 2, 1) := by decide +kernel
theorem dX0_plug_16 : decode cX0_plug 16 = .ok (.aastore, 1) := by decide +kernel
theorem dX0_plug_17 : decode cX0_plug 17 = .ok (.return_, 1) := by decide +kernel
theorem dX0_hasAnother_0 : decode cX0_hasAnother 0 = .ok (.iconst 0, 1) := by decide +kernel
theorem dX0_hasAnother_1 : decode cX0_hasAnother 1 = .ok (.istore 4, 2) := by decide +kernel
theorem dX0_hasAnother_3 : decode cX0_hasAnother 3 = .ok (.iload 4, 2) := by decide +kernel
theorem dX0_hasAnother_5 : decode cX0_hasAnother 5 = .ok (.bipush 12, 2) := by decide +kernel
theorem dX0_hasAnother_7 : decode cX0_hasAnother 7 = .ok (.if_icmp .ge 41, 3) := by decide +kernel
theorem dX0_hasAnother_10 : decode cX0_hasAnother 10 = .ok (.iload 4, 2) := by decide +kernel
theorem dX0_hasAnother_12 : decode cX0_hasAnother 12 = .ok (.iload_n 1, 1) := by decide +kernel
theorem dX0_hasAnother_13 : decode cX0_hasAnother 13 = .ok (.if_icmp .eq 29, 3) := by decide +kernel
theorem dX0_hasAnother_16 : decode cX0_hasAnother 16 = .ok (.aload_n 0, 1) := by decide +kernel
theorem dX0_hasAnother_17 : decode cX0_hasAnother 17 = .ok (.getfield 11, 3) := by decide +kernel
theorem dX0_hasAnother_20 : decode cX0_hasAnother 20 = .ok (.iload 4, 2) := by decide +kernel
theorem dX0_hasAnother_22 : decode cX0_hasAnother 22 = .ok (.aaload, 1) := by decide +kernel
theorem dX0_hasAnother_23 : decode cX0_hasAnother 23 = .ok (.ifnull 19, 3) := by decide +kernel
theorem dX0_hasAnother_26 : decode cX0_hasAnother 26 = .ok (.aload_n 0, 1) := by decide +kernel
theorem dX0_hasAnother_27 : decode cX0_hasAnother 27 = .ok (.getfield 11, 3) := by decide +kernel
theorem dX0_hasAnother_30 : decode cX0_hasAnother 30 = .ok (.iload 4, 2) := by decide +kernel
theorem dX0_hasAnother_32 : decode cX0_hasAnother 32 = .ok (.aaload, 1) := by decide +kernel
theorem dX0_hasAnother_33 : decode cX0_hasAnother 33 = .ok (.lload_n 2, 1) := by decide +kernel
theorem dX0_hasAnother_34 : decode cX0_hasAnother 34 = .ok (.invokevirtual 31, 3) := by decide +kernel
theorem dX0_hasAnother_37 : decode cX0_hasAnother 37 = .ok (.ifCond .eq 5, 3) := by decide +kernel
theorem dX0_hasAnother_40 : decode cX0_hasAnother 40 = .ok (.iconst 1, 1) := by decide +kernel
theorem dX0_hasAnother_41 : decode cX0_hasAnother 41 = .ok (.ireturn, 1) := by decide +kernel
theorem dX0_hasAnother_42 : decode cX0_hasAnother 42 = .ok (.iinc 4 1, 3) := by decide +kernel
theorem dX0_hasAnother_45 : decode cX0_hasAnother 45 = .ok (.goto (-42), 3) := by decide +kernel
theorem dX0_hasAnother_48 : decode cX0_hasAnother 48 = .ok (.iconst 0, 1) := by decide +kernel
theorem dX0_hasAnother_49 : decode cX0_hasAnother 49 = .ok (.ireturn, 1) := by decide +kernel
theorem dX0_meterNumber_0 : decode cX0_meterNumber 0 = .ok (.iconst 0, 1) := by decide +kernel
theorem dX0_meterNumber_1 : decode cX0_meterNumber 1 = .ok (.istore_n 1, 1) := by decide +kernel
theorem dX0_meterNumber_2 : decode cX0_meterNumber 2 = .ok (.iconst 0, 1) := by decide +kernel
theorem dX0_meterNumber_3 : decode cX0_meterNumber 3 = .ok (.istore_n 2, 1) := by decide +kernel
theorem dX0_meterNumber_4 : decode cX0_meterNumber 4 = .ok (.iload_n 2, 1) := by decide +kernel
theorem dX0_meterNumber_5 : decode cX0_meterNumber 5 = .ok (.bipush 12, 2) := by decide +kernel
theorem dX0_meterNumber_7 : decode cX0_meterNumber 7 = .ok (.if_icmp .ge 21, 3) := by decide +kernel
theorem dX0_meterNumber_10 : decode cX0_meterNumber 10 = .ok (.aload_n 0, 1) := by decide +kernel
theorem dX0_meterNumber_11 : decode cX0_meterNumber 11 = .ok (.getfield 11, 3) := by decide +kernel
theorem dX0_meterNumber_14 : decode cX0_meterNumber 14 = .ok (.iload_n 2, 1) := by decide +kernel
theorem dX0_meterNumber_15 : decode cX0_meterNumber 15 = .ok (.aaload, 1) := by decide +kernel
theorem dX0_meterNumber_16 : decode cX0_meterNumber 16 = .ok (.ifnull 6, 3) := by decide +kernel
theorem dX0_meterNumber_19 : decode cX0_meterNumber 19 = .ok (.iinc 1 1, 3) := by decide +kernel
theorem dX0_meterNumber_22 : decode cX0_meterNumber 22 = .ok (.iinc 2 1, 3) := by decide +kernel
theorem dX0_meterNumber_25 : decode cX0_meterNumber 25 = .ok (.goto (-21), 3) := by decide +kernel
theorem dX0_meterNumber_28 : decode cX0_meterNumber 28 = .ok (.iload_n 1, 1) := by decide +kernel
theorem dX0_meterNumber_29 : decode cX0_meterNumber 29 = .ok (.ireturn, 1) := by decide +kernel
theorem dX0_frameNumber_0 : decode cX0_frameNumber 0 = .ok (.aload_n 0, 1) := by decide +kernel
theorem dX0_frameNumber_1 : decode cX0_frameNumber 1 = .ok (.getfield 24, 3) := by decide +kernel
theorem dX0_frameNumber_4 : decode cX0_frameNumber 4 = .ok (.ireturn, 1) := by decide +kernel
theorem dX0_collisionNumber_0 : decode cX0_collisionNumber 0 = .ok (.aload_n 0, 1) := by decide +kernel
theorem dX0_collisionNumber_1 : decode cX0_collisionNumber 1 = .ok (.getfield 28, 3) := by decide +kernel
theorem dX0_collisionNumber_4 : decode cX0_collisionNumber 4 = .ok (.ireturn, 1) := by decide +kernel
theorem dX0_lastAnswer_0 : decode cX0_lastAnswer 0 = .ok (.aload_n 0, 1) := by decide +kernel
theorem dX0_lastAnswer_1 : decode cX0_lastAnswer 1 = .ok (.getfield 20, 3) := by decide +kernel
theorem dX0_lastAnswer_4 : decode cX0_lastAnswer 4 = .ok (.areturn, 1) := by decide +kernel
theorem dX0_put_0 : decode cX0_put 0 = .ok (.aload_n 1, 1) := by decide +kernel
theorem dX0_put_1 : decode cX0_put 1 = .ok (.invokevirtual 35, 3) := by decide +kernel
theorem dX0_put_4 : decode cX0_put 4 = .ok (.ifCond .eq 18, 3) := by decide +kernel
theorem dX0_put_7 : decode cX0_put 7 = .ok (.aload_n 0, 1) := by decide +kernel
theorem dX0_put_8 : decode cX0_put 8 = .ok (.aload_n 1, 1) := by decide +kernel
theorem dX0_put_9 : decode cX0_put 9 = .ok (.iconst 1, 1) := by decide +kernel
theorem dX0_put_10 : decode cX0_put 10 = .ok (.invokevirtual 39, 3) := by decide +kernel
theorem dX0_put_13 : decode cX0_put 13 = .ok (.aload_n 1, 1) := by decide +kernel
theorem dX0_put_14 : decode cX0_put 14 = .ok (.iconst 2, 1) := by decide +kernel
theorem dX0_put_15 : decode cX0_put 15 = .ok (.invokevirtual 39, 3) := by decide +kernel
theorem dX0_put_18 : decode cX0_put 18 = .ok (.invokevirtual 43, 3) := by decide +kernel
theorem dX0_put_21 : decode cX0_put 21 = .ok (.ireturn, 1) := by decide +kernel
theorem dX0_put_22 : decode cX0_put 22 = .ok (.aload_n 1, 1) := by decide +kernel
theorem dX0_put_23 : decode cX0_put 23 = .ok (.invokevirtual 47, 3) := by decide +kernel
theorem dX0_put_26 : decode cX0_put 26 = .ok (.ifCond .eq 29, 3) := by decide +kernel
theorem dX0_put_29 : decode cX0_put 29 = .ok (.aload_n 1, 1) := by decide +kernel
theorem dX0_put_30 : decode cX0_put 30 = .ok (.iconst 4, 1) := by decide +kernel
theorem dX0_put_31 : decode cX0_put 31 = .ok (.invokevirtual 39, 3) := by decide +kernel
theorem dX0_put_34 : decode cX0_put 34 = .ok (.bipush 83, 2) := by decide +kernel
theorem dX0_put_36 : decode cX0_put 36 = .ok (.if_icmp .eq 13, 3) := by decide +kernel
theorem dX0_put_39 : decode cX0_put 39 = .ok (.aload_n 1, 1) := by decide +kernel
theorem dX0_put_40 : decode cX0_put 40 = .ok (.iconst 4, 1) := by decide +kernel
theorem dX0_put_41 : decode cX0_put 41 = .ok (.invokevirtual 39, 3) := by decide +kernel
theorem dX0_put_44 : decode cX0_put 44 = .ok (.bipush 115, 2) := by decide +kernel
theorem dX0_put_46 : decode cX0_put 46 = .ok (.if_icmp .ne 9, 3) := by decide +kernel
theorem dX0_put_49 : decode cX0_put 49 = .ok (.aload_n 0, 1) := by decide +kernel
theorem dX0_put_50 : decode cX0_put 50 = .ok (.aload_n 1, 1) := by decide +kernel
theorem dX0_put_51 : decode cX0_put 51 = .ok (.invokevirtual 50, 3) := by decide +kernel
theorem dX0_put_54 : decode cX0_put 54 = .ok (.ireturn, 1) := by decide +kernel
theorem dX0_put_55 : decode cX0_put 55 = .ok (.aload_n 0, 1) := by decide +kernel
theorem dX0_put_56 : decode cX0_put 56 = .ok (.dup, 1) := by decide +kernel
theorem dX0_put_57 : decode cX0_put 57 = .ok (.getfield 24, 3) := by decide +kernel
theorem dX0_put_60 : decode cX0_put 60 = .ok (.iconst 1, 1) := by decide +kernel
theorem dX0_put_61 : decode cX0_put 61 = .ok (.iadd, 1) := by decide +kernel
theorem dX0_put_62 : decode cX0_put 62 = .ok (.putfield 24, 3) := by decide +kernel
theorem dX0_put_65 : decode cX0_put 65 = .ok (.aload_n 0, 1) := by decide +kernel
theorem dX0_put_66 : decode cX0_put 66 = .ok (.iconst 0, 1) := by decide +kernel
theorem dX0_put_67 : decode cX0_put 67 = .ok (.invokevirtual 54, 3) := by decide +kernel
theorem dX0_put_70 : decode cX0_put 70 = .ok (.ireturn, 1) := by decide +kernel
theorem dX0_putShort_0 : decode cX0_putShort 0 = .ok (.aload_n 0, 1) := by decide +kernel
theorem dX0_putShort_1 : decode cX0_putShort 1 = .ok (.dup, 1) := by decide +kernel
theorem dX0_putShort_2 : decode cX0_putShort 2 = .ok (.getfield 24, 3) := by decide +kernel
theorem dX0_putShort_5 : decode cX0_putShort 5 = .ok (.iconst 1, 1) := by decide +kernel
theorem dX0_putShort_6 : decode cX0_putShort 6 = .ok (.iadd, 1) := by decide +kernel
theorem dX0_putShort_7 : decode cX0_putShort 7 = .ok (.putfield 24, 3) := by decide +kernel
theorem dX0_putShort_10 : decode cX0_putShort 10 = .ok (.iconst 0, 1) := by decide +kernel
theorem dX0_putShort_11 : decode cX0_putShort 11 = .ok (.istore_n 3, 1) := by decide +kernel
theorem dX0_putShort_12 : decode cX0_putShort 12 = .ok (.iconst 0, 1) := by decide +kernel
theorem dX0_putShort_13 : decode cX0_putShort 13 = .ok (.istore 4, 2) := by decide +kernel
theorem dX0_putShort_15 : decode cX0_putShort 15 = .ok (.iload 4, 2) := by decide +kernel
theorem dX0_putShort_17 : decode cX0_putShort 17 = .ok (.bipush 12, 2) := by decide +kernel
theorem dX0_putShort_19 : decode cX0_putShort 19 = .ok (.if_icmp .ge 49, 3) := by decide +kernel
theorem dX0_putShort_22 : decode cX0_putShort 22 = .ok (.aload_n 0, 1) := by decide +kernel
theorem dX0_putShort_23 : decode cX0_putShort 23 = .ok (.getfield 11, 3) := by decide +kernel
theorem dX0_putShort_26 : decode cX0_putShort 26 = .ok (.iload 4, 2) := by decide +kernel
theorem dX0_putShort_28 : decode cX0_putShort 28 = .ok (.aaload, 1) := by decide +kernel
theorem dX0_putShort_29 : decode cX0_putShort 29 = .ok (.astore 5, 2) := by decide +kernel
theorem dX0_putShort_31 : decode cX0_putShort 31 = .ok (.aload 5, 2) := by decide +kernel
theorem dX0_putShort_33 : decode cX0_putShort 33 = .ok (.ifnull 29, 3) := by decide +kernel
theorem dX0_putShort_36 : decode cX0_putShort 36 = .ok (.aload 5, 2) := by decide +kernel
theorem dX0_putShort_38 : decode cX0_putShort 38 = .ok (.iload_n 2, 1) := by decide +kernel
theorem dX0_putShort_39 : decode cX0_putShort 39 = .ok (.invokevirtual 57, 3) := by decide +kernel
theorem dX0_putShort_42 : decode cX0_putShort 42 = .ok (.ifCond .eq 20, 3) := by decide +kernel
theorem dX0_putShort_45 : decode cX0_putShort 45 = .ok (.aload 5, 2) := by decide +kernel
theorem dX0_putShort_47 : decode cX0_putShort 47 = .ok (.iload_n 1, 1) := by decide +kernel
theorem dX0_putShort_48 : decode cX0_putShort 48 = .ok (.iload_n 2, 1) := by decide +kernel
theorem dX0_putShort_49 : decode cX0_putShort 49 = .ok (.aload_n 0, 1) := by decide +kernel
theorem dX0_putShort_50 : decode cX0_putShort 50 = .ok (.getfield 20, 3) := by decide +kernel
theorem dX0_putShort_53 : decode cX0_putShort 53 = .ok (.invokevirtual 61, 3) := by decide +kernel
theorem dX0_putShort_56 : decode cX0_putShort 56 = .ok (.ifCond .eq 6, 3) := by decide +kernel
theorem dX0_putShort_59 : decode cX0_putShort 59 = .ok (.iinc 3 1, 3) := by decide +kernel
theorem dX0_putShort_62 : decode cX0_putShort 62 = .ok (.iinc 4 1, 3) := by decide +kernel
theorem dX0_putShort_65 : decode cX0_putShort 65 = .ok (.goto (-50), 3) := by decide +kernel
theorem dX0_putShort_68 : decode cX0_putShort 68 = .ok (.aload_n 0, 1) := by decide +kernel
theorem dX0_putShort_69 : decode cX0_putShort 69 = .ok (.iload_n 2, 1) := by decide +kernel
theorem dX0_putShort_70 : decode cX0_putShort 70 = .ok (.sipush 255, 3) := by decide +kernel
theorem dX0_putShort_73 : decode cX0_putShort 73 = .ok (.if_icmp .ne 7, 3) := by decide +kernel
theorem dX0_putShort_76 : decode cX0_putShort 76 = .ok (.iconst 0, 1) := by decide +kernel
theorem dX0_putShort_77 : decode cX0_putShort 77 = .ok (.goto 4, 3) := by decide +kernel
theorem dX0_putShort_80 : decode cX0_putShort 80 = .ok (.iload_n 3, 1) := by decide +kernel
theorem dX0_putShort_81 : decode cX0_putShort 81 = .ok (.invokevirtual 54, 3) := by decide +kernel
theorem dX0_putShort_84 : decode cX0_putShort 84 = .ok (.ireturn, 1) := by decide +kernel
theorem dX0_putSelect_0 : decode cX0_putSelect 0 = .ok (.aload_n 0, 1) := by decide +kernel
theorem dX0_putSelect_1 : decode cX0_putSelect 1 = .ok (.dup, 1) := by decide +kernel
theorem dX0_putSelect_2 : decode cX0_putSelect 2 = .ok (.getfield 24, 3) := by decide +kernel
theorem dX0_putSelect_5 : decode cX0_putSelect 5 = .ok (.iconst 1, 1) := by decide +kernel
theorem dX0_putSelect_6 : decode cX0_putSelect 6 = .ok (.iadd, 1) := by decide +kernel
theorem dX0_putSelect_7 : decode cX0_putSelect 7 = .ok (.putfield 24, 3) := by decide +kernel
theorem dX0_putSelect_10 : decode cX0_putSelect 10 = .ok (.lload_n 1, 1) := by decide +kernel
theorem dX0_putSelect_11 : decode cX0_putSelect 11 = .ok (.invokestatic 65, 3) := by decide +kernel
theorem dX0_putSelect_14 : decode cX0_putSelect 14 = .ok (.lstore_n 3, 1) := by decide +kernel
theorem dX0_putSelect_15 : decode cX0_putSelect 15 = .ok (.iconst 0, 1) := by decide +kernel
theorem dX0_putSelect_16 : decode cX0_putSelect 16 = .ok (.istore 5, 2) := by decide +kernel
theorem dX0_putSelect_18 : decode cX0_putSelect 18 = .ok (.iconst 0, 1) := by decide +kernel
theorem dX0_putSelect_19 : decode cX0_putSelect 19 = .ok (.istore 6, 2) := by decide +kernel
theorem dX0_putSelect_21 : decode cX0_putSelect 21 = .ok (.iload 6, 2) := by decide +kernel
theorem dX0_putSelect_23 : decode cX0_putSelect 23 = .ok (.bipush 12, 2) := by decide +kernel
theorem dX0_putSelect_25 : decode cX0_putSelect 25 = .ok (.if_icmp .ge 40, 3) := by decide +kernel
theorem dX0_putSelect_28 : decode cX0_putSelect 28 = .ok (.aload_n 0, 1) := by decide +kernel
theorem dX0_putSelect_29 : decode cX0_putSelect 29 = .ok (.getfield 11, 3) := by decide +kernel
theorem dX0_putSelect_32 : decode cX0_putSelect 32 = .ok (.iload 6, 2) := by decide +kernel
theorem dX0_putSelect_34 : decode cX0_putSelect 34 = .ok (.aaload, 1) := by decide +kernel
theorem dX0_putSelect_35 : decode cX0_putSelect 35 = .ok (.astore 7, 2) := by decide +kernel
theorem dX0_putSelect_37 : decode cX0_putSelect 37 = .ok (.aload 7, 2) := by decide +kernel
theorem dX0_putSelect_39 : decode cX0_putSelect 39 = .ok (.ifnull 20, 3) := by decide +kernel
theorem dX0_putSelect_42 : decode cX0_putSelect 42 = .ok (.aload 7, 2) := by decide +kernel
theorem dX0_putSelect_44 : decode cX0_putSelect 44 = .ok (.lload_n 1, 1) := by decide +kernel
theorem dX0_putSelect_45 : decode cX0_putSelect 45 = .ok (.lload_n 3, 1) := by decide +kernel
theorem dX0_putSelect_46 : decode cX0_putSelect 46 = .ok (.aload_n 0, 1) := by decide +kernel
theorem dX0_putSelect_47 : decode cX0_putSelect 47 = .ok (.getfield 20, 3) := by decide +kernel
theorem dX0_putSelect_50 : decode cX0_putSelect 50 = .ok (.invokevirtual 69, 3) := by decide +kernel
theorem dX0_putSelect_53 : decode cX0_putSelect 53 = .ok (.ifCond .eq 6, 3) := by decide +kernel
theorem dX0_putSelect_56 : decode cX0_putSelect 56 = .ok (.iinc 5 1, 3) := by decide +kernel
theorem dX0_putSelect_59 : decode cX0_putSelect 59 = .ok (.iinc 6 1, 3) := by decide +kernel
theorem dX0_putSelect_62 : decode cX0_putSelect 62 = .ok (.goto (-41), 3) := by decide +kernel
theorem dX0_putSelect_65 : decode cX0_putSelect 65 = .ok (.aload_n 0, 1) := by decide +kernel
theorem dX0_putSelect_66 : decode cX0_putSelect 66 = .ok (.iload 5, 2) := by decide +kernel
theorem dX0_putSelect_68 : decode cX0_putSelect 68 = .ok (.invokevirtual 54, 3) := by decide +kernel
theorem dX0_putSelect_71 : decode cX0_putSelect 71 = .ok (.ireturn, 1) := by decide +kernel
theorem dX0_putSendingFrame_0 : decode cX0_putSendingFrame 0 = .ok (.aload_n 1, 1) := by decide +kernel
theorem dX0_putSendingFrame_1 : decode cX0_putSendingFrame 1 = .ok (.iconst 5, 1) := by decide +kernel
theorem dX0_putSendingFrame_2 : decode cX0_putSendingFrame 2 = .ok (.invokevirtual 39, 3) := by decide +kernel
theorem dX0_putSendingFrame_5 : decode cX0_putSendingFrame 5 = .ok (.istore_n 2, 1) := by decide +kernel
theorem dX0_putSendingFrame_6 : decode cX0_putSendingFrame 6 = .ok (.aload_n 1, 1) := by decide +kernel
theorem dX0_putSendingFrame_7 : decode cX0_putSendingFrame 7 = .ok (.bipush 6, 2) := by decide +kernel
theorem dX0_putSendingFrame_9 : decode cX0_putSendingFrame 9 = .ok (.invokevirtual 39, 3) := by decide +kernel
theorem dX0_putSendingFrame_12 : decode cX0_putSendingFrame 12 = .ok (.bipush 82, 2) := by decide +kernel
theorem dX0_putSendingFrame_14 : decode cX0_putSendingFrame 14 = .ok (.if_icmp .ne 30, 3) := by decide +kernel
theorem dX0_putSendingFrame_17 : decode cX0_putSendingFrame 17 = .ok (.aload_n 1, 1) := by decide +kernel
theorem dX0_putSendingFrame_18 : decode cX0_putSendingFrame 18 = .ok (.invokevirtual 73, 3) := by decide +kernel
theorem dX0_putSendingFrame_21 : decode cX0_putSendingFrame 21 = .ok (.bipush 8, 2) := by decide +kernel
theorem dX0_putSendingFrame_23 : decode cX0_putSendingFrame 23 = .ok (.if_icmp .ne 21, 3) := by decide +kernel
theorem dX0_putSendingFrame_26 : decode cX0_putSendingFrame 26 = .ok (.iload_n 2, 1) := by decide +kernel
theorem dX0_putSendingFrame_27 : decode cX0_putSendingFrame 27 = .ok (.sipush 253, 3) := by decide +kernel
theorem dX0_putSendingFrame_30 : decode cX0_putSendingFrame 30 = .ok (.if_icmp .ne 14, 3) := by decide +kernel
theorem dX0_putSendingFrame_33 : decode cX0_putSendingFrame 33 = .ok (.aload_n 0, 1) := by decide +kernel
theorem dX0_putSendingFrame_34 : decode cX0_putSendingFrame 34 = .ok (.aload_n 1, 1) := by decide +kernel
theorem dX0_putSendingFrame_35 : decode cX0_putSendingFrame 35 = .ok (.bipush 7, 2) := by decide +kernel
theorem dX0_putSendingFrame_37 : decode cX0_putSendingFrame 37 = .ok (.invokevirtual 77, 3) := by decide +kernel
theorem dX0_putSendingFrame_40 : decode cX0_putSendingFrame 40 = .ok (.invokevirtual 81, 3) := by decide +kernel
theorem dX0_putSendingFrame_43 : decode cX0_putSendingFrame 43 = .ok (.ireturn, 1) := by decide +kernel
theorem dX0_putSendingFrame_44 : decode cX0_putSendingFrame 44 = .ok (.aload_n 0, 1) := by decide +kernel
theorem dX0_putSendingFrame_45 : decode cX0_putSendingFrame 45 = .ok (.dup, 1) := by decide +kernel
theorem dX0_putSendingFrame_46 : decode cX0_putSendingFrame 46 = .ok (.getfield 24, 3) := by decide +kernel
theorem dX0_putSendingFrame_49 : decode cX0_putSendingFrame 49 = .ok (.iconst 1, 1) := by decide +kernel
theorem dX0_putSendingFrame_50 : decode cX0_putSendingFrame 50 = .ok (.iadd, 1) := by decide +kernel
theorem dX0_putSendingFrame_51 : decode cX0_putSendingFrame 51 = .ok (.putfield 24, 3) := by decide +kernel
theorem dX0_putSendingFrame_54 : decode cX0_putSendingFrame 54 = .ok (.iconst 0, 1) := by decide +kernel
theorem dX0_putSendingFrame_55 : decode cX0_putSendingFrame 55 = .ok (.istore_n 3, 1) := by decide +kernel
theorem dX0_putSendingFrame_56 : decode cX0_putSendingFrame 56 = .ok (.iconst 0, 1) := by decide +kernel
theorem dX0_putSendingFrame_57 : decode cX0_putSendingFrame 57 = .ok (.istore 4, 2) := by decide +kernel
theorem dX0_putSendingFrame_59 : decode cX0_putSendingFrame 59 = .ok (.iload 4, 2) := by decide +kernel
theorem dX0_putSendingFrame_61 : decode cX0_putSendingFrame 61 = .ok (.bipush 12, 2) := by decide +kernel
theorem dX0_putSendingFrame_63 : decode cX0_putSendingFrame 63 = .ok (.if_icmp .ge 48, 3) := by decide +kernel
theorem dX0_putSendingFrame_66 : decode cX0_putSendingFrame 66 = .ok (.aload_n 0, 1) := by decide +kernel
theorem dX0_putSendingFrame_67 : decode cX0_putSendingFrame 67 = .ok (.getfield 11, 3) := by decide +kernel
theorem dX0_putSendingFrame_70 : decode cX0_putSendingFrame 70 = .ok (.iload 4, 2) := by decide +kernel
theorem dX0_putSendingFrame_72 : decode cX0_putSendingFrame 72 = .ok (.aaload, 1) := by decide +kernel
theorem dX0_putSendingFrame_73 : decode cX0_putSendingFrame 73 = .ok (.astore 5, 2) := by decide +kernel
theorem dX0_putSendingFrame_75 : decode cX0_putSendingFrame 75 = .ok (.aload 5, 2) := by decide +kernel
theorem dX0_putSendingFrame_77 : decode cX0_putSendingFrame 77 = .ok (.ifnull 28, 3) := by decide +kernel
theorem dX0_putSendingFrame_80 : decode cX0_putSendingFrame 80 = .ok (.aload 5, 2) := by decide +kernel
theorem dX0_putSendingFrame_82 : decode cX0_putSendingFrame 82 = .ok (.iload_n 2, 1) := by decide +kernel
theorem dX0_putSendingFrame_83 : decode cX0_putSendingFrame 83 = .ok (.invokevirtual 57, 3) := by decide +kernel
theorem dX0_putSendingFrame_86 : decode cX0_putSendingFrame 86 = .ok (.ifCond .eq 19, 3) := by decide +kernel
theorem dX0_putSendingFrame_89 : decode cX0_putSendingFrame 89 = .ok (.aload 5, 2) := by decide +kernel
theorem dX0_putSendingFrame_91 : decode cX0_putSendingFrame 91 = .ok (.aload_n 1, 1) := by decide +kernel
theorem dX0_putSendingFrame_92 : decode cX0_putSendingFrame 92 = .ok (.aload_n 0, 1) := by decide +kernel
theorem dX0_putSendingFrame_93 : decode cX0_putSendingFrame 93 = .ok (.getfield 20, 3) := by decide +kernel
theorem dX0_putSendingFrame_96 : decode cX0_putSendingFrame 96 = .ok (.invokevirtual 85, 3) := by decide +kernel
theorem dX0_putSendingFrame_99 : decode cX0_putSendingFrame 99 = .ok (.ifCond .eq 6, 3) := by decide +kernel
theorem dX0_putSendingFrame_102 : decode cX0_putSendingFrame 102 = .ok (.iinc 3 1, 3) := by decide +kernel
theorem dX0_putSendingFrame_105 : decode cX0_putSendingFrame 105 = .ok (.iinc 4 1, 3) := by decide +kernel
theorem dX0_putSendingFrame_108 : decode cX0_putSendingFrame 108 = .ok (.goto (-49), 3) := by decide +kernel
theorem dX0_putSendingFrame_111 : decode cX0_putSendingFrame 111 = .ok (.aload_n 0, 1) := by decide +kernel
theorem dX0_putSendingFrame_112 : decode cX0_putSendingFrame 112 = .ok (.iload_n 2, 1) := by decide +kernel
theorem dX0_putSendingFrame_113 : decode cX0_putSendingFrame 113 = .ok (.sipush 255, 3) := by decide +kernel
theorem dX0_putSendingFrame_116 : decode cX0_putSendingFrame 116 = .ok (.if_icmp .ne 7, 3) := by decide +kernel
theorem dX0_putSendingFrame_119 : decode cX0_putSendingFrame 119 = .ok (.iconst 0, 1) := by decide +kernel
theorem dX0_putSendingFrame_120 : decode cX0_putSendingFrame 120 = .ok (.goto 4, 3) := by decide +kernel
theorem dX0_putSendingFrame_123 : decode cX0_putSendingFrame 123 = .ok (.iload_n 3, 1) := by decide +kernel
theorem dX0_putSendingFrame_124 : decode cX0_putSendingFrame 124 = .ok (.invokevirtual 54, 3) := by decide +kernel
theorem dX0_putSendingFrame_127 : decode cX0_putSendingFrame 127 = .ok (.ireturn, 1) := by decide +kernel
theorem dX0_caredBits_0 : decode cX0_caredBits 0 = .ok (.lconst 0, 1) := by decide +kernel
theorem dX0_caredBits_1 : decode cX0_caredBits 1 = .ok (.lstore_n 2, 1) := by decide +kernel
theorem dX0_caredBits_2 : decode cX0_caredBits 2 = .ok (.iconst 0, 1) := by decide +kernel
theorem dX0_caredBits_3 : decode cX0_caredBits 3 = .ok (.istore 4, 2) := by decide +kernel
theorem dX0_caredBits_5 : decode cX0_caredBits 5 = .ok (.iload 4, 2) := by decide +kernel
theorem dX0_caredBits_7 : decode cX0_caredBits 7 = .ok (.bipush 32, 2) := by decide +kernel
theorem dX0_caredBits_9 : decode cX0_caredBits 9 = .ok (.if_icmp .ge 33, 3) := by decide +kernel
theorem dX0_caredBits_12 : decode cX0_caredBits 12 = .ok (.lload_n 0, 1) := by decide +kernel
theorem dX0_caredBits_13 : decode cX0_caredBits 13 = .ok (.iload 4, 2) := by decide +kernel
theorem dX0_caredBits_15 : decode cX0_caredBits 15 = .ok (.lushr, 1) := by decide +kernel
theorem dX0_caredBits_16 : decode cX0_caredBits 16 = .ok (.ldc2_w 89, 3) := by decide +kernel
theorem dX0_caredBits_19 : decode cX0_caredBits 19 = .ok (.land, 1) := by decide +kernel
theorem dX0_caredBits_20 : decode cX0_caredBits 20 = .ok (.ldc2_w 89, 3) := by decide +kernel
theorem dX0_caredBits_23 : decode cX0_caredBits 23 = .ok (.lcmp, 1) := by decide +kernel
theorem dX0_caredBits_24 : decode cX0_caredBits 24 = .ok (.ifCond .eq 12, 3) := by decide +kernel
theorem dX0_caredBits_27 : decode cX0_caredBits 27 = .ok (.lload_n 2, 1) := by decide +kernel
theorem dX0_caredBits_28 : decode cX0_caredBits 28 = .ok (.ldc2_w 89, 3) := by decide +kernel
theorem dX0_caredBits_31 : decode cX0_caredBits 31 = .ok (.iload 4, 2) := by decide +kernel
theorem dX0_caredBits_33 : decode cX0_caredBits 33 = .ok (.lshl, 1) := by decide +kernel
theorem dX0_caredBits_34 : decode cX0_caredBits 34 = .ok (.lor, 1) := by decide +kernel
theorem dX0_caredBits_35 : decode cX0_caredBits 35 = .ok (.lstore_n 2, 1) := by decide +kernel
theorem dX0_caredBits_36 : decode cX0_caredBits 36 = .ok (.iinc 4 4, 3) := by decide +kernel
theorem dX0_caredBits_39 : decode cX0_caredBits 39 = .ok (.goto (-34), 3) := by decide +kernel
theorem dX0_caredBits_42 : decode cX0_caredBits 42 = .ok (.bipush 32, 2) := by decide +kernel
theorem dX0_caredBits_44 : decode cX0_caredBits 44 = .ok (.istore 4, 2) := by decide +kernel
theorem dX0_caredBits_46 : decode cX0_caredBits 46 = .ok (.iload 4, 2) := by decide +kernel
theorem dX0_caredBits_48 : decode cX0_caredBits 48 = .ok (.bipush 64, 2) := by decide +kernel
theorem dX0_caredBits_50 : decode cX0_caredBits 50 = .ok (.if_icmp .ge 33, 3) := by decide +kernel
theorem dX0_caredBits_53 : decode cX0_caredBits 53 = .ok (.lload_n 0, 1) := by decide +kernel
theorem dX0_caredBits_54 : decode cX0_caredBits 54 = .ok (.iload 4, 2) := by decide +kernel
theorem dX0_caredBits_56 : decode cX0_caredBits 56 = .ok (.lushr, 1) := by decide +kernel
theorem dX0_caredBits_57 : decode cX0_caredBits 57 = .ok (.ldc2_w 91, 3) := by decide +kernel
theorem dX0_caredBits_60 : decode cX0_caredBits 60 = .ok (.land, 1) := by decide +kernel
theorem dX0_caredBits_61 : decode cX0_caredBits 61 = .ok (.ldc2_w 91, 3) := by decide +kernel
theorem dX0_caredBits_64 : decode cX0_caredBits 64 = .ok (.lcmp, 1) := by decide +kernel
theorem dX0_caredBits_65 : decode cX0_caredBits 65 = .ok (.ifCond .eq 12, 3) := by decide +kernel
theorem dX0_caredBits_68 : decode cX0_caredBits 68 = .ok (.lload_n 2, 1) := by decide +kernel
theorem dX0_caredBits_69 : decode cX0_caredBits 69 = .ok (.ldc2_w 91, 3) := by decide +kernel
theorem dX0_caredBits_72 : decode cX0_caredBits 72 = .ok (.iload 4, 2) := by decide +kernel
theorem dX0_caredBits_74 : decode cX0_caredBits 74 = .ok (.lshl, 1) := by decide +kernel
theorem dX0_caredBits_75 : decode cX0_caredBits 75 = .ok (.lor, 1) := by decide +kernel
theorem dX0_caredBits_76 : decode cX0_caredBits 76 = .ok (.lstore_n 2, 1) := by decide +kernel
theorem dX0_caredBits_77 : decode cX0_caredBits 77 = .ok (.iinc 4 8, 3) := by decide +kernel
theorem dX0_caredBits_80 : decode cX0_caredBits 80 = .ok (.goto (-34), 3) := by decide +kernel
theorem dX0_caredBits_83 : decode cX0_caredBits 83 = .ok (.lload_n 2, 1) := by decide +kernel
theorem dX0_caredBits_84 : decode cX0_caredBits 84 = .ok (.lreturn, 1) := by decide +kernel
theorem dX0_outcome_0 : decode cX0_outcome 0 = .ok (.iload_n 1, 1) := by decide +kernel
theorem dX0_outcome_1 : decode cX0_outcome 1 = .ok (.iconst 1, 1) := by decide +kernel
theorem dX0_outcome_2 : decode cX0_outcome 2 = .ok (.if_icmp .ne 11, 3) := by decide +kernel
theorem dX0_outcome_5 : decode cX0_outcome 5 = .ok (.aload_n 0, 1) := by decide +kernel
theorem dX0_outcome_6 : decode cX0_outcome 6 = .ok (.getfield 20, 3) := by decide +kernel
theorem dX0_outcome_9 : decode cX0_outcome 9 = .ok (.invokevirtual 93, 3) := by decide +kernel
theorem dX0_outcome_12 : decode cX0_outcome 12 = .ok (.ireturn, 1) := by decide +kernel
theorem dX0_outcome_13 : decode cX0_outcome 13 = .ok (.aload_n 0, 1) := by decide +kernel
theorem dX0_outcome_14 : decode cX0_outcome 14 = .ok (.getfield 20, 3) := by decide +kernel
theorem dX0_outcome_17 : decode cX0_outcome 17 = .ok (.iconst 0, 1) := by decide +kernel
theorem dX0_outcome_18 : decode cX0_outcome 18 = .ok (.invokevirtual 96, 3) := by decide +kernel
theorem dX0_outcome_21 : decode cX0_outcome 21 = .ok (.iload_n 1, 1) := by decide +kernel
theorem dX0_outcome_22 : decode cX0_outcome 22 = .ok (.ifCond .ne 5, 3) := by decide +kernel
theorem dX0_outcome_25 : decode cX0_outcome 25 = .ok (.iconst 0, 1) := by decide +kernel
theorem dX0_outcome_26 : decode cX0_outcome 26 = .ok (.ireturn, 1) := by decide +kernel
theorem dX0_outcome_27 : decode cX0_outcome 27 = .ok (.aload_n 0, 1) := by decide +kernel
theorem dX0_outcome_28 : decode cX0_outcome 28 = .ok (.dup, 1) := by decide +kernel
theorem dX0_outcome_29 : decode cX0_outcome 29 = .ok (.getfield 28, 3) := by decide +kernel
theorem dX0_outcome_32 : decode cX0_outcome 32 = .ok (.iconst 1, 1) := by decide +kernel
theorem dX0_outcome_33 : decode cX0_outcome 33 = .ok (.iadd, 1) := by decide +kernel
theorem dX0_outcome_34 : decode cX0_outcome 34 = .ok (.putfield 28, 3) := by decide +kernel
theorem dX0_outcome_37 : decode cX0_outcome 37 = .ok (.bipush (-2), 2) := by decide +kernel
theorem dX0_outcome_39 : decode cX0_outcome 39 = .ok (.ireturn, 1) := by decide +kernel
end
section
/-! The instructions of the class, decoded. By program (wip/mkdec.py). -/
theorem dX1_init_0 : decode cX1_init 0 = .ok (.aload_n 0, 1) := by decide +kernel
theorem dX1_init_1 : decode cX1_init 1 = .ok (.invokespecial 3, 3) := by decide +kernel
theorem dX1_init_4 : decode cX1_init 4 = .ok (.aload_n 0, 1) := by decide +kernel
theorem dX1_init_5 : decode cX1_init 5 = .ok (.iconst 0, 1) := by decide +kernel
theorem dX1_init_6 : decode cX1_init 6 = .ok (.putfield 9, 3) := by decide +kernel
theorem dX1_init_9 : decode cX1_init 9 = .ok (.aload_n 0, 1) := by decide +kernel
theorem dX1_init_10 : decode cX1_init 10 = .ok (.iconst 0, 1) := by decide +kernel
theorem dX1_init_11 : decode cX1_init 11 = .ok (.putfield 15, 3) := by decide +kernel
theorem dX1_init_14 : decode cX1_init 14 = .ok (.aload_n 0, 1) := by decide +kernel
theorem dX1_init_15 : decode cX1_init 15 = .ok (.iconst 0, 1) := by decide +kernel
theorem dX1_init_16 : decode cX1_init 16 = .ok (.putfield 18, 3) := by decide +kernel
theorem dX1_init_19 : decode cX1_init 19 = .ok (.aload_n 0, 1) := by decide +kernel
theorem dX1_init_20 : decode cX1_init 20 = .ok (.iconst (-1), 1) := by decide +kernel
theorem dX1_init_21 : decode cX1_init 21 = .ok (.putfield 21, 3) := by decide +kernel
theorem dX1_init_24 : decode cX1_init 24 = .ok (.aload_n 0, 1) := by decide +kernel
theorem dX1_init_25 : decode cX1_init 25 = .ok (.iconst 0, 1) := by decide +kernel
theorem dX1_init_26 : decode cX1_init 26 = .ok (.putfield 24, 3) := by decide +kernel
theorem dX1_init_29 : decode cX1_init 29 = .ok (.aload_n 0, 1) := by decide +kernel
theorem dX1_init_30 : decode cX1_init 30 = .ok (.aload_n 1, 1) := by decide +kernel
theorem dX1_init_31 : decode cX1_init 31 = .ok (.putfield 28, 3) := by decide +kernel
theorem dX1_init_34 : decode cX1_init 34 = .ok (.aload_n 0, 1) := by decide +kernel
theorem dX1_init_35 : decode cX1_init 35 = .ok (.aload_n 2, 1) := by decide +kernel
theorem dX1_init_36 : decode cX1_init 36 = .ok (.putfield 32, 3) := by decide +kernel
theorem dX1_init_39 : decode cX1_init 39 = .ok (.return_, 1) := by decide +kernel
theorem dX1_lastFault_0 : decode cX1_lastFault 0 = .ok (.aload_n 0, 1) := by decide +kernel
theorem dX1_lastFault_1 : decode cX1_lastFault 1 = .ok (.getfield 18, 3) := by decide +kernel
theorem dX1_lastFault_4 : decode cX1_lastFault 4 = .ok (.ireturn, 1) := by decide +kernel
theorem dX1_lastFaultPlace_0 : decode cX1_lastFaultPlace 0 = .ok (.aload_n 0, 1) := by decide +kernel
theorem dX1_lastFaultPlace_1 : decode cX1_lastFaultPlace 1 = .ok (.getfield 21, 3) := by decide +kernel
theorem dX1_lastFaultPlace_4 : decode cX1_lastFaultPlace 4 = .ok (.ireturn, 1) := by decide +kernel
theorem dX1_forgetFault_0 : decode cX1_forgetFault 0 = .ok (.aload_n 0, 1) := by decide +kernel
theorem dX1_forgetFault_1 : decode cX1_forgetFault 1 = .ok (.iconst 0, 1) := by decide +kernel
theorem dX1_forgetFault_2 : decode cX1_forgetFault 2 = .ok (.putfield 18, 3) := by decide +kernel
theorem dX1_forgetFault_5 : decode cX1_forgetFault 5 = .ok (.aload_n 0, 1) := by decide +kernel
theorem dX1_forgetFault_6 : decode cX1_forgetFault 6 = .ok (.iconst (-1), 1) := by decide +kernel
theorem dX1_forgetFault_7 : decode cX1_forgetFault 7 = .ok (.putfield 21, 3) := by decide +kernel
theorem dX1_forgetFault_10 : decode cX1_forgetFault 10 = .ok (.return_, 1) := by decide +kernel
theorem dX1_reads_0 : decode cX1_reads 0 = .ok (.aload_n 0, 1) := by decide +kernel
theorem dX1_reads_1 : decode cX1_reads 1 = .ok (.aload_n 1, 1) := by decide +kernel
theorem dX1_reads_2 : decode cX1_reads 2 = .ok (.putfield 28, 3) := by decide +kernel
theorem dX1_reads_5 : decode cX1_reads 5 = .ok (.aload_n 0, 1) := by decide +kernel
theorem dX1_reads_6 : decode cX1_reads 6 = .ok (.iconst 0, 1) := by decide +kernel
theorem dX1_reads_7 : decode cX1_reads 7 = .ok (.putfield 24, 3) := by decide +kernel
theorem dX1_reads_10 : decode cX1_reads 10 = .ok (.aload_n 0, 1) := by decide +kernel
theorem dX1_reads_11 : decode cX1_reads 11 = .ok (.invokevirtual 36, 3) := by decide +kernel
theorem dX1_reads_14 : decode cX1_reads 14 = .ok (.aload_n 0, 1) := by decide +kernel
theorem dX1_reads_15 : decode cX1_reads 15 = .ok (.getfield 32, 3) := by decide +kernel
theorem dX1_reads_18 : decode cX1_reads 18 = .ok (.invokevirtual 39, 3) := by decide +kernel
theorem dX1_reads_21 : decode cX1_reads 21 = .ok (.istore_n 2, 1) := by decide +kernel
theorem dX1_reads_22 : decode cX1_reads 22 = .ok (.aload_n 0, 1) := by decide +kernel
theorem dX1_reads_23 : decode cX1_reads 23 = .ok (.invokevirtual 45, 3) := by decide +kernel
theorem dX1_reads_26 : decode cX1_reads 26 = .ok (.ifCond .eq 21, 3) := by decide +kernel
theorem dX1_reads_29 : decode cX1_reads 29 = .ok (.aload_n 0, 1) := by decide +kernel
theorem dX1_reads_30 : decode cX1_reads 30 = .ok (.invokevirtual 49, 3) := by decide +kernel
theorem dX1_reads_33 : decode cX1_reads 33 = .ok (.ifCond .eq 14, 3) := by decide +kernel
theorem dX1_reads_36 : decode cX1_reads 36 = .ok (.aload_n 0, 1) := by decide +kernel
theorem dX1_reads_37 : decode cX1_reads 37 = .ok (.invokevirtual 52, 3) := by decide +kernel
theorem dX1_reads_40 : decode cX1_reads 40 = .ok (.ifCond .eq 7, 3) := by decide +kernel
theorem dX1_reads_43 : decode cX1_reads 43 = .ok (.iconst 1, 1) := by decide +kernel
theorem dX1_reads_44 : decode cX1_reads 44 = .ok (.goto 4, 3) := by decide +kernel
theorem dX1_reads_47 : decode cX1_reads 47 = .ok (.iconst 0, 1) := by decide +kernel
theorem dX1_reads_48 : decode cX1_reads 48 = .ok (.istore_n 3, 1) := by decide +kernel
theorem dX1_reads_49 : decode cX1_reads 49 = .ok (.aload_n 0, 1) := by decide +kernel
theorem dX1_reads_50 : decode cX1_reads 50 = .ok (.bipush 19, 2) := by decide +kernel
theorem dX1_reads_52 : decode cX1_reads 52 = .ok (.putfield 9, 3) := by decide +kernel
theorem dX1_reads_55 : decode cX1_reads 55 = .ok (.iconst 0, 1) := by decide +kernel
theorem dX1_reads_56 : decode cX1_reads 56 = .ok (.istore 4, 2) := by decide +kernel
theorem dX1_reads_58 : decode cX1_reads 58 = .ok (.iload 4, 2) := by decide +kernel
theorem dX1_reads_60 : decode cX1_reads 60 = .ok (.sipush 300, 3) := by decide +kernel
theorem dX1_reads_63 : decode cX1_reads 63 = .ok (.if_icmp .ge 29, 3) := by decide +kernel
theorem dX1_reads_66 : decode cX1_reads 66 = .ok (.iload_n 3, 1) := by decide +kernel
theorem dX1_reads_67 : decode cX1_reads 67 = .ok (.ifCond .eq 25, 3) := by decide +kernel
theorem dX1_reads_70 : decode cX1_reads 70 = .ok (.aload_n 0, 1) := by decide +kernel
theorem dX1_reads_71 : decode cX1_reads 71 = .ok (.getfield 9, 3) := by decide +kernel
theorem dX1_reads_74 : decode cX1_reads 74 = .ok (.aload_n 0, 1) := by decide +kernel
theorem dX1_reads_75 : decode cX1_reads 75 = .ok (.getfield 15, 3) := by decide +kernel
theorem dX1_reads_78 : decode cX1_reads 78 = .ok (.if_icmp .ge 14, 3) := by decide +kernel
theorem dX1_reads_81 : decode cX1_reads 81 = .ok (.aload_n 0, 1) := by decide +kernel
theorem dX1_reads_82 : decode cX1_reads 82 = .ok (.invokevirtual 55, 3) := by decide +kernel
theorem dX1_reads_85 : decode cX1_reads 85 = .ok (.istore_n 3, 1) := by decide +kernel
theorem dX1_reads_86 : decode cX1_reads 86 = .ok (.iinc 4 1, 3) := by decide +kernel
theorem dX1_reads_89 : decode cX1_reads 89 = .ok (.goto (-31), 3) := by decide +kernel
theorem dX1_reads_92 : decode cX1_reads 92 = .ok (.iload_n 3, 1) := by decide +kernel
theorem dX1_reads_93 : decode cX1_reads 93 = .ok (.ifCond .ne 11, 3) := by decide +kernel
theorem dX1_reads_96 : decode cX1_reads 96 = .ok (.aload_n 0, 1) := by decide +kernel
theorem dX1_reads_97 : decode cX1_reads 97 = .ok (.getfield 32, 3) := by decide +kernel
theorem dX1_reads_100 : decode cX1_reads 100 = .ok (.iload_n 2, 1) := by decide +kernel
theorem dX1_reads_101 : decode cX1_reads 101 = .ok (.invokevirtual 58, 3) := by decide +kernel
theorem dX1_reads_104 : decode cX1_reads 104 = .ok (.iload_n 3, 1) := by decide +kernel
theorem dX1_reads_105 : decode cX1_reads 105 = .ok (.ireturn, 1) := by decide +kernel
theorem dX1_wrong_0 : decode cX1_wrong 0 = .ok (.aload_n 0, 1) := by decide +kernel
theorem dX1_wrong_1 : decode cX1_wrong 1 = .ok (.iload_n 1, 1) := by decide +kernel
theorem dX1_wrong_2 : decode cX1_wrong 2 = .ok (.putfield 18, 3) := by decide +kernel
theorem dX1_wrong_5 : decode cX1_wrong 5 = .ok (.aload_n 0, 1) := by decide +kernel
theorem dX1_wrong_6 : decode cX1_wrong 6 = .ok (.iload_n 2, 1) := by decide +kernel
theorem dX1_wrong_7 : decode cX1_wrong 7 = .ok (.putfield 21, 3) := by decide +kernel
theorem dX1_wrong_10 : decode cX1_wrong 10 = .ok (.iconst 0, 1) := by decide +kernel
theorem dX1_wrong_11 : decode cX1_wrong 11 = .ok (.ireturn, 1) := by decide +kernel
theorem dX1_frameIsWell_0 : decode cX1_frameIsWell 0 = .ok (.aload_n 0, 1) := by decide +kernel
theorem dX1_frameIsWell_1 : decode cX1_frameIsWell 1 = .ok (.getfield 28, 3) := by decide +kernel
theorem dX1_frameIsWell_4 : decode cX1_frameIsWell 4 = .ok (.iconst 1, 1) := by decide +kernel
theorem dX1_frameIsWell_5 : decode cX1_frameIsWell 5 = .ok (.invokevirtual 62, 3) := by decide +kernel
theorem dX1_frameIsWell_8 : decode cX1_frameIsWell 8 = .ok (.istore_n 1, 1) := by decide +kernel
theorem dX1_frameIsWell_9 : decode cX1_frameIsWell 9 = .ok (.aload_n 0, 1) := by decide +kernel
theorem dX1_frameIsWell_10 : decode cX1_frameIsWell 10 = .ok (.getfield 28, 3) := by decide +kernel
theorem dX1_frameIsWell_13 : decode cX1_frameIsWell 13 = .ok (.iconst 0, 1) := by decide +kernel
theorem dX1_frameIsWell_14 : decode cX1_frameIsWell 14 = .ok (.invokevirtual 62, 3) := by decide +kernel
theorem dX1_frameIsWell_17 : decode cX1_frameIsWell 17 = .ok (.bipush 104, 2) := by decide +kernel
theorem dX1_frameIsWell_19 : decode cX1_frameIsWell 19 = .ok (.if_icmp .eq 10, 3) := by decide +kernel
theorem dX1_frameIsWell_22 : decode cX1_frameIsWell 22 = .ok (.aload_n 0, 1) := by decide +kernel
theorem dX1_frameIsWell_23 : decode cX1_frameIsWell 23 = .ok (.iconst 1, 1) := by decide +kernel
theorem dX1_frameIsWell_24 : decode cX1_frameIsWell 24 = .ok (.iconst 0, 1) := by decide +kernel
theorem dX1_frameIsWell_25 : decode cX1_frameIsWell 25 = .ok (.invokevirtual 67, 3) := by decide +kernel
theorem dX1_frameIsWell_28 : decode cX1_frameIsWell 28 = .ok (.ireturn, 1) := by decide +kernel
theorem dX1_frameIsWell_29 : decode cX1_frameIsWell 29 = .ok (.iload_n 1, 1) := by decide +kernel
theorem dX1_frameIsWell_30 : decode cX1_frameIsWell 30 = .ok (.bipush 15, 2) := by decide +kernel
theorem dX1_frameIsWell_32 : decode cX1_frameIsWell 32 = .ok (.if_icmp .lt 10, 3) := by decide +kernel
theorem dX1_frameIsWell_35 : decode cX1_frameIsWell 35 = .ok (.iload_n 1, 1) := by decide +kernel
theorem dX1_frameIsWell_36 : decode cX1_frameIsWell 36 = .ok (.sipush 252, 3) := by decide +kernel
theorem dX1_frameIsWell_39 : decode cX1_frameIsWell 39 = .ok (.if_icmp .le 10, 3) := by decide +kernel
theorem dX1_frameIsWell_42 : decode cX1_frameIsWell 42 = .ok (.aload_n 0, 1) := by decide +kernel
theorem dX1_frameIsWell_43 : decode cX1_frameIsWell 43 = .ok (.iconst 1, 1) := by decide +kernel
theorem dX1_frameIsWell_44 : decode cX1_frameIsWell 44 = .ok (.iconst 1, 1) := by decide +kernel
theorem dX1_frameIsWell_45 : decode cX1_frameIsWell 45 = .ok (.invokevirtual 67, 3) := by decide +kernel
theorem dX1_frameIsWell_48 : decode cX1_frameIsWell 48 = .ok (.ireturn, 1) := by decide +kernel
theorem dX1_frameIsWell_49 : decode cX1_frameIsWell 49 = .ok (.aload_n 0, 1) := by decide +kernel
theorem dX1_frameIsWell_50 : decode cX1_frameIsWell 50 = .ok (.getfield 28, 3) := by decide +kernel
theorem dX1_frameIsWell_53 : decode cX1_frameIsWell 53 = .ok (.iconst 2, 1) := by decide +kernel
theorem dX1_frameIsWell_54 : decode cX1_frameIsWell 54 = .ok (.invokevirtual 62, 3) := by decide +kernel
theorem dX1_frameIsWell_57 : decode cX1_frameIsWell 57 = .ok (.iload_n 1, 1) := by decide +kernel
theorem dX1_frameIsWell_58 : decode cX1_frameIsWell 58 = .ok (.if_icmp .eq 10, 3) := by decide +kernel
theorem dX1_frameIsWell_61 : decode cX1_frameIsWell 61 = .ok (.aload_n 0, 1) := by decide +kernel
theorem dX1_frameIsWell_62 : decode cX1_frameIsWell 62 = .ok (.iconst 1, 1) := by decide +kernel
theorem dX1_frameIsWell_63 : decode cX1_frameIsWell 63 = .ok (.iconst 2, 1) := by decide +kernel
theorem dX1_frameIsWell_64 : decode cX1_frameIsWell 64 = .ok (.invokevirtual 67, 3) := by decide +kernel
theorem dX1_frameIsWell_67 : decode cX1_frameIsWell 67 = .ok (.ireturn, 1) := by decide +kernel
theorem dX1_frameIsWell_68 : decode cX1_frameIsWell 68 = .ok (.aload_n 0, 1) := by decide +kernel
theorem dX1_frameIsWell_69 : decode cX1_frameIsWell 69 = .ok (.getfield 28, 3) := by decide +kernel
theorem dX1_frameIsWell_72 : decode cX1_frameIsWell 72 = .ok (.iconst 3, 1) := by decide +kernel
theorem dX1_frameIsWell_73 : decode cX1_frameIsWell 73 = .ok (.invokevirtual 62, 3) := by decide +kernel
theorem dX1_frameIsWell_76 : decode cX1_frameIsWell 76 = .ok (.bipush 104, 2) := by decide +kernel
theorem dX1_frameIsWell_78 : decode cX1_frameIsWell 78 = .ok (.if_icmp .eq 10, 3) := by decide +kernel
theorem dX1_frameIsWell_81 : decode cX1_frameIsWell 81 = .ok (.aload_n 0, 1) := by decide +kernel
theorem dX1_frameIsWell_82 : decode cX1_frameIsWell 82 = .ok (.iconst 1, 1) := by decide +kernel
theorem dX1_frameIsWell_83 : decode cX1_frameIsWell 83 = .ok (.iconst 3, 1) := by decide +kernel
theorem dX1_frameIsWell_84 : decode cX1_frameIsWell 84 = .ok (.invokevirtual 67, 3) := by decide +kernel
theorem dX1_frameIsWell_87 : decode cX1_frameIsWell 87 = .ok (.ireturn, 1) := by decide +kernel
theorem dX1_frameIsWell_88 : decode cX1_frameIsWell 88 = .ok (.aload_n 0, 1) := by decide +kernel
theorem dX1_frameIsWell_89 : decode cX1_frameIsWell 89 = .ok (.getfield 28, 3) := by decide +kernel
theorem dX1_frameIsWell_92 : decode cX1_frameIsWell 92 = .ok (.invokevirtual 71, 3) := by decide +kernel
theorem dX1_frameIsWell_95 : decode cX1_frameIsWell 95 = .ok (.iload_n 1, 1) := by decide +kernel
theorem dX1_frameIsWell_96 : decode cX1_frameIsWell 96 = .ok (.bipush 6, 2) := by decide +kernel
theorem dX1_frameIsWell_98 : decode cX1_frameIsWell 98 = .ok (.iadd, 1) := by decide +kernel
theorem dX1_frameIsWell_99 : decode cX1_frameIsWell 99 = .ok (.if_icmp .eq 23, 3) := by decide +kernel
theorem dX1_frameIsWell_102 : decode cX1_frameIsWell 102 = .ok (.aload_n 0, 1) := by decide +kernel
theorem dX1_frameIsWell_103 : decode cX1_frameIsWell 103 = .ok (.iconst 1, 1) := by decide +kernel
theorem dX1_frameIsWell_104 : decode cX1_frameIsWell 104 = .ok (.aload_n 0, 1) := by decide +kernel
theorem dX1_frameIsWell_105 : decode cX1_frameIsWell 105 = .ok (.getfield 28, 3) := by decide +kernel
theorem dX1_frameIsWell_108 : decode cX1_frameIsWell 108 = .ok (.invokevirtual 71, 3) := by decide +kernel
theorem dX1_frameIsWell_111 : decode cX1_frameIsWell 111 = .ok (.iload_n 1, 1) := by decide +kernel
theorem dX1_frameIsWell_112 : decode cX1_frameIsWell 112 = .ok (.bipush 6, 2) := by decide +kernel
theorem dX1_frameIsWell_114 : decode cX1_frameIsWell 114 = .ok (.iadd, 1) := by decide +kernel
theorem dX1_frameIsWell_115 : decode cX1_frameIsWell 115 = .ok (.invokestatic 72, 3) := by decide +kernel
theorem dX1_frameIsWell_118 : decode cX1_frameIsWell 118 = .ok (.invokevirtual 67, 3) := by decide +kernel
theorem dX1_frameIsWell_121 : decode cX1_frameIsWell 121 = .ok (.ireturn, 1) := by decide +kernel
theorem dX1_frameIsWell_122 : decode cX1_frameIsWell 122 = .ok (.aload_n 0, 1) := by decide +kernel
theorem dX1_frameIsWell_123 : decode cX1_frameIsWell 123 = .ok (.getfield 28, 3) := by decide +kernel
theorem dX1_frameIsWell_126 : decode cX1_frameIsWell 126 = .ok (.iconst 4, 1) := by decide +kernel
theorem dX1_frameIsWell_127 : decode cX1_frameIsWell 127 = .ok (.invokevirtual 62, 3) := by decide +kernel
theorem dX1_frameIsWell_130 : decode cX1_frameIsWell 130 = .ok (.bipush 8, 2) := by decide +kernel
theorem dX1_frameIsWell_132 : decode cX1_frameIsWell 132 = .ok (.if_icmp .eq 10, 3) := by decide +kernel
theorem dX1_frameIsWell_135 : decode cX1_frameIsWell 135 = .ok (.aload_n 0, 1) := by decide +kernel
theorem dX1_frameIsWell_136 : decode cX1_frameIsWell 136 = .ok (.iconst 1, 1) := by decide +kernel
theorem dX1_frameIsWell_137 : decode cX1_frameIsWell 137 = .ok (.iconst 4, 1) := by decide +kernel
theorem dX1_frameIsWell_138 : decode cX1_frameIsWell 138 = .ok (.invokevirtual 67, 3) := by decide +kernel
theorem dX1_frameIsWell_141 : decode cX1_frameIsWell 141 = .ok (.ireturn, 1) := by decide +kernel
theorem dX1_frameIsWell_142 : decode cX1_frameIsWell 142 = .ok (.aload_n 0, 1) := by decide +kernel
theorem dX1_frameIsWell_143 : decode cX1_frameIsWell 143 = .ok (.getfield 28, 3) := by decide +kernel
theorem dX1_frameIsWell_146 : decode cX1_frameIsWell 146 = .ok (.bipush 6, 2) := by decide +kernel
theorem dX1_frameIsWell_148 : decode cX1_frameIsWell 148 = .ok (.invokevirtual 62, 3) := by decide +kernel
theorem dX1_frameIsWell_151 : decode cX1_frameIsWell 151 = .ok (.bipush 114, 2) := by decide +kernel
theorem dX1_frameIsWell_153 : decode cX1_frameIsWell 153 = .ok (.if_icmp .eq 11, 3) := by decide +kernel
theorem dX1_frameIsWell_156 : decode cX1_frameIsWell 156 = .ok (.aload_n 0, 1) := by decide +kernel
theorem dX1_frameIsWell_157 : decode cX1_frameIsWell 157 = .ok (.iconst 1, 1) := by decide +kernel
theorem dX1_frameIsWell_158 : decode cX1_frameIsWell 158 = .ok (.bipush 6, 2) := by decide +kernel
theorem dX1_frameIsWell_160 : decode cX1_frameIsWell 160 = .ok (.invokevirtual 67, 3) := by decide +kernel
theorem dX1_frameIsWell_163 : decode cX1_frameIsWell 163 = .ok (.ireturn, 1) := by decide +kernel
theorem dX1_frameIsWell_164 : decode cX1_frameIsWell 164 = .ok (.aload_n 0, 1) := by decide +kernel
theorem dX1_frameIsWell_165 : decode cX1_frameIsWell 165 = .ok (.iload_n 1, 1) := by decide +kernel
theorem dX1_frameIsWell_166 : decode cX1_frameIsWell 166 = .ok (.iconst 4, 1) := by decide +kernel
theorem dX1_frameIsWell_167 : decode cX1_frameIsWell 167 = .ok (.iadd, 1) := by decide +kernel
theorem dX1_frameIsWell_168 : decode cX1_frameIsWell 168 = .ok (.putfield 15, 3) := by decide +kernel
theorem dX1_frameIsWell_171 : decode cX1_frameIsWell 171 = .ok (.aload_n 0, 1) := by decide +kernel
theorem dX1_frameIsWell_172 : decode cX1_frameIsWell 172 = .ok (.getfield 28, 3) := by decide +kernel
theorem dX1_frameIsWell_175 : decode cX1_frameIsWell 175 = .ok (.aload_n 0, 1) := by decide +kernel
theorem dX1_frameIsWell_176 : decode cX1_frameIsWell 176 = .ok (.getfield 15, 3) := by decide +kernel
theorem dX1_frameIsWell_179 : decode cX1_frameIsWell 179 = .ok (.iconst 1, 1) := by decide +kernel
theorem dX1_frameIsWell_180 : decode cX1_frameIsWell 180 = .ok (.iadd, 1) := by decide +kernel
theorem dX1_frameIsWell_181 : decode cX1_frameIsWell 181 = .ok (.invokevirtual 62, 3) := by decide +kernel
theorem dX1_frameIsWell_184 : decode cX1_frameIsWell 184 = .ok (.bipush 22, 2) := by decide +kernel
theorem dX1_frameIsWell_186 : decode cX1_frameIsWell 186 = .ok (.if_icmp .eq 17, 3) := by decide +kernel
theorem dX1_frameIsWell_189 : decode cX1_frameIsWell 189 = .ok (.aload_n 0, 1) := by decide +kernel
theorem dX1_frameIsWell_190 : decode cX1_frameIsWell 190 = .ok (.iconst 1, 1) := by decide +kernel
theorem dX1_frameIsWell_191 : decode cX1_frameIsWell 191 = .ok (.aload_n 0, 1) := by decide +kernel
theorem dX1_frameIsWell_192 : decode cX1_frameIsWell 192 = .ok (.getfield 15, 3) := by decide +kernel
theorem dX1_frameIsWell_195 : decode cX1_frameIsWell 195 = .ok (.iconst 1, 1) := by decide +kernel
theorem dX1_frameIsWell_196 : decode cX1_frameIsWell 196 = .ok (.iadd, 1) := by decide +kernel
theorem dX1_frameIsWell_197 : decode cX1_frameIsWell 197 = .ok (.invokevirtual 67, 3) := by decide +kernel
theorem dX1_frameIsWell_200 : decode cX1_frameIsWell 200 = .ok (.ifCond .eq 7, 3) := by decide +kernel
theorem dX1_frameIsWell_203 : decode cX1_frameIsWell 203 = .ok (.iconst 1, 1) := by decide +kernel
theorem dX1_frameIsWell_204 : decode cX1_frameIsWell 204 = .ok (.goto 4, 3) := by decide +kernel
theorem dX1_frameIsWell_207 : decode cX1_frameIsWell 207 = .ok (.iconst 0, 1) := by decide +kernel
theorem dX1_frameIsWell_208 : decode cX1_frameIsWell 208 = .ok (.ireturn, 1) := by decide +kernel
theorem dX4_init_0 : decode cX4_init 0 = .ok (.aload_n 0, 1) := by decide +kernel
theorem dX4_init_1 : decode cX4_init 1 = .ok (.invokespecial 3, 3) := by decide +kernel
theorem dX4_init_4 : decode cX4_init 4 = .ok (.aload_n 0, 1) := by decide +kernel
theorem dX4_init_5 : decode cX4_init 5 = .ok (.bipush 101, 2) := by decide +kernel
theorem dX4_init_7 : decode cX4_init 7 = .ok (.anewarray 9, 3) := by decide +kernel
theorem dX4_init_10 : decode cX4_init 10 = .ok (.putfield 11, 3) := by decide +kernel
theorem dX4_init_13 : decode cX4_init 13 = .ok (.aload_n 0, 1) := by decide +kernel
theorem dX4_init_14 : decode cX4_init 14 = .ok (.iconst 0, 1) := by decide +kernel
theorem dX4_init_15 : decode cX4_init 15 = .ok (.putfield 17, 3) := by decide +kernel
theorem dX4_init_18 : decode cX4_init 18 = .ok (.return_, 1) := by decide +kernel
theorem dX4_size_0 : decode cX4_size 0 = .ok (.aload_n 0, 1) := by decide +kernel
theorem dX4_size_1 : decode cX4_size 1 = .ok (.getfield 17, 3) := by decide +kernel
theorem dX4_size_4 : decode cX4_size 4 = .ok (.ireturn, 1) := by decide +kernel
theorem dX4_at_0 : decode cX4_at 0 = .ok (.iload_n 1, 1) := by decide +kernel
theorem dX4_at_1 : decode cX4_at 1 = .ok (.ifCond .lt 29, 3) := by decide +kernel
theorem dX4_at_4 : decode cX4_at 4 = .ok (.iload_n 1, 1) := by decide +kernel
theorem dX4_at_5 : decode cX4_at 5 = .ok (.aload_n 0, 1) := by decide +kernel
theorem dX4_at_6 : decode cX4_at 6 = .ok (.getfield 17, 3) := by decide +kernel
theorem dX4_at_9 : decode cX4_at 9 = .ok (.if_icmp .ge 21, 3) := by decide +kernel
theorem dX4_at_12 : decode cX4_at 12 = .ok (.iload_n 1, 1) := by decide +kernel
theorem dX4_at_13 : decode cX4_at 13 = .ok (.aload_n 0, 1) := by decide +kernel
theorem dX4_at_14 : decode cX4_at 14 = .ok (.getfield 11, 3) := by decide +kernel
theorem dX4_at_17 : decode cX4_at 17 = .ok (.arraylength, 1) := by decide +kernel
theorem dX4_at_18 : decode cX4_at 18 = .ok (.if_icmp .ge 12, 3) := by decide +kernel
theorem dX4_at_21 : decode cX4_at 21 = .ok (.aload_n 0, 1) := by decide +kernel
theorem dX4_at_22 : decode cX4_at 22 = .ok (.getfield 11, 3) := by decide +kernel
theorem dX4_at_25 : decode cX4_at 25 = .ok (.iload_n 1, 1) := by decide +kernel
theorem dX4_at_26 : decode cX4_at 26 = .ok (.aaload, 1) := by decide +kernel
theorem dX4_at_27 : decode cX4_at 27 = .ok (.goto 4, 3) := by decide +kernel
theorem dX4_at_30 : decode cX4_at 30 = .ok (.aconst_null, 1) := by decide +kernel
theorem dX4_at_31 : decode cX4_at 31 = .ok (.areturn, 1) := by decide +kernel
theorem dX4_draft_0 : decode cX4_draft 0 = .ok (.aload_n 0, 1) := by decide +kernel
theorem dX4_draft_1 : decode cX4_draft 1 = .ok (.getfield 17, 3) := by decide +kernel
theorem dX4_draft_4 : decode cX4_draft 4 = .ok (.bipush 100, 2) := by decide +kernel
theorem dX4_draft_6 : decode cX4_draft 6 = .ok (.invokestatic 21, 3) := by decide +kernel
theorem dX4_draft_9 : decode cX4_draft 9 = .ok (.istore_n 1, 1) := by decide +kernel
theorem dX4_draft_10 : decode cX4_draft 10 = .ok (.aload_n 0, 1) := by decide +kernel
theorem dX4_draft_11 : decode cX4_draft 11 = .ok (.getfield 11, 3) := by decide +kernel
theorem dX4_draft_14 : decode cX4_draft 14 = .ok (.iload_n 1, 1) := by decide +kernel
theorem dX4_draft_15 : decode cX4_draft 15 = .ok (.aaload, 1) := by decide +kernel
theorem dX4_draft_16 : decode cX4_draft 16 = .ok (.ifnonnull 16, 3) := by decide +kernel
theorem dX4_draft_19 : decode cX4_draft 19 = .ok (.aload_n 0, 1) := by decide +kernel
theorem dX4_draft_20 : decode cX4_draft 20 = .ok (.getfield 11, 3) := by decide +kernel
theorem dX4_draft_23 : decode cX4_draft 23 = .ok (.iload_n 1, 1) := by decide +kernel
theorem dX4_draft_24 : decode cX4_draft 24 = .ok (.new 9, 3) := by decide +kernel
theorem dX4_draft_27 : decode cX4_draft 27 = .ok (.dup, 1) := by decide +kernel
theorem dX4_draft_28 : decode cX4_draft 28 = .ok (.invokespecial 27, 3) := by decide +kernel
theorem dX4_draft_31 : decode cX4_draft 31 = .ok (.aastore, 1) := by decide +kernel
theorem dX4_draft_32 : decode cX4_draft 32 = .ok (.aload_n 0, 1) := by decide +kernel
theorem dX4_draft_33 : decode cX4_draft 33 = .ok (.getfield 11, 3) := by decide +kernel
theorem dX4_draft_36 : decode cX4_draft 36 = .ok (.iload_n 1, 1) := by decide +kernel
theorem dX4_draft_37 : decode cX4_draft 37 = .ok (.aaload, 1) := by decide +kernel
theorem dX4_draft_38 : decode cX4_draft 38 = .ok (.areturn, 1) := by decide +kernel
theorem dX4_takesDraft_0 : decode cX4_takesDraft 0 = .ok (.aload_n 0, 1) := by decide +kernel
theorem dX4_takesDraft_1 : decode cX4_takesDraft 1 = .ok (.getfield 17, 3) := by decide +kernel
theorem dX4_takesDraft_4 : decode cX4_takesDraft 4 = .ok (.bipush 100, 2) := by decide +kernel
theorem dX4_takesDraft_6 : decode cX4_takesDraft 6 = .ok (.if_icmp .lt 5, 3) := by decide +kernel
theorem dX4_takesDraft_9 : decode cX4_takesDraft 9 = .ok (.iconst 0, 1) := by decide +kernel
theorem dX4_takesDraft_10 : decode cX4_takesDraft 10 = .ok (.ireturn, 1) := by decide +kernel
theorem dX4_takesDraft_11 : decode cX4_takesDraft 11 = .ok (.aload_n 0, 1) := by decide +kernel
theorem dX4_takesDraft_12 : decode cX4_takesDraft 12 = .ok (.dup, 1) := by decide +kernel
theorem dX4_takesDraft_13 : decode cX4_takesDraft 13 = .ok (.getfield 17, 3) := by decide +kernel
theorem dX4_takesDraft_16 : decode cX4_takesDraft 16 = .ok (.iconst 1, 1) := by decide +kernel
theorem dX4_takesDraft_17 : decode cX4_takesDraft 17 = .ok (.iadd, 1) := by decide +kernel
theorem dX4_takesDraft_18 : decode cX4_takesDraft 18 = .ok (.putfield 17, 3) := by decide +kernel
theorem dX4_takesDraft_21 : decode cX4_takesDraft 21 = .ok (.iconst 1, 1) := by decide +kernel
theorem dX4_takesDraft_22 : decode cX4_takesDraft 22 = .ok (.ireturn, 1) := by decide +kernel
theorem dX4_cutTo_0 : decode cX4_cutTo 0 = .ok (.iload_n 1, 1) := by decide +kernel
theorem dX4_cutTo_1 : decode cX4_cutTo 1 = .ok (.ifCond .lt 16, 3) := by decide +kernel
theorem dX4_cutTo_4 : decode cX4_cutTo 4 = .ok (.iload_n 1, 1) := by decide +kernel
theorem dX4_cutTo_5 : decode cX4_cutTo 5 = .ok (.aload_n 0, 1) := by decide +kernel
theorem dX4_cutTo_6 : decode cX4_cutTo 6 = .ok (.getfield 17, 3) := by decide +kernel
theorem dX4_cutTo_9 : decode cX4_cutTo 9 = .ok (.if_icmp .ge 8, 3) := by decide +kernel
theorem dX4_cutTo_12 : decode cX4_cutTo 12 = .ok (.aload_n 0, 1) := by decide +kernel
theorem dX4_cutTo_13 : decode cX4_cutTo 13 = .ok (.iload_n 1, 1) := by decide +kernel
theorem dX4_cutTo_14 : decode cX4_cutTo 14 = .ok (.putfield 17, 3) := by decide +kernel
theorem dX4_cutTo_17 : decode cX4_cutTo 17 = .ok (.return_, 1) := by decide +kernel
end
section
/-! The instructions of the class, decoded. By program (wip/mkdec.py). -/
theorem dX6_init_0 : decode cX6_init 0 = .ok (.aload_n 0, 1) := by decide +kernel
theorem dX6_init_1 : decode cX6_init 1 = .ok (.invokespecial 1, 3) := by decide +kernel
theorem dX6_init_4 : decode cX6_init 4 = .ok (.aload_n 0, 1) := by decide +kernel
theorem dX6_init_5 : decode cX6_init 5 = .ok (.new 7, 3) := by decide +kernel
theorem dX6_init_8 : decode cX6_init 8 = .ok (.dup, 1) := by decide +kernel
theorem dX6_init_9 : decode cX6_init 9 = .ok (.invokespecial 9, 3) := by decide +kernel
theorem dX6_init_12 : decode cX6_init 12 = .ok (.putfield 10, 3) := by decide +kernel
theorem dX6_init_15 : decode cX6_init 15 = .ok (.aload_n 0, 1) := by decide +kernel
theorem dX6_init_16 : decode cX6_init 16 = .ok (.new 16, 3) := by decide +kernel
theorem dX6_init_19 : decode cX6_init 19 = .ok (.dup, 1) := by decide +kernel
theorem dX6_init_20 : decode cX6_init 20 = .ok (.invokespecial 18, 3) := by decide +kernel
theorem dX6_init_23 : decode cX6_init 23 = .ok (.putfield 19, 3) := by decide +kernel
theorem dX6_init_26 : decode cX6_init 26 = .ok (.aload_n 0, 1) := by decide +kernel
theorem dX6_init_27 : decode cX6_init 27 = .ok (.new 23, 3) := by decide +kernel
theorem dX6_init_30 : decode cX6_init 30 = .ok (.dup, 1) := by decide +kernel
theorem dX6_init_31 : decode cX6_init 31 = .ok (.invokespecial 25, 3) := by decide +kernel
theorem dX6_init_34 : decode cX6_init 34 = .ok (.putfield 26, 3) := by decide +kernel
theorem dX6_init_37 : decode cX6_init 37 = .ok (.aload_n 0, 1) := by decide +kernel
theorem dX6_init_38 : decode cX6_init 38 = .ok (.new 30, 3) := by decide +kernel
theorem dX6_init_41 : decode cX6_init 41 = .ok (.dup, 1) := by decide +kernel
theorem dX6_init_42 : decode cX6_init 42 = .ok (.aload_n 0, 1) := by decide +kernel
theorem dX6_init_43 : decode cX6_init 43 = .ok (.getfield 10, 3) := by decide +kernel
theorem dX6_init_46 : decode cX6_init 46 = .ok (.aload_n 0, 1) := by decide +kernel
theorem dX6_init_47 : decode cX6_init 47 = .ok (.getfield 26, 3) := by decide +kernel
theorem dX6_init_50 : decode cX6_init 50 = .ok (.invokespecial 32, 3) := by decide +kernel
theorem dX6_init_53 : decode cX6_init 53 = .ok (.putfield 35, 3) := by decide +kernel
theorem dX6_init_56 : decode cX6_init 56 = .ok (.aload_n 0, 1) := by decide +kernel
theorem dX6_init_57 : decode cX6_init 57 = .ok (.bipush 12, 2) := by decide +kernel
theorem dX6_init_59 : decode cX6_init 59 = .ok (.newarray .long, 2) := by decide +kernel
theorem dX6_init_61 : decode cX6_init 61 = .ok (.putfield 39, 3) := by decide +kernel
theorem dX6_init_64 : decode cX6_init 64 = .ok (.aload_n 0, 1) := by decide +kernel
theorem dX6_init_65 : decode cX6_init 65 = .ok (.iconst 0, 1) := by decide +kernel
theorem dX6_init_66 : decode cX6_init 66 = .ok (.putfield 43, 3) := by decide +kernel
theorem dX6_init_69 : decode cX6_init 69 = .ok (.return_, 1) := by decide +kernel
theorem dX6_type_0 : decode cX6_type 0 = .ok (.iload_n 3, 1) := by decide +kernel
theorem dX6_type_1 : decode cX6_type 1 = .ok (.iconst 1, 1) := by decide +kernel
theorem dX6_type_2 : decode cX6_type 2 = .ok (.if_icmp .lt 9, 3) := by decide +kernel
theorem dX6_type_5 : decode cX6_type 5 = .ok (.iload_n 3, 1) := by decide +kernel
theorem dX6_type_6 : decode cX6_type 6 = .ok (.bipush 8, 2) := by decide +kernel
theorem dX6_type_8 : decode cX6_type 8 = .ok (.if_icmp .le 13, 3) := by decide +kernel
theorem dX6_type_11 : decode cX6_type 11 = .ok (.new 47, 3) := by decide +kernel
theorem dX6_type_14 : decode cX6_type 14 = .ok (.dup, 1) := by decide +kernel
theorem dX6_type_15 : decode cX6_type 15 = .ok (.ldc 49, 2) := by decide +kernel
theorem dX6_type_17 : decode cX6_type 17 = .ok (.invokespecial 51, 3) := by decide +kernel
theorem dX6_type_20 : decode cX6_type 20 = .ok (.athrow, 1) := by decide +kernel
theorem dX6_type_21 : decode cX6_type 21 = .ok (.aload_n 0, 1) := by decide +kernel
theorem dX6_type_22 : decode cX6_type 22 = .ok (.getfield 10, 3) := by decide +kernel
theorem dX6_type_25 : decode cX6_type 25 = .ok (.invokevirtual 54, 3) := by decide +kernel
theorem dX6_type_28 : decode cX6_type 28 = .ok (.iload_n 3, 1) := by decide +kernel
theorem dX6_type_29 : decode cX6_type 29 = .ok (.iadd, 1) := by decide +kernel
theorem dX6_type_30 : decode cX6_type 30 = .ok (.sipush 300, 3) := by decide +kernel
theorem dX6_type_33 : decode cX6_type 33 = .ok (.if_icmp .le 13, 3) := by decide +kernel
theorem dX6_type_36 : decode cX6_type 36 = .ok (.new 58, 3) := by decide +kernel
theorem dX6_type_39 : decode cX6_type 39 = .ok (.dup, 1) := by decide +kernel
theorem dX6_type_40 : decode cX6_type 40 = .ok (.ldc 60, 2) := by decide +kernel
theorem dX6_type_42 : decode cX6_type 42 = .ok (.invokespecial 62, 3) := by decide +kernel
theorem dX6_type_45 : decode cX6_type 45 = .ok (.athrow, 1) := by decide +kernel
theorem dX6_type_46 : decode cX6_type 46 = .ok (.iload_n 3, 1) := by decide +kernel
theorem dX6_type_47 : decode cX6_type 47 = .ok (.iconst 1, 1) := by decide +kernel
theorem dX6_type_48 : decode cX6_type 48 = .ok (.isub, 1) := by decide +kernel
theorem dX6_type_49 : decode cX6_type 49 = .ok (.istore 4, 2) := by decide +kernel
theorem dX6_type_51 : decode cX6_type 51 = .ok (.iload 4, 2) := by decide +kernel
theorem dX6_type_53 : decode cX6_type 53 = .ok (.ifCond .lt 24, 3) := by decide +kernel
theorem dX6_type_56 : decode cX6_type 56 = .ok (.aload_n 0, 1) := by decide +kernel
theorem dX6_type_57 : decode cX6_type 57 = .ok (.getfield 10, 3) := by decide +kernel
theorem dX6_type_60 : decode cX6_type 60 = .ok (.lload_n 1, 1) := by decide +kernel
theorem dX6_type_61 : decode cX6_type 61 = .ok (.bipush 8, 2) := by decide +kernel
theorem dX6_type_63 : decode cX6_type 63 = .ok (.iload 4, 2) := by decide +kernel
theorem dX6_type_65 : decode cX6_type 65 = .ok (.imul, 1) := by decide +kernel
theorem dX6_type_66 : decode cX6_type 66 = .ok (.lushr, 1) := by decide +kernel
theorem dX6_type_67 : decode cX6_type 67 = .ok (.l2i, 1) := by decide +kernel
theorem dX6_type_68 : decode cX6_type 68 = .ok (.invokevirtual 63, 3) := by decide +kernel
theorem dX6_type_71 : decode cX6_type 71 = .ok (.iinc 4 (-1), 3) := by decide +kernel
theorem dX6_type_74 : decode cX6_type 74 = .ok (.goto (-23), 3) := by decide +kernel
theorem dX6_type_77 : decode cX6_type 77 = .ok (.aload_n 0, 1) := by decide +kernel
theorem dX6_type_78 : decode cX6_type 78 = .ok (.getfield 10, 3) := by decide +kernel
theorem dX6_type_81 : decode cX6_type 81 = .ok (.invokevirtual 54, 3) := by decide +kernel
theorem dX6_type_84 : decode cX6_type 84 = .ok (.ireturn, 1) := by decide +kernel
theorem dX6_keep_0 : decode cX6_keep 0 = .ok (.iload_n 1, 1) := by decide +kernel
theorem dX6_keep_1 : decode cX6_keep 1 = .ok (.ifCond .lt 14, 3) := by decide +kernel
theorem dX6_keep_4 : decode cX6_keep 4 = .ok (.iload_n 1, 1) := by decide +kernel
theorem dX6_keep_5 : decode cX6_keep 5 = .ok (.aload_n 0, 1) := by decide +kernel
theorem dX6_keep_6 : decode cX6_keep 6 = .ok (.getfield 10, 3) := by decide +kernel
theorem dX6_keep_9 : decode cX6_keep 9 = .ok (.invokevirtual 54, 3) := by decide +kernel
theorem dX6_keep_12 : decode cX6_keep 12 = .ok (.if_icmp .le 13, 3) := by decide +kernel
theorem dX6_keep_15 : decode cX6_keep 15 = .ok (.new 47, 3) := by decide +kernel
theorem dX6_keep_18 : decode cX6_keep 18 = .ok (.dup, 1) := by decide +kernel
theorem dX6_keep_19 : decode cX6_keep 19 = .ok (.ldc 67, 2) := by decide +kernel
theorem dX6_keep_21 : decode cX6_keep 21 = .ok (.invokespecial 51, 3) := by decide +kernel
theorem dX6_keep_24 : decode cX6_keep 24 = .ok (.athrow, 1) := by decide +kernel
theorem dX6_keep_25 : decode cX6_keep 25 = .ok (.aload_n 0, 1) := by decide +kernel
theorem dX6_keep_26 : decode cX6_keep 26 = .ok (.getfield 10, 3) := by decide +kernel
theorem dX6_keep_29 : decode cX6_keep 29 = .ok (.iload_n 1, 1) := by decide +kernel
theorem dX6_keep_30 : decode cX6_keep 30 = .ok (.invokevirtual 69, 3) := by decide +kernel
theorem dX6_keep_33 : decode cX6_keep 33 = .ok (.return_, 1) := by decide +kernel
theorem dX6_typed_0 : decode cX6_typed 0 = .ok (.iload_n 1, 1) := by decide +kernel
theorem dX6_typed_1 : decode cX6_typed 1 = .ok (.ifCond .lt 14, 3) := by decide +kernel
theorem dX6_typed_4 : decode cX6_typed 4 = .ok (.iload_n 1, 1) := by decide +kernel
theorem dX6_typed_5 : decode cX6_typed 5 = .ok (.aload_n 0, 1) := by decide +kernel
theorem dX6_typed_6 : decode cX6_typed 6 = .ok (.getfield 10, 3) := by decide +kernel
theorem dX6_typed_9 : decode cX6_typed 9 = .ok (.invokevirtual 54, 3) := by decide +kernel
theorem dX6_typed_12 : decode cX6_typed 12 = .ok (.if_icmp .lt 13, 3) := by decide +kernel
theorem dX6_typed_15 : decode cX6_typed 15 = .ok (.new 72, 3) := by decide +kernel
theorem dX6_typed_18 : decode cX6_typed 18 = .ok (.dup, 1) := by decide +kernel
theorem dX6_typed_19 : decode cX6_typed 19 = .ok (.ldc 74, 2) := by decide +kernel
theorem dX6_typed_21 : decode cX6_typed 21 = .ok (.invokespecial 76, 3) := by decide +kernel
theorem dX6_typed_24 : decode cX6_typed 24 = .ok (.athrow, 1) := by decide +kernel
theorem dX6_typed_25 : decode cX6_typed 25 = .ok (.aload_n 0, 1) := by decide +kernel
theorem dX6_typed_26 : decode cX6_typed 26 = .ok (.getfield 10, 3) := by decide +kernel
theorem dX6_typed_29 : decode cX6_typed 29 = .ok (.iload_n 1, 1) := by decide +kernel
theorem dX6_typed_30 : decode cX6_typed 30 = .ok (.invokevirtual 77, 3) := by decide +kernel
theorem dX6_typed_33 : decode cX6_typed 33 = .ok (.ireturn, 1) := by decide +kernel
theorem dX6_meter_0 : decode cX6_meter 0 = .ok (.iload_n 1, 1) := by decide +kernel
theorem dX6_meter_1 : decode cX6_meter 1 = .ok (.invokestatic 81, 3) := by decide +kernel
theorem dX6_meter_4 : decode cX6_meter 4 = .ok (.ifCond .ne 13, 3) := by decide +kernel
theorem dX6_meter_7 : decode cX6_meter 7 = .ok (.new 72, 3) := by decide +kernel
theorem dX6_meter_10 : decode cX6_meter 10 = .ok (.dup, 1) := by decide +kernel
theorem dX6_meter_11 : decode cX6_meter 11 = .ok (.ldc 85, 2) := by decide +kernel
theorem dX6_meter_13 : decode cX6_meter 13 = .ok (.invokespecial 76, 3) := by decide +kernel
theorem dX6_meter_16 : decode cX6_meter 16 = .ok (.athrow, 1) := by decide +kernel
theorem dX6_meter_17 : decode cX6_meter 17 = .ok (.iload_n 2, 1) := by decide +kernel
theorem dX6_meter_18 : decode cX6_meter 18 = .ok (.ifCond .lt 17, 3) := by decide +kernel
theorem dX6_meter_21 : decode cX6_meter 21 = .ok (.iload_n 2, 1) := by decide +kernel
theorem dX6_meter_22 : decode cX6_meter 22 = .ok (.sipush 250, 3) := by decide +kernel
theorem dX6_meter_25 : decode cX6_meter 25 = .ok (.if_icmp .gt 10, 3) := by decide +kernel
theorem dX6_meter_28 : decode cX6_meter 28 = .ok (.iload_n 3, 1) := by decide +kernel
theorem dX6_meter_29 : decode cX6_meter 29 = .ok (.invokestatic 87, 3) := by decide +kernel
theorem dX6_meter_32 : decode cX6_meter 32 = .ok (.ifCond .ne 13, 3) := by decide +kernel
theorem dX6_meter_35 : decode cX6_meter 35 = .ok (.new 47, 3) := by decide +kernel
theorem dX6_meter_38 : decode cX6_meter 38 = .ok (.dup, 1) := by decide +kernel
theorem dX6_meter_39 : decode cX6_meter 39 = .ok (.ldc 90, 2) := by decide +kernel
theorem dX6_meter_41 : decode cX6_meter 41 = .ok (.invokespecial 51, 3) := by decide +kernel
theorem dX6_meter_44 : decode cX6_meter 44 = .ok (.athrow, 1) := by decide +kernel
theorem dX6_meter_45 : decode cX6_meter 45 = .ok (.iload 4, 2) := by decide +kernel
theorem dX6_meter_47 : decode cX6_meter 47 = .ok (.sipush 255, 3) := by decide +kernel
theorem dX6_meter_50 : decode cX6_meter 50 = .ok (.iand, 1) := by decide +kernel
theorem dX6_meter_51 : decode cX6_meter 51 = .ok (.invokestatic 92, 3) := by decide +kernel
theorem dX6_meter_54 : decode cX6_meter 54 = .ok (.ifCond .eq 30, 3) := by decide +kernel
theorem dX6_meter_57 : decode cX6_meter 57 = .ok (.iload 4, 2) := by decide +kernel
theorem dX6_meter_59 : decode cX6_meter 59 = .ok (.bipush 8, 2) := by decide +kernel
theorem dX6_meter_61 : decode cX6_meter 61 = .ok (.ishr, 1) := by decide +kernel
theorem dX6_meter_62 : decode cX6_meter 62 = .ok (.invokestatic 92, 3) := by decide +kernel
theorem dX6_meter_65 : decode cX6_meter 65 = .ok (.ifCond .eq 19, 3) := by decide +kernel
theorem dX6_meter_68 : decode cX6_meter 68 = .ok (.iload 5, 2) := by decide +kernel
theorem dX6_meter_70 : decode cX6_meter 70 = .ok (.invokestatic 92, 3) := by decide +kernel
theorem dX6_meter_73 : decode cX6_meter 73 = .ok (.ifCond .eq 11, 3) := by decide +kernel
theorem dX6_meter_76 : decode cX6_meter 76 = .ok (.iload 6, 2) := by decide +kernel
theorem dX6_meter_78 : decode cX6_meter 78 = .ok (.invokestatic 92, 3) := by decide +kernel
theorem dX6_meter_81 : decode cX6_meter 81 = .ok (.ifCond .ne 13, 3) := by decide +kernel
theorem dX6_meter_84 : decode cX6_meter 84 = .ok (.new 47, 3) := by decide +kernel
theorem dX6_meter_87 : decode cX6_meter 87 = .ok (.dup, 1) := by decide +kernel
theorem dX6_meter_88 : decode cX6_meter 88 = .ok (.ldc 95, 2) := by decide +kernel
theorem dX6_meter_90 : decode cX6_meter 90 = .ok (.invokespecial 51, 3) := by decide +kernel
theorem dX6_meter_93 : decode cX6_meter 93 = .ok (.athrow, 1) := by decide +kernel
theorem dX6_meter_94 : decode cX6_meter 94 = .ok (.iload_n 3, 1) := by decide +kernel
theorem dX6_meter_95 : decode cX6_meter 95 = .ok (.i2l, 1) := by decide +kernel
theorem dX6_meter_96 : decode cX6_meter 96 = .ok (.ldc2_w 97, 3) := by decide +kernel
theorem dX6_meter_99 : decode cX6_meter 99 = .ok (.land, 1) := by decide +kernel
theorem dX6_meter_100 : decode cX6_meter 100 = .ok (.iload 4, 2) := by decide +kernel
theorem dX6_meter_102 : decode cX6_meter 102 = .ok (.i2l, 1) := by decide +kernel
theorem dX6_meter_103 : decode cX6_meter 103 = .ok (.bipush 32, 2) := by decide +kernel
theorem dX6_meter_105 : decode cX6_meter 105 = .ok (.lshl, 1) := by decide +kernel
theorem dX6_meter_106 : decode cX6_meter 106 = .ok (.lor, 1) := by decide +kernel
theorem dX6_meter_107 : decode cX6_meter 107 = .ok (.iload 5, 2) := by decide +kernel
theorem dX6_meter_109 : decode cX6_meter 109 = .ok (.i2l, 1) := by decide +kernel
theorem dX6_meter_110 : decode cX6_meter 110 = .ok (.bipush 48, 2) := by decide +kernel
theorem dX6_meter_112 : decode cX6_meter 112 = .ok (.lshl, 1) := by decide +kernel
theorem dX6_meter_113 : decode cX6_meter 113 = .ok (.lor, 1) := by decide +kernel
theorem dX6_meter_114 : decode cX6_meter 114 = .ok (.iload 6, 2) := by decide +kernel
theorem dX6_meter_116 : decode cX6_meter 116 = .ok (.i2l, 1) := by decide +kernel
theorem dX6_meter_117 : decode cX6_meter 117 = .ok (.bipush 56, 2) := by decide +kernel
theorem dX6_meter_119 : decode cX6_meter 119 = .ok (.lshl, 1) := by decide +kernel
theorem dX6_meter_120 : decode cX6_meter 120 = .ok (.lor, 1) := by decide +kernel
theorem dX6_meter_121 : decode cX6_meter 121 = .ok (.lstore 7, 2) := by decide +kernel
theorem dX6_meter_123 : decode cX6_meter 123 = .ok (.aload_n 0, 1) := by decide +kernel
theorem dX6_meter_124 : decode cX6_meter 124 = .ok (.getfield 19, 3) := by decide +kernel
theorem dX6_meter_127 : decode cX6_meter 127 = .ok (.iload_n 1, 1) := by decide +kernel
theorem dX6_meter_128 : decode cX6_meter 128 = .ok (.lload 7, 2) := by decide +kernel
theorem dX6_meter_130 : decode cX6_meter 130 = .ok (.invokevirtual 99, 3) := by decide +kernel
theorem dX6_meter_133 : decode cX6_meter 133 = .ok (.ifCond .eq 13, 3) := by decide +kernel
theorem dX6_meter_136 : decode cX6_meter 136 = .ok (.new 47, 3) := by decide +kernel
theorem dX6_meter_139 : decode cX6_meter 139 = .ok (.dup, 1) := by decide +kernel
theorem dX6_meter_140 : decode cX6_meter 140 = .ok (.ldc 103, 2) := by decide +kernel
theorem dX6_meter_142 : decode cX6_meter 142 = .ok (.invokespecial 51, 3) := by decide +kernel
theorem dX6_meter_145 : decode cX6_meter 145 = .ok (.athrow, 1) := by decide +kernel
theorem dX6_meter_146 : decode cX6_meter 146 = .ok (.aload_n 0, 1) := by decide +kernel
theorem dX6_meter_147 : decode cX6_meter 147 = .ok (.getfield 19, 3) := by decide +kernel
theorem dX6_meter_150 : decode cX6_meter 150 = .ok (.iload_n 1, 1) := by decide +kernel
theorem dX6_meter_151 : decode cX6_meter 151 = .ok (.new 105, 3) := by decide +kernel
theorem dX6_meter_154 : decode cX6_meter 154 = .ok (.dup, 1) := by decide +kernel
theorem dX6_meter_155 : decode cX6_meter 155 = .ok (.iload_n 2, 1) := by decide +kernel
theorem dX6_meter_156 : decode cX6_meter 156 = .ok (.lload 7, 2) := by decide +kernel
theorem dX6_meter_158 : decode cX6_meter 158 = .ok (.invokespecial 107, 3) := by decide +kernel
theorem dX6_meter_161 : decode cX6_meter 161 = .ok (.invokevirtual 110, 3) := by decide +kernel
theorem dX6_meter_164 : decode cX6_meter 164 = .ok (.return_, 1) := by decide +kernel
theorem dX6_remove_0 : decode cX6_remove 0 = .ok (.iload_n 1, 1) := by decide +kernel
theorem dX6_remove_1 : decode cX6_remove 1 = .ok (.invokestatic 81, 3) := by decide +kernel
theorem dX6_remove_4 : decode cX6_remove 4 = .ok (.ifCond .ne 13, 3) := by decide +kernel
theorem dX6_remove_7 : decode cX6_remove 7 = .ok (.new 72, 3) := by decide +kernel
theorem dX6_remove_10 : decode cX6_remove 10 = .ok (.dup, 1) := by decide +kernel
theorem dX6_remove_11 : decode cX6_remove 11 = .ok (.ldc 85, 2) := by decide +kernel
theorem dX6_remove_13 : decode cX6_remove 13 = .ok (.invokespecial 76, 3) := by decide +kernel
theorem dX6_remove_16 : decode cX6_remove 16 = .ok (.athrow, 1) := by decide +kernel
theorem dX6_remove_17 : decode cX6_remove 17 = .ok (.aload_n 0, 1) := by decide +kernel
theorem dX6_remove_18 : decode cX6_remove 18 = .ok (.getfield 19, 3) := by decide +kernel
theorem dX6_remove_21 : decode cX6_remove 21 = .ok (.iload_n 1, 1) := by decide +kernel
theorem dX6_remove_22 : decode cX6_remove 22 = .ok (.invokevirtual 114, 3) := by decide +kernel
theorem dX6_remove_25 : decode cX6_remove 25 = .ok (.ifnull 7, 3) := by decide +kernel
theorem dX6_remove_28 : decode cX6_remove 28 = .ok (.iconst 1, 1) := by decide +kernel
theorem dX6_remove_29 : decode cX6_remove 29 = .ok (.goto 4, 3) := by decide +kernel
theorem dX6_remove_32 : decode cX6_remove 32 = .ok (.iconst 0, 1) := by decide +kernel
theorem dX6_remove_33 : decode cX6_remove 33 = .ok (.istore_n 2, 1) := by decide +kernel
theorem dX6_remove_34 : decode cX6_remove 34 = .ok (.aload_n 0, 1) := by decide +kernel
theorem dX6_remove_35 : decode cX6_remove 35 = .ok (.getfield 19, 3) := by decide +kernel
theorem dX6_remove_38 : decode cX6_remove 38 = .ok (.iload_n 1, 1) := by decide +kernel
theorem dX6_remove_39 : decode cX6_remove 39 = .ok (.aconst_null, 1) := by decide +kernel
theorem dX6_remove_40 : decode cX6_remove 40 = .ok (.invokevirtual 110, 3) := by decide +kernel
theorem dX6_remove_43 : decode cX6_remove 43 = .ok (.iload_n 2, 1) := by decide +kernel
theorem dX6_remove_44 : decode cX6_remove 44 = .ok (.ireturn, 1) := by decide +kernel
theorem dX6_page_0 : decode cX6_page 0 = .ok (.aload_n 0, 1) := by decide +kernel
theorem dX6_page_1 : decode cX6_page 1 = .ok (.getfield 19, 3) := by decide +kernel
theorem dX6_page_4 : decode cX6_page 4 = .ok (.iload_n 1, 1) := by decide +kernel
theorem dX6_page_5 : decode cX6_page 5 = .ok (.invokevirtual 114, 3) := by decide +kernel
theorem dX6_page_8 : decode cX6_page 8 = .ok (.astore_n 3, 1) := by decide +kernel
theorem dX6_page_9 : decode cX6_page 9 = .ok (.aload_n 3, 1) := by decide +kernel
theorem dX6_page_10 : decode cX6_page 10 = .ok (.ifnull 12, 3) := by decide +kernel
theorem dX6_page_13 : decode cX6_page 13 = .ok (.iload_n 2, 1) := by decide +kernel
theorem dX6_page_14 : decode cX6_page 14 = .ok (.ifCond .lt 8, 3) := by decide +kernel
theorem dX6_page_17 : decode cX6_page 17 = .ok (.iload_n 2, 1) := by decide +kernel
theorem dX6_page_18 : decode cX6_page 18 = .ok (.iconst 3, 1) := by decide +kernel
theorem dX6_page_19 : decode cX6_page 19 = .ok (.if_icmp .lt 13, 3) := by decide +kernel
theorem dX6_page_22 : decode cX6_page 22 = .ok (.new 72, 3) := by decide +kernel
theorem dX6_page_25 : decode cX6_page 25 = .ok (.dup, 1) := by decide +kernel
theorem dX6_page_26 : decode cX6_page 26 = .ok (.ldc 118, 2) := by decide +kernel
theorem dX6_page_28 : decode cX6_page 28 = .ok (.invokespecial 76, 3) := by decide +kernel
theorem dX6_page_31 : decode cX6_page 31 = .ok (.athrow, 1) := by decide +kernel
theorem dX6_page_32 : decode cX6_page 32 = .ok (.aload_n 0, 1) := by decide +kernel
theorem dX6_page_33 : decode cX6_page 33 = .ok (.getfield 10, 3) := by decide +kernel
theorem dX6_page_36 : decode cX6_page 36 = .ok (.invokevirtual 54, 3) := by decide +kernel
theorem dX6_page_39 : decode cX6_page 39 = .ok (.bipush 60, 2) := by decide +kernel
theorem dX6_page_41 : decode cX6_page 41 = .ok (.if_icmp .le 13, 3) := by decide +kernel
theorem dX6_page_44 : decode cX6_page 44 = .ok (.new 58, 3) := by decide +kernel
theorem dX6_page_47 : decode cX6_page 47 = .ok (.dup, 1) := by decide +kernel
theorem dX6_page_48 : decode cX6_page 48 = .ok (.ldc 120, 2) := by decide +kernel
theorem dX6_page_50 : decode cX6_page 50 = .ok (.invokespecial 62, 3) := by decide +kernel
theorem dX6_page_53 : decode cX6_page 53 = .ok (.athrow, 1) := by decide +kernel
theorem dX6_page_54 : decode cX6_page 54 = .ok (.aload_n 3, 1) := by decide +kernel
theorem dX6_page_55 : decode cX6_page 55 = .ok (.iload_n 2, 1) := by decide +kernel
theorem dX6_page_56 : decode cX6_page 56 = .ok (.aload_n 0, 1) := by decide +kernel
theorem dX6_page_57 : decode cX6_page 57 = .ok (.getfield 10, 3) := by decide +kernel
theorem dX6_page_60 : decode cX6_page 60 = .ok (.invokevirtual 122, 3) := by decide +kernel
theorem dX6_page_63 : decode cX6_page 63 = .ok (.aload_n 0, 1) := by decide +kernel
theorem dX6_page_64 : decode cX6_page 64 = .ok (.getfield 10, 3) := by decide +kernel
theorem dX6_page_67 : decode cX6_page 67 = .ok (.iconst 0, 1) := by decide +kernel
theorem dX6_page_68 : decode cX6_page 68 = .ok (.invokevirtual 69, 3) := by decide +kernel
theorem dX6_page_71 : decode cX6_page 71 = .ok (.aload_n 3, 1) := by decide +kernel
theorem dX6_page_72 : decode cX6_page 72 = .ok (.invokevirtual 126, 3) := by decide +kernel
theorem dX6_page_75 : decode cX6_page 75 = .ok (.ireturn, 1) := by decide +kernel
theorem dX6_state_0 : decode cX6_state 0 = .ok (.iload_n 1, 1) := by decide +kernel
theorem dX6_state_1 : decode cX6_state 1 = .ok (.invokestatic 81, 3) := by decide +kernel
theorem dX6_state_4 : decode cX6_state 4 = .ok (.ifCond .eq 13, 3) := by decide +kernel
theorem dX6_state_7 : decode cX6_state 7 = .ok (.iload_n 2, 1) := by decide +kernel
theorem dX6_state_8 : decode cX6_state 8 = .ok (.ifCond .lt 9, 3) := by decide +kernel
theorem dX6_state_11 : decode cX6_state 11 = .ok (.iload_n 2, 1) := by decide +kernel
theorem dX6_state_12 : decode cX6_state 12 = .ok (.bipush 6, 2) := by decide +kernel
theorem dX6_state_14 : decode cX6_state 14 = .ok (.if_icmp .le 13, 3) := by decide +kernel
theorem dX6_state_17 : decode cX6_state 17 = .ok (.new 72, 3) := by decide +kernel
theorem dX6_state_20 : decode cX6_state 20 = .ok (.dup, 1) := by decide +kernel
theorem dX6_state_21 : decode cX6_state 21 = .ok (.ldc 129, 2) := by decide +kernel
theorem dX6_state_23 : decode cX6_state 23 = .ok (.invokespecial 76, 3) := by decide +kernel
theorem dX6_state_26 : decode cX6_state 26 = .ok (.athrow, 1) := by decide +kernel
theorem dX6_state_27 : decode cX6_state 27 = .ok (.aload_n 0, 1) := by decide +kernel
theorem dX6_state_28 : decode cX6_state 28 = .ok (.getfield 19, 3) := by decide +kernel
theorem dX6_state_31 : decode cX6_state 31 = .ok (.iload_n 1, 1) := by decide +kernel
theorem dX6_state_32 : decode cX6_state 32 = .ok (.invokevirtual 114, 3) := by decide +kernel
theorem dX6_state_35 : decode cX6_state 35 = .ok (.astore_n 3, 1) := by decide +kernel
theorem dX6_state_36 : decode cX6_state 36 = .ok (.aload_n 3, 1) := by decide +kernel
theorem dX6_state_37 : decode cX6_state 37 = .ok (.ifnonnull 7, 3) := by decide +kernel
theorem dX6_state_40 : decode cX6_state 40 = .ok (.iconst 0, 1) := by decide +kernel
theorem dX6_state_41 : decode cX6_state 41 = .ok (.goto 8, 3) := by decide +kernel
theorem dX6_state_44 : decode cX6_state 44 = .ok (.aload_n 3, 1) := by decide +kernel
theorem dX6_state_45 : decode cX6_state 45 = .ok (.iload_n 2, 1) := by decide +kernel
theorem dX6_state_46 : decode cX6_state 46 = .ok (.invokevirtual 131, 3) := by decide +kernel
theorem dX6_state_49 : decode cX6_state 49 = .ok (.ireturn, 1) := by decide +kernel
theorem dX6_send_0 : decode cX6_send 0 = .ok (.aload_n 0, 1) := by decide +kernel
theorem dX6_send_1 : decode cX6_send 1 = .ok (.getfield 19, 3) := by decide +kernel
theorem dX6_send_4 : decode cX6_send 4 = .ok (.aload_n 0, 1) := by decide +kernel
theorem dX6_send_5 : decode cX6_send 5 = .ok (.getfield 10, 3) := by decide +kernel
theorem dX6_send_8 : decode cX6_send 8 = .ok (.invokevirtual 134, 3) := by decide +kernel
theorem dX6_send_11 : decode cX6_send 11 = .ok (.istore_n 1, 1) := by decide +kernel
theorem dX6_send_12 : decode cX6_send 12 = .ok (.aload_n 0, 1) := by decide +kernel
theorem dX6_send_13 : decode cX6_send 13 = .ok (.getfield 10, 3) := by decide +kernel
theorem dX6_send_16 : decode cX6_send 16 = .ok (.aload_n 0, 1) := by decide +kernel
theorem dX6_send_17 : decode cX6_send 17 = .ok (.getfield 19, 3) := by decide +kernel
theorem dX6_send_20 : decode cX6_send 20 = .ok (.invokevirtual 138, 3) := by decide +kernel
theorem dX6_send_23 : decode cX6_send 23 = .ok (.invokevirtual 142, 3) := by decide +kernel
theorem dX6_send_26 : decode cX6_send 26 = .ok (.iload_n 1, 1) := by decide +kernel
theorem dX6_send_27 : decode cX6_send 27 = .ok (.ireturn, 1) := by decide +kernel
theorem dX6_search_0 : decode cX6_search 0 = .ok (.aload_n 0, 1) := by decide +kernel
theorem dX6_search_1 : decode cX6_search 1 = .ok (.iconst 0, 1) := by decide +kernel
theorem dX6_search_2 : decode cX6_search 2 = .ok (.putfield 43, 3) := by decide +kernel
theorem dX6_search_5 : decode cX6_search 5 = .ok (.aload_n 0, 1) := by decide +kernel
theorem dX6_search_6 : decode cX6_search 6 = .ok (.iconst 0, 1) := by decide +kernel
theorem dX6_search_7 : decode cX6_search 7 = .ok (.ldc2_w 146, 3) := by decide +kernel
theorem dX6_search_10 : decode cX6_search 10 = .ok (.invokevirtual 148, 3) := by decide +kernel
theorem dX6_search_13 : decode cX6_search 13 = .ok (.aload_n 0, 1) := by decide +kernel
theorem dX6_search_14 : decode cX6_search 14 = .ok (.getfield 43, 3) := by decide +kernel
theorem dX6_search_17 : decode cX6_search 17 = .ok (.ireturn, 1) := by decide +kernel
theorem dX6_found_0 : decode cX6_found 0 = .ok (.aload_n 0, 1) := by decide +kernel
theorem dX6_found_1 : decode cX6_found 1 = .ok (.iload_n 1, 1) := by decide +kernel
theorem dX6_found_2 : decode cX6_found 2 = .ok (.invokevirtual 151, 3) := by decide +kernel
theorem dX6_found_5 : decode cX6_found 5 = .ok (.ifCond .eq 13, 3) := by decide +kernel
theorem dX6_found_8 : decode cX6_found 8 = .ok (.iload_n 2, 1) := by decide +kernel
theorem dX6_found_9 : decode cX6_found 9 = .ok (.ifCond .lt 9, 3) := by decide +kernel
theorem dX6_found_12 : decode cX6_found 12 = .ok (.iload_n 2, 1) := by decide +kernel
theorem dX6_found_13 : decode cX6_found 13 = .ok (.bipush 8, 2) := by decide +kernel
theorem dX6_found_15 : decode cX6_found 15 = .ok (.if_icmp .lt 13, 3) := by decide +kernel
theorem dX6_found_18 : decode cX6_found 18 = .ok (.new 72, 3) := by decide +kernel
theorem dX6_found_21 : decode cX6_found 21 = .ok (.dup, 1) := by decide +kernel
theorem dX6_found_22 : decode cX6_found 22 = .ok (.ldc 154, 2) := by decide +kernel
theorem dX6_found_24 : decode cX6_found 24 = .ok (.invokespecial 76, 3) := by decide +kernel
theorem dX6_found_27 : decode cX6_found 27 = .ok (.athrow, 1) := by decide +kernel
theorem dX6_found_28 : decode cX6_found 28 = .ok (.aload_n 0, 1) := by decide +kernel
theorem dX6_found_29 : decode cX6_found 29 = .ok (.getfield 39, 3) := by decide +kernel
theorem dX6_found_32 : decode cX6_found 32 = .ok (.iload_n 1, 1) := by decide +kernel
theorem dX6_found_33 : decode cX6_found 33 = .ok (.laload, 1) := by decide +kernel
theorem dX6_found_34 : decode cX6_found 34 = .ok (.bipush 8, 2) := by decide +kernel
theorem dX6_found_36 : decode cX6_found 36 = .ok (.iload_n 2, 1) := by decide +kernel
theorem dX6_found_37 : decode cX6_found 37 = .ok (.imul, 1) := by decide +kernel
theorem dX6_found_38 : decode cX6_found 38 = .ok (.lushr, 1) := by decide +kernel
theorem dX6_found_39 : decode cX6_found 39 = .ok (.l2i, 1) := by decide +kernel
theorem dX6_found_40 : decode cX6_found 40 = .ok (.sipush 255, 3) := by decide +kernel
theorem dX6_found_43 : decode cX6_found 43 = .ok (.iand, 1) := by decide +kernel
theorem dX6_found_44 : decode cX6_found 44 = .ok (.ireturn, 1) := by decide +kernel
theorem dX6_readOut_0 : decode cX6_readOut 0 = .ok (.aload_n 0, 1) := by decide +kernel
theorem dX6_readOut_1 : decode cX6_readOut 1 = .ok (.iload_n 1, 1) := by decide +kernel
theorem dX6_readOut_2 : decode cX6_readOut 2 = .ok (.invokevirtual 151, 3) := by decide +kernel
theorem dX6_readOut_5 : decode cX6_readOut 5 = .ok (.ifCond .ne 13, 3) := by decide +kernel
theorem dX6_readOut_8 : decode cX6_readOut 8 = .ok (.new 72, 3) := by decide +kernel
theorem dX6_readOut_11 : decode cX6_readOut 11 = .ok (.dup, 1) := by decide +kernel
theorem dX6_readOut_12 : decode cX6_readOut 12 = .ok (.ldc 156, 2) := by decide +kernel
theorem dX6_readOut_14 : decode cX6_readOut 14 = .ok (.invokespecial 76, 3) := by decide +kernel
theorem dX6_readOut_17 : decode cX6_readOut 17 = .ok (.athrow, 1) := by decide +kernel
theorem dX6_readOut_18 : decode cX6_readOut 18 = .ok (.aload_n 0, 1) := by decide +kernel
theorem dX6_readOut_19 : decode cX6_readOut 19 = .ok (.getfield 26, 3) := by decide +kernel
theorem dX6_readOut_22 : decode cX6_readOut 22 = .ok (.iconst 0, 1) := by decide +kernel
theorem dX6_readOut_23 : decode cX6_readOut 23 = .ok (.invokevirtual 158, 3) := by decide +kernel
theorem dX6_readOut_26 : decode cX6_readOut 26 = .ok (.aload_n 0, 1) := by decide +kernel
theorem dX6_readOut_27 : decode cX6_readOut 27 = .ok (.getfield 35, 3) := by decide +kernel
theorem dX6_readOut_30 : decode cX6_readOut 30 = .ok (.invokevirtual 159, 3) := by decide +kernel
theorem dX6_readOut_33 : decode cX6_readOut 33 = .ok (.aload_n 0, 1) := by decide +kernel
theorem dX6_readOut_34 : decode cX6_readOut 34 = .ok (.aload_n 0, 1) := by decide +kernel
theorem dX6_readOut_35 : decode cX6_readOut 35 = .ok (.getfield 39, 3) := by decide +kernel
theorem dX6_readOut_38 : decode cX6_readOut 38 = .ok (.iload_n 1, 1) := by decide +kernel
theorem dX6_readOut_39 : decode cX6_readOut 39 = .ok (.laload, 1) := by decide +kernel
theorem dX6_readOut_40 : decode cX6_readOut 40 = .ok (.invokevirtual 162, 3) := by decide +kernel
theorem dX6_readOut_43 : decode cX6_readOut 43 = .ok (.ifCond .ne 5, 3) := by decide +kernel
theorem dX6_readOut_46 : decode cX6_readOut 46 = .ok (.iconst (-1), 1) := by decide +kernel
theorem dX6_readOut_47 : decode cX6_readOut 47 = .ok (.ireturn, 1) := by decide +kernel
theorem dX6_readOut_48 : decode cX6_readOut 48 = .ok (.iconst 1, 1) := by decide +kernel
theorem dX6_readOut_49 : decode cX6_readOut 49 = .ok (.istore_n 2, 1) := by decide +kernel
theorem dX6_readOut_50 : decode cX6_readOut 50 = .ok (.iconst 0, 1) := by decide +kernel
theorem dX6_readOut_51 : decode cX6_readOut 51 = .ok (.istore_n 3, 1) := by decide +kernel
theorem dX6_readOut_52 : decode cX6_readOut 52 = .ok (.iload_n 3, 1) := by decide +kernel
theorem dX6_readOut_53 : decode cX6_readOut 53 = .ok (.bipush 10, 2) := by decide +kernel
theorem dX6_readOut_55 : decode cX6_readOut 55 = .ok (.if_icmp .ge 93, 3) := by decide +kernel
theorem dX6_readOut_58 : decode cX6_readOut 58 = .ok (.iload_n 2, 1) := by decide +kernel
theorem dX6_readOut_59 : decode cX6_readOut 59 = .ok (.ifCond .eq 89, 3) := by decide +kernel
theorem dX6_readOut_62 : decode cX6_readOut 62 = .ok (.aload_n 0, 1) := by decide +kernel
theorem dX6_readOut_63 : decode cX6_readOut 63 = .ok (.getfield 19, 3) := by decide +kernel
theorem dX6_readOut_66 : decode cX6_readOut 66 = .ok (.iload_n 3, 1) := by decide +kernel
theorem dX6_readOut_67 : decode cX6_readOut 67 = .ok (.iconst 2, 1) := by decide +kernel
theorem dX6_readOut_68 : decode cX6_readOut 68 = .ok (.irem, 1) := by decide +kernel
theorem dX6_readOut_69 : decode cX6_readOut 69 = .ok (.ifCond .ne 8, 3) := by decide +kernel
theorem dX6_readOut_72 : decode cX6_readOut 72 = .ok (.bipush 123, 2) := by decide +kernel
theorem dX6_readOut_74 : decode cX6_readOut 74 = .ok (.goto 5, 3) := by decide +kernel
theorem dX6_readOut_77 : decode cX6_readOut 77 = .ok (.bipush 91, 2) := by decide +kernel
theorem dX6_readOut_79 : decode cX6_readOut 79 = .ok (.sipush 253, 3) := by decide +kernel
theorem dX6_readOut_82 : decode cX6_readOut 82 = .ok (.invokevirtual 166, 3) := by decide +kernel
theorem dX6_readOut_85 : decode cX6_readOut 85 = .ok (.ifCond .gt 13, 3) := by decide +kernel
theorem dX6_readOut_88 : decode cX6_readOut 88 = .ok (.aload_n 0, 1) := by decide +kernel
theorem dX6_readOut_89 : decode cX6_readOut 89 = .ok (.getfield 26, 3) := by decide +kernel
theorem dX6_readOut_92 : decode cX6_readOut 92 = .ok (.iconst 0, 1) := by decide +kernel
theorem dX6_readOut_93 : decode cX6_readOut 93 = .ok (.invokevirtual 158, 3) := by decide +kernel
theorem dX6_readOut_96 : decode cX6_readOut 96 = .ok (.iconst (-1), 1) := by decide +kernel
theorem dX6_readOut_97 : decode cX6_readOut 97 = .ok (.ireturn, 1) := by decide +kernel
theorem dX6_readOut_98 : decode cX6_readOut 98 = .ok (.aload_n 0, 1) := by decide +kernel
theorem dX6_readOut_99 : decode cX6_readOut 99 = .ok (.getfield 35, 3) := by decide +kernel
theorem dX6_readOut_102 : decode cX6_readOut 102 = .ok (.aload_n 0, 1) := by decide +kernel
theorem dX6_readOut_103 : decode cX6_readOut 103 = .ok (.getfield 19, 3) := by decide +kernel
theorem dX6_readOut_106 : decode cX6_readOut 106 = .ok (.invokevirtual 138, 3) := by decide +kernel
theorem dX6_readOut_109 : decode cX6_readOut 109 = .ok (.invokevirtual 170, 3) := by decide +kernel
theorem dX6_readOut_112 : decode cX6_readOut 112 = .ok (.ifCond .ne 22, 3) := by decide +kernel
theorem dX6_readOut_115 : decode cX6_readOut 115 = .ok (.aload_n 0, 1) := by decide +kernel
theorem dX6_readOut_116 : decode cX6_readOut 116 = .ok (.getfield 26, 3) := by decide +kernel
theorem dX6_readOut_119 : decode cX6_readOut 119 = .ok (.iconst 0, 1) := by decide +kernel
theorem dX6_readOut_120 : decode cX6_readOut 120 = .ok (.invokevirtual 158, 3) := by decide +kernel
theorem dX6_readOut_123 : decode cX6_readOut 123 = .ok (.bipush (-2), 2) := by decide +kernel
theorem dX6_readOut_125 : decode cX6_readOut 125 = .ok (.aload_n 0, 1) := by decide +kernel
theorem dX6_readOut_126 : decode cX6_readOut 126 = .ok (.getfield 35, 3) := by decide +kernel
theorem dX6_readOut_129 : decode cX6_readOut 129 = .ok (.invokevirtual 174, 3) := by decide +kernel
theorem dX6_readOut_132 : decode cX6_readOut 132 = .ok (.isub, 1) := by decide +kernel
theorem dX6_readOut_133 : decode cX6_readOut 133 = .ok (.ireturn, 1) := by decide +kernel
theorem dX6_readOut_134 : decode cX6_readOut 134 = .ok (.aload_n 0, 1) := by decide +kernel
theorem dX6_readOut_135 : decode cX6_readOut 135 = .ok (.getfield 35, 3) := by decide +kernel
theorem dX6_readOut_138 : decode cX6_readOut 138 = .ok (.invokevirtual 177, 3) := by decide +kernel
theorem dX6_readOut_141 : decode cX6_readOut 141 = .ok (.istore_n 2, 1) := by decide +kernel
theorem dX6_readOut_142 : decode cX6_readOut 142 = .ok (.iinc 3 1, 3) := by decide +kernel
theorem dX6_readOut_145 : decode cX6_readOut 145 = .ok (.goto (-93), 3) := by decide +kernel
theorem dX6_readOut_148 : decode cX6_readOut 148 = .ok (.aload_n 0, 1) := by decide +kernel
theorem dX6_readOut_149 : decode cX6_readOut 149 = .ok (.getfield 26, 3) := by decide +kernel
theorem dX6_readOut_152 : decode cX6_readOut 152 = .ok (.invokevirtual 181, 3) := by decide +kernel
theorem dX6_readOut_155 : decode cX6_readOut 155 = .ok (.ireturn, 1) := by decide +kernel
theorem dX6_decode_0 : decode cX6_decode 0 = .ok (.aload_n 0, 1) := by decide +kernel
theorem dX6_decode_1 : decode cX6_decode 1 = .ok (.getfield 35, 3) := by decide +kernel
theorem dX6_decode_4 : decode cX6_decode 4 = .ok (.aload_n 0, 1) := by decide +kernel
theorem dX6_decode_5 : decode cX6_decode 5 = .ok (.getfield 10, 3) := by decide +kernel
theorem dX6_decode_8 : decode cX6_decode 8 = .ok (.invokevirtual 170, 3) := by decide +kernel
theorem dX6_decode_11 : decode cX6_decode 11 = .ok (.ifCond .eq 13, 3) := by decide +kernel
theorem dX6_decode_14 : decode cX6_decode 14 = .ok (.aload_n 0, 1) := by decide +kernel
theorem dX6_decode_15 : decode cX6_decode 15 = .ok (.getfield 26, 3) := by decide +kernel
theorem dX6_decode_18 : decode cX6_decode 18 = .ok (.invokevirtual 181, 3) := by decide +kernel
theorem dX6_decode_21 : decode cX6_decode 21 = .ok (.goto 11, 3) := by decide +kernel
theorem dX6_decode_24 : decode cX6_decode 24 = .ok (.aload_n 0, 1) := by decide +kernel
theorem dX6_decode_25 : decode cX6_decode 25 = .ok (.getfield 35, 3) := by decide +kernel
theorem dX6_decode_28 : decode cX6_decode 28 = .ok (.invokevirtual 174, 3) := by decide +kernel
theorem dX6_decode_31 : decode cX6_decode 31 = .ok (.ineg, 1) := by decide +kernel
theorem dX6_decode_32 : decode cX6_decode 32 = .ok (.ireturn, 1) := by decide +kernel
theorem dX6_place_0 : decode cX6_place 0 = .ok (.aload_n 0, 1) := by decide +kernel
theorem dX6_place_1 : decode cX6_place 1 = .ok (.getfield 35, 3) := by decide +kernel
theorem dX6_place_4 : decode cX6_place 4 = .ok (.invokevirtual 182, 3) := by decide +kernel
theorem dX6_place_7 : decode cX6_place 7 = .ok (.ireturn, 1) := by decide +kernel
theorem dX6_clear_0 : decode cX6_clear 0 = .ok (.aload_n 0, 1) := by decide +kernel
theorem dX6_clear_1 : decode cX6_clear 1 = .ok (.getfield 26, 3) := by decide +kernel
theorem dX6_clear_4 : decode cX6_clear 4 = .ok (.invokevirtual 181, 3) := by decide +kernel
theorem dX6_clear_7 : decode cX6_clear 7 = .ok (.istore_n 1, 1) := by decide +kernel
theorem dX6_clear_8 : decode cX6_clear 8 = .ok (.aload_n 0, 1) := by decide +kernel
theorem dX6_clear_9 : decode cX6_clear 9 = .ok (.getfield 26, 3) := by decide +kernel
theorem dX6_clear_12 : decode cX6_clear 12 = .ok (.iconst 0, 1) := by decide +kernel
theorem dX6_clear_13 : decode cX6_clear 13 = .ok (.invokevirtual 158, 3) := by decide +kernel
theorem dX6_clear_16 : decode cX6_clear 16 = .ok (.iload_n 1, 1) := by decide +kernel
theorem dX6_clear_17 : decode cX6_clear 17 = .ok (.ireturn, 1) := by decide +kernel
theorem dX6_record_0 : decode cX6_record 0 = .ok (.aload_n 0, 1) := by decide +kernel
theorem dX6_record_1 : decode cX6_record 1 = .ok (.getfield 26, 3) := by decide +kernel
theorem dX6_record_4 : decode cX6_record 4 = .ok (.iload_n 1, 1) := by decide +kernel
theorem dX6_record_5 : decode cX6_record 5 = .ok (.invokevirtual 185, 3) := by decide +kernel
theorem dX6_record_8 : decode cX6_record 8 = .ok (.astore_n 3, 1) := by decide +kernel
theorem dX6_record_9 : decode cX6_record 9 = .ok (.aload_n 3, 1) := by decide +kernel
theorem dX6_record_10 : decode cX6_record 10 = .ok (.ifnull 18, 3) := by decide +kernel
theorem dX6_record_13 : decode cX6_record 13 = .ok (.iload_n 2, 1) := by decide +kernel
theorem dX6_record_14 : decode cX6_record 14 = .ok (.ifCond .lt 14, 3) := by decide +kernel
theorem dX6_record_17 : decode cX6_record 17 = .ok (.iload_n 2, 1) := by decide +kernel
theorem dX6_record_18 : decode cX6_record 18 = .ok (.bipush 7, 2) := by decide +kernel
theorem dX6_record_20 : decode cX6_record 20 = .ok (.aload_n 3, 1) := by decide +kernel
theorem dX6_record_21 : decode cX6_record 21 = .ok (.invokevirtual 188, 3) := by decide +kernel
theorem dX6_record_24 : decode cX6_record 24 = .ok (.iadd, 1) := by decide +kernel
theorem dX6_record_25 : decode cX6_record 25 = .ok (.if_icmp .lt 13, 3) := by decide +kernel
theorem dX6_record_28 : decode cX6_record 28 = .ok (.new 72, 3) := by decide +kernel
theorem dX6_record_31 : decode cX6_record 31 = .ok (.dup, 1) := by decide +kernel
theorem dX6_record_32 : decode cX6_record 32 = .ok (.ldc 193, 2) := by decide +kernel
theorem dX6_record_34 : decode cX6_record 34 = .ok (.invokespecial 76, 3) := by decide +kernel
theorem dX6_record_37 : decode cX6_record 37 = .ok (.athrow, 1) := by decide +kernel
theorem dX6_record_38 : decode cX6_record 38 = .ok (.aload_n 3, 1) := by decide +kernel
theorem dX6_record_39 : decode cX6_record 39 = .ok (.iload_n 2, 1) := by decide +kernel
theorem dX6_record_40 : decode cX6_record 40 = .ok (.invokevirtual 195, 3) := by decide +kernel
theorem dX6_record_43 : decode cX6_record 43 = .ok (.lreturn, 1) := by decide +kernel
theorem dX6_text_0 : decode cX6_text 0 = .ok (.aload_n 0, 1) := by decide +kernel
theorem dX6_text_1 : decode cX6_text 1 = .ok (.getfield 26, 3) := by decide +kernel
theorem dX6_text_4 : decode cX6_text 4 = .ok (.iload_n 1, 1) := by decide +kernel
theorem dX6_text_5 : decode cX6_text 5 = .ok (.invokevirtual 185, 3) := by decide +kernel
theorem dX6_text_8 : decode cX6_text 8 = .ok (.astore_n 3, 1) := by decide +kernel
theorem dX6_text_9 : decode cX6_text 9 = .ok (.aload_n 3, 1) := by decide +kernel
theorem dX6_text_10 : decode cX6_text 10 = .ok (.ifnull 15, 3) := by decide +kernel
theorem dX6_text_13 : decode cX6_text 13 = .ok (.iload_n 2, 1) := by decide +kernel
theorem dX6_text_14 : decode cX6_text 14 = .ok (.ifCond .lt 11, 3) := by decide +kernel
theorem dX6_text_17 : decode cX6_text 17 = .ok (.iload_n 2, 1) := by decide +kernel
theorem dX6_text_18 : decode cX6_text 18 = .ok (.aload_n 3, 1) := by decide +kernel
theorem dX6_text_19 : decode cX6_text 19 = .ok (.invokevirtual 198, 3) := by decide +kernel
theorem dX6_text_22 : decode cX6_text 22 = .ok (.if_icmp .lt 13, 3) := by decide +kernel
theorem dX6_text_25 : decode cX6_text 25 = .ok (.new 72, 3) := by decide +kernel
theorem dX6_text_28 : decode cX6_text 28 = .ok (.dup, 1) := by decide +kernel
theorem dX6_text_29 : decode cX6_text 29 = .ok (.ldc 201, 2) := by decide +kernel
theorem dX6_text_31 : decode cX6_text 31 = .ok (.invokespecial 76, 3) := by decide +kernel
theorem dX6_text_34 : decode cX6_text 34 = .ok (.athrow, 1) := by decide +kernel
theorem dX6_text_35 : decode cX6_text 35 = .ok (.aload_n 3, 1) := by decide +kernel
theorem dX6_text_36 : decode cX6_text 36 = .ok (.iload_n 2, 1) := by decide +kernel
theorem dX6_text_37 : decode cX6_text 37 = .ok (.invokevirtual 203, 3) := by decide +kernel
theorem dX6_text_40 : decode cX6_text 40 = .ok (.ireturn, 1) := by decide +kernel
theorem dX6_count_0 : decode cX6_count 0 = .ok (.iload_n 1, 1) := by decide +kernel
theorem dX6_count_1 : decode cX6_count 1 = .ok (.tableswitch 84 0 5 #[39, 47, 55, 60, 68, 76], 39) := by decide +kernel
theorem dX6_count_40 : decode cX6_count 40 = .ok (.aload_n 0, 1) := by decide +kernel
theorem dX6_count_41 : decode cX6_count 41 = .ok (.getfield 19, 3) := by decide +kernel
theorem dX6_count_44 : decode cX6_count 44 = .ok (.invokevirtual 206, 3) := by decide +kernel
theorem dX6_count_47 : decode cX6_count 47 = .ok (.ireturn, 1) := by decide +kernel
theorem dX6_count_48 : decode cX6_count 48 = .ok (.aload_n 0, 1) := by decide +kernel
theorem dX6_count_49 : decode cX6_count 49 = .ok (.getfield 10, 3) := by decide +kernel
theorem dX6_count_52 : decode cX6_count 52 = .ok (.invokevirtual 54, 3) := by decide +kernel
theorem dX6_count_55 : decode cX6_count 55 = .ok (.ireturn, 1) := by decide +kernel
theorem dX6_count_56 : decode cX6_count 56 = .ok (.aload_n 0, 1) := by decide +kernel
theorem dX6_count_57 : decode cX6_count 57 = .ok (.getfield 43, 3) := by decide +kernel
theorem dX6_count_60 : decode cX6_count 60 = .ok (.ireturn, 1) := by decide +kernel
theorem dX6_count_61 : decode cX6_count 61 = .ok (.aload_n 0, 1) := by decide +kernel
theorem dX6_count_62 : decode cX6_count 62 = .ok (.getfield 26, 3) := by decide +kernel
theorem dX6_count_65 : decode cX6_count 65 = .ok (.invokevirtual 181, 3) := by decide +kernel
theorem dX6_count_68 : decode cX6_count 68 = .ok (.ireturn, 1) := by decide +kernel
theorem dX6_count_69 : decode cX6_count 69 = .ok (.aload_n 0, 1) := by decide +kernel
theorem dX6_count_70 : decode cX6_count 70 = .ok (.getfield 19, 3) := by decide +kernel
theorem dX6_count_73 : decode cX6_count 73 = .ok (.invokevirtual 209, 3) := by decide +kernel
theorem dX6_count_76 : decode cX6_count 76 = .ok (.ireturn, 1) := by decide +kernel
theorem dX6_count_77 : decode cX6_count 77 = .ok (.aload_n 0, 1) := by decide +kernel
theorem dX6_count_78 : decode cX6_count 78 = .ok (.getfield 19, 3) := by decide +kernel
theorem dX6_count_81 : decode cX6_count 81 = .ok (.invokevirtual 212, 3) := by decide +kernel
theorem dX6_count_84 : decode cX6_count 84 = .ok (.ireturn, 1) := by decide +kernel
theorem dX6_count_85 : decode cX6_count 85 = .ok (.new 72, 3) := by decide +kernel
theorem dX6_count_88 : decode cX6_count 88 = .ok (.dup, 1) := by decide +kernel
theorem dX6_count_89 : decode cX6_count 89 = .ok (.ldc 215, 2) := by decide +kernel
theorem dX6_count_91 : decode cX6_count 91 = .ok (.invokespecial 76, 3) := by decide +kernel
theorem dX6_count_94 : decode cX6_count 94 = .ok (.athrow, 1) := by decide +kernel
theorem dX6_probe_0 : decode cX6_probe 0 = .ok (.aload_n 0, 1) := by decide +kernel
theorem dX6_probe_1 : decode cX6_probe 1 = .ok (.getfield 19, 3) := by decide +kernel
theorem dX6_probe_4 : decode cX6_probe 4 = .ok (.lload_n 2, 1) := by decide +kernel
theorem dX6_probe_5 : decode cX6_probe 5 = .ok (.invokevirtual 217, 3) := by decide +kernel
theorem dX6_probe_8 : decode cX6_probe 8 = .ok (.istore 4, 2) := by decide +kernel
theorem dX6_probe_10 : decode cX6_probe 10 = .ok (.iload 4, 2) := by decide +kernel
theorem dX6_probe_12 : decode cX6_probe 12 = .ok (.iconst 1, 1) := by decide +kernel
theorem dX6_probe_13 : decode cX6_probe 13 = .ok (.if_icmp .ne 15, 3) := by decide +kernel
theorem dX6_probe_16 : decode cX6_probe 16 = .ok (.aload_n 0, 1) := by decide +kernel
theorem dX6_probe_17 : decode cX6_probe 17 = .ok (.lload_n 2, 1) := by decide +kernel
theorem dX6_probe_18 : decode cX6_probe 18 = .ok (.invokevirtual 221, 3) := by decide +kernel
theorem dX6_probe_21 : decode cX6_probe 21 = .ok (.aload_n 0, 1) := by decide +kernel
theorem dX6_probe_22 : decode cX6_probe 22 = .ok (.invokevirtual 225, 3) := by decide +kernel
theorem dX6_probe_25 : decode cX6_probe 25 = .ok (.goto 62, 3) := by decide +kernel
theorem dX6_probe_28 : decode cX6_probe 28 = .ok (.iload 4, 2) := by decide +kernel
theorem dX6_probe_30 : decode cX6_probe 30 = .ok (.bipush (-2), 2) := by decide +kernel
theorem dX6_probe_32 : decode cX6_probe 32 = .ok (.if_icmp .ne 55, 3) := by decide +kernel
theorem dX6_probe_35 : decode cX6_probe 35 = .ok (.iload_n 1, 1) := by decide +kernel
theorem dX6_probe_36 : decode cX6_probe 36 = .ok (.bipush 12, 2) := by decide +kernel
theorem dX6_probe_38 : decode cX6_probe 38 = .ok (.if_icmp .ge 49, 3) := by decide +kernel
theorem dX6_probe_41 : decode cX6_probe 41 = .ok (.iload_n 1, 1) := by decide +kernel
theorem dX6_probe_42 : decode cX6_probe 42 = .ok (.bipush 8, 2) := by decide +kernel
theorem dX6_probe_44 : decode cX6_probe 44 = .ok (.if_icmp .ge 8, 3) := by decide +kernel
theorem dX6_probe_47 : decode cX6_probe 47 = .ok (.bipush 10, 2) := by decide +kernel
theorem dX6_probe_49 : decode cX6_probe 49 = .ok (.goto 6, 3) := by decide +kernel
theorem dX6_probe_52 : decode cX6_probe 52 = .ok (.sipush 255, 3) := by decide +kernel
theorem dX6_probe_55 : decode cX6_probe 55 = .ok (.istore 5, 2) := by decide +kernel
theorem dX6_probe_57 : decode cX6_probe 57 = .ok (.iconst 0, 1) := by decide +kernel
theorem dX6_probe_58 : decode cX6_probe 58 = .ok (.istore 6, 2) := by decide +kernel
theorem dX6_probe_60 : decode cX6_probe 60 = .ok (.iload 6, 2) := by decide +kernel
theorem dX6_probe_62 : decode cX6_probe 62 = .ok (.iload 5, 2) := by decide +kernel
theorem dX6_probe_64 : decode cX6_probe 64 = .ok (.if_icmp .ge 23, 3) := by decide +kernel
theorem dX6_probe_67 : decode cX6_probe 67 = .ok (.aload_n 0, 1) := by decide +kernel
theorem dX6_probe_68 : decode cX6_probe 68 = .ok (.iload_n 1, 1) := by decide +kernel
theorem dX6_probe_69 : decode cX6_probe 69 = .ok (.iconst 1, 1) := by decide +kernel
theorem dX6_probe_70 : decode cX6_probe 70 = .ok (.iadd, 1) := by decide +kernel
theorem dX6_probe_71 : decode cX6_probe 71 = .ok (.lload_n 2, 1) := by decide +kernel
theorem dX6_probe_72 : decode cX6_probe 72 = .ok (.iload_n 1, 1) := by decide +kernel
theorem dX6_probe_73 : decode cX6_probe 73 = .ok (.iload 6, 2) := by decide +kernel
theorem dX6_probe_75 : decode cX6_probe 75 = .ok (.invokestatic 228, 3) := by decide +kernel
theorem dX6_probe_78 : decode cX6_probe 78 = .ok (.invokevirtual 148, 3) := by decide +kernel
theorem dX6_probe_81 : decode cX6_probe 81 = .ok (.iinc 6 1, 3) := by decide +kernel
theorem dX6_probe_84 : decode cX6_probe 84 = .ok (.goto (-24), 3) := by decide +kernel
theorem dX6_probe_87 : decode cX6_probe 87 = .ok (.return_, 1) := by decide +kernel
theorem dX6_withPart_0 : decode cX6_withPart 0 = .ok (.iload_n 2, 1) := by decide +kernel
theorem dX6_withPart_1 : decode cX6_withPart 1 = .ok (.bipush 8, 2) := by decide +kernel
theorem dX6_withPart_3 : decode cX6_withPart 3 = .ok (.if_icmp .ge 30, 3) := by decide +kernel
theorem dX6_withPart_6 : decode cX6_withPart 6 = .ok (.iconst 4, 1) := by decide +kernel
theorem dX6_withPart_7 : decode cX6_withPart 7 = .ok (.bipush 7, 2) := by decide +kernel
theorem dX6_withPart_9 : decode cX6_withPart 9 = .ok (.iload_n 2, 1) := by decide +kernel
theorem dX6_withPart_10 : decode cX6_withPart 10 = .ok (.isub, 1) := by decide +kernel
theorem dX6_withPart_11 : decode cX6_withPart 11 = .ok (.imul, 1) := by decide +kernel
theorem dX6_withPart_12 : decode cX6_withPart 12 = .ok (.istore 4, 2) := by decide +kernel
theorem dX6_withPart_14 : decode cX6_withPart 14 = .ok (.lload_n 0, 1) := by decide +kernel
theorem dX6_withPart_15 : decode cX6_withPart 15 = .ok (.ldc2_w 232, 3) := by decide +kernel
theorem dX6_withPart_18 : decode cX6_withPart 18 = .ok (.iload 4, 2) := by decide +kernel
theorem dX6_withPart_20 : decode cX6_withPart 20 = .ok (.lshl, 1) := by decide +kernel
theorem dX6_withPart_21 : decode cX6_withPart 21 = .ok (.ldc2_w 146, 3) := by decide +kernel
theorem dX6_withPart_24 : decode cX6_withPart 24 = .ok (.lxor, 1) := by decide +kernel
theorem dX6_withPart_25 : decode cX6_withPart 25 = .ok (.land, 1) := by decide +kernel
theorem dX6_withPart_26 : decode cX6_withPart 26 = .ok (.iload_n 3, 1) := by decide +kernel
theorem dX6_withPart_27 : decode cX6_withPart 27 = .ok (.i2l, 1) := by decide +kernel
theorem dX6_withPart_28 : decode cX6_withPart 28 = .ok (.iload 4, 2) := by decide +kernel
theorem dX6_withPart_30 : decode cX6_withPart 30 = .ok (.lshl, 1) := by decide +kernel
theorem dX6_withPart_31 : decode cX6_withPart 31 = .ok (.lor, 1) := by decide +kernel
theorem dX6_withPart_32 : decode cX6_withPart 32 = .ok (.lreturn, 1) := by decide +kernel
theorem dX6_withPart_33 : decode cX6_withPart 33 = .ok (.bipush 32, 2) := by decide +kernel
theorem dX6_withPart_35 : decode cX6_withPart 35 = .ok (.bipush 8, 2) := by decide +kernel
theorem dX6_withPart_37 : decode cX6_withPart 37 = .ok (.iload_n 2, 1) := by decide +kernel
theorem dX6_withPart_38 : decode cX6_withPart 38 = .ok (.bipush 8, 2) := by decide +kernel
theorem dX6_withPart_40 : decode cX6_withPart 40 = .ok (.isub, 1) := by decide +kernel
theorem dX6_withPart_41 : decode cX6_withPart 41 = .ok (.imul, 1) := by decide +kernel
theorem dX6_withPart_42 : decode cX6_withPart 42 = .ok (.iadd, 1) := by decide +kernel
theorem dX6_withPart_43 : decode cX6_withPart 43 = .ok (.istore 4, 2) := by decide +kernel
theorem dX6_withPart_45 : decode cX6_withPart 45 = .ok (.lload_n 0, 1) := by decide +kernel
theorem dX6_withPart_46 : decode cX6_withPart 46 = .ok (.ldc2_w 234, 3) := by decide +kernel
theorem dX6_withPart_49 : decode cX6_withPart 49 = .ok (.iload 4, 2) := by decide +kernel
theorem dX6_withPart_51 : decode cX6_withPart 51 = .ok (.lshl, 1) := by decide +kernel
theorem dX6_withPart_52 : decode cX6_withPart 52 = .ok (.ldc2_w 146, 3) := by decide +kernel
theorem dX6_withPart_55 : decode cX6_withPart 55 = .ok (.lxor, 1) := by decide +kernel
theorem dX6_withPart_56 : decode cX6_withPart 56 = .ok (.land, 1) := by decide +kernel
theorem dX6_withPart_57 : decode cX6_withPart 57 = .ok (.iload_n 3, 1) := by decide +kernel
theorem dX6_withPart_58 : decode cX6_withPart 58 = .ok (.i2l, 1) := by decide +kernel
theorem dX6_withPart_59 : decode cX6_withPart 59 = .ok (.iload 4, 2) := by decide +kernel
theorem dX6_withPart_61 : decode cX6_withPart 61 = .ok (.lshl, 1) := by decide +kernel
theorem dX6_withPart_62 : decode cX6_withPart 62 = .ok (.lor, 1) := by decide +kernel
theorem dX6_withPart_63 : decode cX6_withPart 63 = .ok (.lreturn, 1) := by decide +kernel
theorem dX6_addFound_0 : decode cX6_addFound 0 = .ok (.aload_n 0, 1) := by decide +kernel
theorem dX6_addFound_1 : decode cX6_addFound 1 = .ok (.getfield 19, 3) := by decide +kernel
theorem dX6_addFound_4 : decode cX6_addFound 4 = .ok (.bipush 91, 2) := by decide +kernel
theorem dX6_addFound_6 : decode cX6_addFound 6 = .ok (.sipush 253, 3) := by decide +kernel
theorem dX6_addFound_9 : decode cX6_addFound 9 = .ok (.invokevirtual 166, 3) := by decide +kernel
theorem dX6_addFound_12 : decode cX6_addFound 12 = .ok (.istore_n 1, 1) := by decide +kernel
theorem dX6_addFound_13 : decode cX6_addFound 13 = .ok (.iload_n 1, 1) := by decide +kernel
theorem dX6_addFound_14 : decode cX6_addFound 14 = .ok (.ifCond .le 43, 3) := by decide +kernel
theorem dX6_addFound_17 : decode cX6_addFound 17 = .ok (.aload_n 0, 1) := by decide +kernel
theorem dX6_addFound_18 : decode cX6_addFound 18 = .ok (.getfield 43, 3) := by decide +kernel
theorem dX6_addFound_21 : decode cX6_addFound 21 = .ok (.bipush 12, 2) := by decide +kernel
theorem dX6_addFound_23 : decode cX6_addFound 23 = .ok (.if_icmp .ge 34, 3) := by decide +kernel
theorem dX6_addFound_26 : decode cX6_addFound 26 = .ok (.aload_n 0, 1) := by decide +kernel
theorem dX6_addFound_27 : decode cX6_addFound 27 = .ok (.getfield 39, 3) := by decide +kernel
theorem dX6_addFound_30 : decode cX6_addFound 30 = .ok (.aload_n 0, 1) := by decide +kernel
theorem dX6_addFound_31 : decode cX6_addFound 31 = .ok (.getfield 43, 3) := by decide +kernel
theorem dX6_addFound_34 : decode cX6_addFound 34 = .ok (.aload_n 0, 1) := by decide +kernel
theorem dX6_addFound_35 : decode cX6_addFound 35 = .ok (.getfield 19, 3) := by decide +kernel
theorem dX6_addFound_38 : decode cX6_addFound 38 = .ok (.invokevirtual 138, 3) := by decide +kernel
theorem dX6_addFound_41 : decode cX6_addFound 41 = .ok (.bipush 7, 2) := by decide +kernel
theorem dX6_addFound_43 : decode cX6_addFound 43 = .ok (.invokevirtual 236, 3) := by decide +kernel
theorem dX6_addFound_46 : decode cX6_addFound 46 = .ok (.lastore, 1) := by decide +kernel
theorem dX6_addFound_47 : decode cX6_addFound 47 = .ok (.aload_n 0, 1) := by decide +kernel
theorem dX6_addFound_48 : decode cX6_addFound 48 = .ok (.dup, 1) := by decide +kernel
theorem dX6_addFound_49 : decode cX6_addFound 49 = .ok (.getfield 43, 3) := by decide +kernel
theorem dX6_addFound_52 : decode cX6_addFound 52 = .ok (.iconst 1, 1) := by decide +kernel
theorem dX6_addFound_53 : decode cX6_addFound 53 = .ok (.iadd, 1) := by decide +kernel
theorem dX6_addFound_54 : decode cX6_addFound 54 = .ok (.putfield 43, 3) := by decide +kernel
theorem dX6_addFound_57 : decode cX6_addFound 57 = .ok (.return_, 1) := by decide +kernel
theorem dX6_isSelected_0 : decode cX6_isSelected 0 = .ok (.aload_n 0, 1) := by decide +kernel
theorem dX6_isSelected_1 : decode cX6_isSelected 1 = .ok (.getfield 19, 3) := by decide +kernel
theorem dX6_isSelected_4 : decode cX6_isSelected 4 = .ok (.lload_n 1, 1) := by decide +kernel
theorem dX6_isSelected_5 : decode cX6_isSelected 5 = .ok (.invokevirtual 217, 3) := by decide +kernel
theorem dX6_isSelected_8 : decode cX6_isSelected 8 = .ok (.iconst 1, 1) := by decide +kernel
theorem dX6_isSelected_9 : decode cX6_isSelected 9 = .ok (.if_icmp .ne 7, 3) := by decide +kernel
theorem dX6_isSelected_12 : decode cX6_isSelected 12 = .ok (.iconst 1, 1) := by decide +kernel
theorem dX6_isSelected_13 : decode cX6_isSelected 13 = .ok (.goto 4, 3) := by decide +kernel
theorem dX6_isSelected_16 : decode cX6_isSelected 16 = .ok (.iconst 0, 1) := by decide +kernel
theorem dX6_isSelected_17 : decode cX6_isSelected 17 = .ok (.istore_n 3, 1) := by decide +kernel
theorem dX6_isSelected_18 : decode cX6_isSelected 18 = .ok (.iload_n 3, 1) := by decide +kernel
theorem dX6_isSelected_19 : decode cX6_isSelected 19 = .ok (.ifCond .eq 8, 3) := by decide +kernel
theorem dX6_isSelected_22 : decode cX6_isSelected 22 = .ok (.aload_n 0, 1) := by decide +kernel
theorem dX6_isSelected_23 : decode cX6_isSelected 23 = .ok (.lload_n 1, 1) := by decide +kernel
theorem dX6_isSelected_24 : decode cX6_isSelected 24 = .ok (.invokevirtual 221, 3) := by decide +kernel
theorem dX6_isSelected_27 : decode cX6_isSelected 27 = .ok (.iload_n 3, 1) := by decide +kernel
theorem dX6_isSelected_28 : decode cX6_isSelected 28 = .ok (.ireturn, 1) := by decide +kernel
theorem dX6_resetSelected_0 : decode cX6_resetSelected 0 = .ok (.aload_n 0, 1) := by decide +kernel
theorem dX6_resetSelected_1 : decode cX6_resetSelected 1 = .ok (.getfield 19, 3) := by decide +kernel
theorem dX6_resetSelected_4 : decode cX6_resetSelected 4 = .ok (.bipush 64, 2) := by decide +kernel
theorem dX6_resetSelected_6 : decode cX6_resetSelected 6 = .ok (.sipush 253, 3) := by decide +kernel
theorem dX6_resetSelected_9 : decode cX6_resetSelected 9 = .ok (.invokevirtual 166, 3) := by decide +kernel
theorem dX6_resetSelected_12 : decode cX6_resetSelected 12 = .ok (.pop, 1) := by decide +kernel
theorem dX6_resetSelected_13 : decode cX6_resetSelected 13 = .ok (.aload_n 0, 1) := by decide +kernel
theorem dX6_resetSelected_14 : decode cX6_resetSelected 14 = .ok (.getfield 19, 3) := by decide +kernel
theorem dX6_resetSelected_17 : decode cX6_resetSelected 17 = .ok (.lload_n 1, 1) := by decide +kernel
theorem dX6_resetSelected_18 : decode cX6_resetSelected 18 = .ok (.invokevirtual 217, 3) := by decide +kernel
theorem dX6_resetSelected_21 : decode cX6_resetSelected 21 = .ok (.pop, 1) := by decide +kernel
theorem dX6_resetSelected_22 : decode cX6_resetSelected 22 = .ok (.return_, 1) := by decide +kernel
theorem dX6_isFoundOne_0 : decode cX6_isFoundOne 0 = .ok (.iload_n 1, 1) := by decide +kernel
theorem dX6_isFoundOne_1 : decode cX6_isFoundOne 1 = .ok (.ifCond .lt 21, 3) := by decide +kernel
theorem dX6_isFoundOne_4 : decode cX6_isFoundOne 4 = .ok (.iload_n 1, 1) := by decide +kernel
theorem dX6_isFoundOne_5 : decode cX6_isFoundOne 5 = .ok (.aload_n 0, 1) := by decide +kernel
theorem dX6_isFoundOne_6 : decode cX6_isFoundOne 6 = .ok (.getfield 43, 3) := by decide +kernel
theorem dX6_isFoundOne_9 : decode cX6_isFoundOne 9 = .ok (.if_icmp .ge 13, 3) := by decide +kernel
theorem dX6_isFoundOne_12 : decode cX6_isFoundOne 12 = .ok (.iload_n 1, 1) := by decide +kernel
theorem dX6_isFoundOne_13 : decode cX6_isFoundOne 13 = .ok (.bipush 12, 2) := by decide +kernel
theorem dX6_isFoundOne_15 : decode cX6_isFoundOne 15 = .ok (.if_icmp .ge 7, 3) := by decide +kernel
theorem dX6_isFoundOne_18 : decode cX6_isFoundOne 18 = .ok (.iconst 1, 1) := by decide +kernel
theorem dX6_isFoundOne_19 : decode cX6_isFoundOne 19 = .ok (.goto 4, 3) := by decide +kernel
theorem dX6_isFoundOne_22 : decode cX6_isFoundOne 22 = .ok (.iconst 0, 1) := by decide +kernel
theorem dX6_isFoundOne_23 : decode cX6_isFoundOne 23 = .ok (.ireturn, 1) := by decide +kernel
theorem dX6_isMeterNumber_0 : decode cX6_isMeterNumber 0 = .ok (.iload_n 0, 1) := by decide +kernel
theorem dX6_isMeterNumber_1 : decode cX6_isMeterNumber 1 = .ok (.ifCond .lt 13, 3) := by decide +kernel
theorem dX6_isMeterNumber_4 : decode cX6_isMeterNumber 4 = .ok (.iload_n 0, 1) := by decide +kernel
theorem dX6_isMeterNumber_5 : decode cX6_isMeterNumber 5 = .ok (.bipush 12, 2) := by decide +kernel
theorem dX6_isMeterNumber_7 : decode cX6_isMeterNumber 7 = .ok (.if_icmp .ge 7, 3) := by decide +kernel
theorem dX6_isMeterNumber_10 : decode cX6_isMeterNumber 10 = .ok (.iconst 1, 1) := by decide +kernel
theorem dX6_isMeterNumber_11 : decode cX6_isMeterNumber 11 = .ok (.goto 4, 3) := by decide +kernel
theorem dX6_isMeterNumber_14 : decode cX6_isMeterNumber 14 = .ok (.iconst 0, 1) := by decide +kernel
theorem dX6_isMeterNumber_15 : decode cX6_isMeterNumber 15 = .ok (.ireturn, 1) := by decide +kernel
theorem dX6_isAddressByte_0 : decode cX6_isAddressByte 0 = .ok (.iload_n 0, 1) := by decide +kernel
theorem dX6_isAddressByte_1 : decode cX6_isAddressByte 1 = .ok (.ifCond .lt 14, 3) := by decide +kernel
theorem dX6_isAddressByte_4 : decode cX6_isAddressByte 4 = .ok (.iload_n 0, 1) := by decide +kernel
theorem dX6_isAddressByte_5 : decode cX6_isAddressByte 5 = .ok (.sipush 254, 3) := by decide +kernel
theorem dX6_isAddressByte_8 : decode cX6_isAddressByte 8 = .ok (.if_icmp .gt 7, 3) := by decide +kernel
theorem dX6_isAddressByte_11 : decode cX6_isAddressByte 11 = .ok (.iconst 1, 1) := by decide +kernel
theorem dX6_isAddressByte_12 : decode cX6_isAddressByte 12 = .ok (.goto 4, 3) := by decide +kernel
theorem dX6_isAddressByte_15 : decode cX6_isAddressByte 15 = .ok (.iconst 0, 1) := by decide +kernel
theorem dX6_isAddressByte_16 : decode cX6_isAddressByte 16 = .ok (.ireturn, 1) := by decide +kernel
theorem dX6_areDigits_0 : decode cX6_areDigits 0 = .ok (.iconst 0, 1) := by decide +kernel
theorem dX6_areDigits_1 : decode cX6_areDigits 1 = .ok (.istore_n 1, 1) := by decide +kernel
theorem dX6_areDigits_2 : decode cX6_areDigits 2 = .ok (.iload_n 1, 1) := by decide +kernel
theorem dX6_areDigits_3 : decode cX6_areDigits 3 = .ok (.bipush 32, 2) := by decide +kernel
theorem dX6_areDigits_5 : decode cX6_areDigits 5 = .ok (.if_icmp .ge 22, 3) := by decide +kernel
theorem dX6_areDigits_8 : decode cX6_areDigits 8 = .ok (.iload_n 0, 1) := by decide +kernel
theorem dX6_areDigits_9 : decode cX6_areDigits 9 = .ok (.iload_n 1, 1) := by decide +kernel
theorem dX6_areDigits_10 : decode cX6_areDigits 10 = .ok (.iushr, 1) := by decide +kernel
theorem dX6_areDigits_11 : decode cX6_areDigits 11 = .ok (.bipush 15, 2) := by decide +kernel
theorem dX6_areDigits_13 : decode cX6_areDigits 13 = .ok (.iand, 1) := by decide +kernel
theorem dX6_areDigits_14 : decode cX6_areDigits 14 = .ok (.bipush 9, 2) := by decide +kernel
theorem dX6_areDigits_16 : decode cX6_areDigits 16 = .ok (.if_icmp .le 5, 3) := by decide +kernel
theorem dX6_areDigits_19 : decode cX6_areDigits 19 = .ok (.iconst 0, 1) := by decide +kernel
theorem dX6_areDigits_20 : decode cX6_areDigits 20 = .ok (.ireturn, 1) := by decide +kernel
theorem dX6_areDigits_21 : decode cX6_areDigits 21 = .ok (.iinc 1 4, 3) := by decide +kernel
theorem dX6_areDigits_24 : decode cX6_areDigits 24 = .ok (.goto (-22), 3) := by decide +kernel
theorem dX6_areDigits_27 : decode cX6_areDigits 27 = .ok (.iconst 1, 1) := by decide +kernel
theorem dX6_areDigits_28 : decode cX6_areDigits 28 = .ok (.ireturn, 1) := by decide +kernel
end
section
/-! The instructions of the class, decoded. By program (wip/mkdec.py). -/
theorem dL_type_0 : decode cL_type 0 = .ok (.aload 4, 2) := by decide +kernel
theorem dL_type_2 : decode cL_type 2 = .ok (.iconst 0, 1) := by decide +kernel
theorem dL_type_3 : decode cL_type 3 = .ok (.aload_n 0, 1) := by decide +kernel
theorem dL_type_4 : decode cL_type 4 = .ok (.lload_n 1, 1) := by decide +kernel
theorem dL_type_5 : decode cL_type 5 = .ok (.iload_n 3, 1) := by decide +kernel
theorem dL_type_6 : decode cL_type 6 = .ok (.invokevirtual 7, 3) := by decide +kernel
theorem dL_type_9 : decode cL_type 9 = .ok (.i2l, 1) := by decide +kernel
theorem dL_type_10 : decode cL_type 10 = .ok (.lastore, 1) := by decide +kernel
theorem dL_type_11 : decode cL_type 11 = .ok (.goto 11, 3) := by decide +kernel
theorem dL_type_14 : decode cL_type 14 = .ok (.astore 5, 2) := by decide +kernel
theorem dL_type_16 : decode cL_type 16 = .ok (.iconst 1, 1) := by decide +kernel
theorem dL_type_17 : decode cL_type 17 = .ok (.ireturn, 1) := by decide +kernel
theorem dL_type_18 : decode cL_type 18 = .ok (.astore 5, 2) := by decide +kernel
theorem dL_type_20 : decode cL_type 20 = .ok (.iconst 2, 1) := by decide +kernel
theorem dL_type_21 : decode cL_type 21 = .ok (.ireturn, 1) := by decide +kernel
theorem dL_type_22 : decode cL_type 22 = .ok (.iconst 0, 1) := by decide +kernel
theorem dL_type_23 : decode cL_type 23 = .ok (.ireturn, 1) := by decide +kernel
theorem dL_keep_0 : decode cL_keep 0 = .ok (.aload_n 0, 1) := by decide +kernel
theorem dL_keep_1 : decode cL_keep 1 = .ok (.iload_n 1, 1) := by decide +kernel
theorem dL_keep_2 : decode cL_keep 2 = .ok (.invokevirtual 17, 3) := by decide +kernel
theorem dL_keep_5 : decode cL_keep 5 = .ok (.goto 6, 3) := by decide +kernel
theorem dL_keep_8 : decode cL_keep 8 = .ok (.astore_n 2, 1) := by decide +kernel
theorem dL_keep_9 : decode cL_keep 9 = .ok (.iconst 1, 1) := by decide +kernel
theorem dL_keep_10 : decode cL_keep 10 = .ok (.ireturn, 1) := by decide +kernel
theorem dL_keep_11 : decode cL_keep 11 = .ok (.iconst 0, 1) := by decide +kernel
theorem dL_keep_12 : decode cL_keep 12 = .ok (.ireturn, 1) := by decide +kernel
theorem dL_typed_0 : decode cL_typed 0 = .ok (.aload_n 2, 1) := by decide +kernel
theorem dL_typed_1 : decode cL_typed 1 = .ok (.iconst 0, 1) := by decide +kernel
theorem dL_typed_2 : decode cL_typed 2 = .ok (.aload_n 0, 1) := by decide +kernel
theorem dL_typed_3 : decode cL_typed 3 = .ok (.iload_n 1, 1) := by decide +kernel
theorem dL_typed_4 : decode cL_typed 4 = .ok (.invokevirtual 21, 3) := by decide +kernel
theorem dL_typed_7 : decode cL_typed 7 = .ok (.i2l, 1) := by decide +kernel
theorem dL_typed_8 : decode cL_typed 8 = .ok (.lastore, 1) := by decide +kernel
theorem dL_typed_9 : decode cL_typed 9 = .ok (.goto 6, 3) := by decide +kernel
theorem dL_typed_12 : decode cL_typed 12 = .ok (.astore_n 3, 1) := by decide +kernel
theorem dL_typed_13 : decode cL_typed 13 = .ok (.iconst 1, 1) := by decide +kernel
theorem dL_typed_14 : decode cL_typed 14 = .ok (.ireturn, 1) := by decide +kernel
theorem dL_typed_15 : decode cL_typed 15 = .ok (.iconst 0, 1) := by decide +kernel
theorem dL_typed_16 : decode cL_typed 16 = .ok (.ireturn, 1) := by decide +kernel
theorem dL_meter_0 : decode cL_meter 0 = .ok (.aload_n 0, 1) := by decide +kernel
theorem dL_meter_1 : decode cL_meter 1 = .ok (.iload_n 1, 1) := by decide +kernel
theorem dL_meter_2 : decode cL_meter 2 = .ok (.iload_n 2, 1) := by decide +kernel
theorem dL_meter_3 : decode cL_meter 3 = .ok (.iload_n 3, 1) := by decide +kernel
theorem dL_meter_4 : decode cL_meter 4 = .ok (.iload 4, 2) := by decide +kernel
theorem dL_meter_6 : decode cL_meter 6 = .ok (.iload 5, 2) := by decide +kernel
theorem dL_meter_8 : decode cL_meter 8 = .ok (.iload 6, 2) := by decide +kernel
theorem dL_meter_10 : decode cL_meter 10 = .ok (.invokevirtual 27, 3) := by decide +kernel
theorem dL_meter_13 : decode cL_meter 13 = .ok (.goto 11, 3) := by decide +kernel
theorem dL_meter_16 : decode cL_meter 16 = .ok (.astore 7, 2) := by decide +kernel
theorem dL_meter_18 : decode cL_meter 18 = .ok (.iconst 1, 1) := by decide +kernel
theorem dL_meter_19 : decode cL_meter 19 = .ok (.ireturn, 1) := by decide +kernel
theorem dL_meter_20 : decode cL_meter 20 = .ok (.astore 7, 2) := by decide +kernel
theorem dL_meter_22 : decode cL_meter 22 = .ok (.iconst 2, 1) := by decide +kernel
theorem dL_meter_23 : decode cL_meter 23 = .ok (.ireturn, 1) := by decide +kernel
theorem dL_meter_24 : decode cL_meter 24 = .ok (.iconst 0, 1) := by decide +kernel
theorem dL_meter_25 : decode cL_meter 25 = .ok (.ireturn, 1) := by decide +kernel
theorem dL_remove_0 : decode cL_remove 0 = .ok (.aload_n 2, 1) := by decide +kernel
theorem dL_remove_1 : decode cL_remove 1 = .ok (.iconst 0, 1) := by decide +kernel
theorem dL_remove_2 : decode cL_remove 2 = .ok (.aload_n 0, 1) := by decide +kernel
theorem dL_remove_3 : decode cL_remove 3 = .ok (.iload_n 1, 1) := by decide +kernel
theorem dL_remove_4 : decode cL_remove 4 = .ok (.invokevirtual 31, 3) := by decide +kernel
theorem dL_remove_7 : decode cL_remove 7 = .ok (.ifCond .eq 7, 3) := by decide +kernel
theorem dL_remove_10 : decode cL_remove 10 = .ok (.lconst 1, 1) := by decide +kernel
theorem dL_remove_11 : decode cL_remove 11 = .ok (.goto 4, 3) := by decide +kernel
theorem dL_remove_14 : decode cL_remove 14 = .ok (.lconst 0, 1) := by decide +kernel
theorem dL_remove_15 : decode cL_remove 15 = .ok (.lastore, 1) := by decide +kernel
theorem dL_remove_16 : decode cL_remove 16 = .ok (.goto 6, 3) := by decide +kernel
theorem dL_remove_19 : decode cL_remove 19 = .ok (.astore_n 3, 1) := by decide +kernel
theorem dL_remove_20 : decode cL_remove 20 = .ok (.iconst 1, 1) := by decide +kernel
theorem dL_remove_21 : decode cL_remove 21 = .ok (.ireturn, 1) := by decide +kernel
theorem dL_remove_22 : decode cL_remove 22 = .ok (.iconst 0, 1) := by decide +kernel
theorem dL_remove_23 : decode cL_remove 23 = .ok (.ireturn, 1) := by decide +kernel
theorem dL_page_0 : decode cL_page 0 = .ok (.aload_n 3, 1) := by decide +kernel
theorem dL_page_1 : decode cL_page 1 = .ok (.iconst 0, 1) := by decide +kernel
theorem dL_page_2 : decode cL_page 2 = .ok (.aload_n 0, 1) := by decide +kernel
theorem dL_page_3 : decode cL_page 3 = .ok (.iload_n 1, 1) := by decide +kernel
theorem dL_page_4 : decode cL_page 4 = .ok (.iload_n 2, 1) := by decide +kernel
theorem dL_page_5 : decode cL_page 5 = .ok (.invokevirtual 35, 3) := by decide +kernel
theorem dL_page_8 : decode cL_page 8 = .ok (.i2l, 1) := by decide +kernel
theorem dL_page_9 : decode cL_page 9 = .ok (.lastore, 1) := by decide +kernel
theorem dL_page_10 : decode cL_page 10 = .ok (.goto 11, 3) := by decide +kernel
theorem dL_page_13 : decode cL_page 13 = .ok (.astore 4, 2) := by decide +kernel
theorem dL_page_15 : decode cL_page 15 = .ok (.iconst 1, 1) := by decide +kernel
theorem dL_page_16 : decode cL_page 16 = .ok (.ireturn, 1) := by decide +kernel
theorem dL_page_17 : decode cL_page 17 = .ok (.astore 4, 2) := by decide +kernel
theorem dL_page_19 : decode cL_page 19 = .ok (.iconst 2, 1) := by decide +kernel
theorem dL_page_20 : decode cL_page 20 = .ok (.ireturn, 1) := by decide +kernel
theorem dL_page_21 : decode cL_page 21 = .ok (.iconst 0, 1) := by decide +kernel
theorem dL_page_22 : decode cL_page 22 = .ok (.ireturn, 1) := by decide +kernel
theorem dL_state_0 : decode cL_state 0 = .ok (.aload_n 3, 1) := by decide +kernel
theorem dL_state_1 : decode cL_state 1 = .ok (.iconst 0, 1) := by decide +kernel
theorem dL_state_2 : decode cL_state 2 = .ok (.aload_n 0, 1) := by decide +kernel
theorem dL_state_3 : decode cL_state 3 = .ok (.iload_n 1, 1) := by decide +kernel
theorem dL_state_4 : decode cL_state 4 = .ok (.iload_n 2, 1) := by decide +kernel
theorem dL_state_5 : decode cL_state 5 = .ok (.invokevirtual 39, 3) := by decide +kernel
theorem dL_state_8 : decode cL_state 8 = .ok (.i2l, 1) := by decide +kernel
theorem dL_state_9 : decode cL_state 9 = .ok (.lastore, 1) := by decide +kernel
theorem dL_state_10 : decode cL_state 10 = .ok (.goto 7, 3) := by decide +kernel
theorem dL_state_13 : decode cL_state 13 = .ok (.astore 4, 2) := by decide +kernel
theorem dL_state_15 : decode cL_state 15 = .ok (.iconst 1, 1) := by decide +kernel
theorem dL_state_16 : decode cL_state 16 = .ok (.ireturn, 1) := by decide +kernel
theorem dL_state_17 : decode cL_state 17 = .ok (.iconst 0, 1) := by decide +kernel
theorem dL_state_18 : decode cL_state 18 = .ok (.ireturn, 1) := by decide +kernel
theorem dL_found_0 : decode cL_found 0 = .ok (.aload_n 3, 1) := by decide +kernel
theorem dL_found_1 : decode cL_found 1 = .ok (.iconst 0, 1) := by decide +kernel
theorem dL_found_2 : decode cL_found 2 = .ok (.aload_n 0, 1) := by decide +kernel
theorem dL_found_3 : decode cL_found 3 = .ok (.iload_n 1, 1) := by decide +kernel
theorem dL_found_4 : decode cL_found 4 = .ok (.iload_n 2, 1) := by decide +kernel
theorem dL_found_5 : decode cL_found 5 = .ok (.invokevirtual 42, 3) := by decide +kernel
theorem dL_found_8 : decode cL_found 8 = .ok (.i2l, 1) := by decide +kernel
theorem dL_found_9 : decode cL_found 9 = .ok (.lastore, 1) := by decide +kernel
theorem dL_found_10 : decode cL_found 10 = .ok (.goto 7, 3) := by decide +kernel
theorem dL_found_13 : decode cL_found 13 = .ok (.astore 4, 2) := by decide +kernel
theorem dL_found_15 : decode cL_found 15 = .ok (.iconst 1, 1) := by decide +kernel
theorem dL_found_16 : decode cL_found 16 = .ok (.ireturn, 1) := by decide +kernel
theorem dL_found_17 : decode cL_found 17 = .ok (.iconst 0, 1) := by decide +kernel
theorem dL_found_18 : decode cL_found 18 = .ok (.ireturn, 1) := by decide +kernel
theorem dL_readOut_0 : decode cL_readOut 0 = .ok (.aload_n 2, 1) := by decide +kernel
theorem dL_readOut_1 : decode cL_readOut 1 = .ok (.iconst 0, 1) := by decide +kernel
theorem dL_readOut_2 : decode cL_readOut 2 = .ok (.aload_n 0, 1) := by decide +kernel
theorem dL_readOut_3 : decode cL_readOut 3 = .ok (.iload_n 1, 1) := by decide +kernel
theorem dL_readOut_4 : decode cL_readOut 4 = .ok (.invokevirtual 45, 3) := by decide +kernel
theorem dL_readOut_7 : decode cL_readOut 7 = .ok (.i2l, 1) := by decide +kernel
theorem dL_readOut_8 : decode cL_readOut 8 = .ok (.lastore, 1) := by decide +kernel
theorem dL_readOut_9 : decode cL_readOut 9 = .ok (.goto 6, 3) := by decide +kernel
theorem dL_readOut_12 : decode cL_readOut 12 = .ok (.astore_n 3, 1) := by decide +kernel
theorem dL_readOut_13 : decode cL_readOut 13 = .ok (.iconst 1, 1) := by decide +kernel
theorem dL_readOut_14 : decode cL_readOut 14 = .ok (.ireturn, 1) := by decide +kernel
theorem dL_readOut_15 : decode cL_readOut 15 = .ok (.iconst 0, 1) := by decide +kernel
theorem dL_readOut_16 : decode cL_readOut 16 = .ok (.ireturn, 1) := by decide +kernel
theorem dL_record_0 : decode cL_record 0 = .ok (.aload_n 3, 1) := by decide +kernel
theorem dL_record_1 : decode cL_record 1 = .ok (.iconst 0, 1) := by decide +kernel
theorem dL_record_2 : decode cL_record 2 = .ok (.aload_n 0, 1) := by decide +kernel
theorem dL_record_3 : decode cL_record 3 = .ok (.iload_n 1, 1) := by decide +kernel
theorem dL_record_4 : decode cL_record 4 = .ok (.iload_n 2, 1) := by decide +kernel
theorem dL_record_5 : decode cL_record 5 = .ok (.invokevirtual 48, 3) := by decide +kernel
theorem dL_record_8 : decode cL_record 8 = .ok (.lastore, 1) := by decide +kernel
theorem dL_record_9 : decode cL_record 9 = .ok (.goto 7, 3) := by decide +kernel
theorem dL_record_12 : decode cL_record 12 = .ok (.astore 4, 2) := by decide +kernel
theorem dL_record_14 : decode cL_record 14 = .ok (.iconst 1, 1) := by decide +kernel
theorem dL_record_15 : decode cL_record 15 = .ok (.ireturn, 1) := by decide +kernel
theorem dL_record_16 : decode cL_record 16 = .ok (.iconst 0, 1) := by decide +kernel
theorem dL_record_17 : decode cL_record 17 = .ok (.ireturn, 1) := by decide +kernel
theorem dL_text_0 : decode cL_text 0 = .ok (.aload_n 3, 1) := by decide +kernel
theorem dL_text_1 : decode cL_text 1 = .ok (.iconst 0, 1) := by decide +kernel
theorem dL_text_2 : decode cL_text 2 = .ok (.aload_n 0, 1) := by decide +kernel
theorem dL_text_3 : decode cL_text 3 = .ok (.iload_n 1, 1) := by decide +kernel
theorem dL_text_4 : decode cL_text 4 = .ok (.iload_n 2, 1) := by decide +kernel
theorem dL_text_5 : decode cL_text 5 = .ok (.invokevirtual 52, 3) := by decide +kernel
theorem dL_text_8 : decode cL_text 8 = .ok (.i2l, 1) := by decide +kernel
theorem dL_text_9 : decode cL_text 9 = .ok (.lastore, 1) := by decide +kernel
theorem dL_text_10 : decode cL_text 10 = .ok (.goto 7, 3) := by decide +kernel
theorem dL_text_13 : decode cL_text 13 = .ok (.astore 4, 2) := by decide +kernel
theorem dL_text_15 : decode cL_text 15 = .ok (.iconst 1, 1) := by decide +kernel
theorem dL_text_16 : decode cL_text 16 = .ok (.ireturn, 1) := by decide +kernel
theorem dL_text_17 : decode cL_text 17 = .ok (.iconst 0, 1) := by decide +kernel
theorem dL_text_18 : decode cL_text 18 = .ok (.ireturn, 1) := by decide +kernel
theorem dL_count_0 : decode cL_count 0 = .ok (.aload_n 2, 1) := by decide +kernel
theorem dL_count_1 : decode cL_count 1 = .ok (.iconst 0, 1) := by decide +kernel
theorem dL_count_2 : decode cL_count 2 = .ok (.aload_n 0, 1) := by decide +kernel
theorem dL_count_3 : decode cL_count 3 = .ok (.iload_n 1, 1) := by decide +kernel
theorem dL_count_4 : decode cL_count 4 = .ok (.invokevirtual 55, 3) := by decide +kernel
theorem dL_count_7 : decode cL_count 7 = .ok (.i2l, 1) := by decide +kernel
theorem dL_count_8 : decode cL_count 8 = .ok (.lastore, 1) := by decide +kernel
theorem dL_count_9 : decode cL_count 9 = .ok (.goto 6, 3) := by decide +kernel
theorem dL_count_12 : decode cL_count 12 = .ok (.astore_n 3, 1) := by decide +kernel
theorem dL_count_13 : decode cL_count 13 = .ok (.iconst 1, 1) := by decide +kernel
theorem dL_count_14 : decode cL_count 14 = .ok (.ireturn, 1) := by decide +kernel
theorem dL_count_15 : decode cL_count 15 = .ok (.iconst 0, 1) := by decide +kernel
theorem dL_count_16 : decode cL_count 16 = .ok (.ireturn, 1) := by decide +kernel
theorem dL_law_0 : decode cL_law 0 = .ok (.new 8, 3) := by decide +kernel
theorem dL_law_3 : decode cL_law 3 = .ok (.dup, 1) := by decide +kernel
theorem dL_law_4 : decode cL_law 4 = .ok (.invokespecial 58, 3) := by decide +kernel
theorem dL_law_7 : decode cL_law 7 = .ok (.astore_n 1, 1) := by decide +kernel
theorem dL_law_8 : decode cL_law 8 = .ok (.new 59, 3) := by decide +kernel
theorem dL_law_11 : decode cL_law 11 = .ok (.dup, 1) := by decide +kernel
theorem dL_law_12 : decode cL_law 12 = .ok (.invokespecial 61, 3) := by decide +kernel
theorem dL_law_15 : decode cL_law 15 = .ok (.astore_n 2, 1) := by decide +kernel
theorem dL_law_16 : decode cL_law 16 = .ok (.iconst 1, 1) := by decide +kernel
theorem dL_law_17 : decode cL_law 17 = .ok (.newarray .long, 2) := by decide +kernel
theorem dL_law_19 : decode cL_law 19 = .ok (.astore_n 3, 1) := by decide +kernel
theorem dL_law_20 : decode cL_law 20 = .ok (.iconst 0, 1) := by decide +kernel
theorem dL_law_21 : decode cL_law 21 = .ok (.istore 4, 2) := by decide +kernel
theorem dL_law_23 : decode cL_law 23 = .ok (.iload 4, 2) := by decide +kernel
theorem dL_law_25 : decode cL_law 25 = .ok (.aload_n 0, 1) := by decide +kernel
theorem dL_law_26 : decode cL_law 26 = .ok (.arraylength, 1) := by decide +kernel
theorem dL_law_27 : decode cL_law 27 = .ok (.bipush 7, 2) := by decide +kernel
theorem dL_law_29 : decode cL_law 29 = .ok (.isub, 1) := by decide +kernel
theorem dL_law_30 : decode cL_law 30 = .ok (.if_icmp .gt 661, 3) := by decide +kernel
theorem dL_law_33 : decode cL_law 33 = .ok (.aload_n 0, 1) := by decide +kernel
theorem dL_law_34 : decode cL_law 34 = .ok (.iload 4, 2) := by decide +kernel
theorem dL_law_36 : decode cL_law 36 = .ok (.iaload, 1) := by decide +kernel
theorem dL_law_37 : decode cL_law 37 = .ok (.bipush 31, 2) := by decide +kernel
theorem dL_law_39 : decode cL_law 39 = .ok (.iand, 1) := by decide +kernel
theorem dL_law_40 : decode cL_law 40 = .ok (.tableswitch 645 0 16 #[84, 156, 181, 209, 296, 324, 364, 404, 417, 430, 470, 498, 511, 524, 537, 577, 617], 84) := by decide +kernel
theorem dL_law_124 : decode cL_law 124 = .ok (.aload_n 1, 1) := by decide +kernel
theorem dL_law_125 : decode cL_law 125 = .ok (.aload_n 0, 1) := by decide +kernel
theorem dL_law_126 : decode cL_law 126 = .ok (.iload 4, 2) := by decide +kernel
theorem dL_law_128 : decode cL_law 128 = .ok (.iconst 1, 1) := by decide +kernel
theorem dL_law_129 : decode cL_law 129 = .ok (.iadd, 1) := by decide +kernel
theorem dL_law_130 : decode cL_law 130 = .ok (.iaload, 1) := by decide +kernel
theorem dL_law_131 : decode cL_law 131 = .ok (.i2l, 1) := by decide +kernel
theorem dL_law_132 : decode cL_law 132 = .ok (.bipush 32, 2) := by decide +kernel
theorem dL_law_134 : decode cL_law 134 = .ok (.lshl, 1) := by decide +kernel
theorem dL_law_135 : decode cL_law 135 = .ok (.aload_n 0, 1) := by decide +kernel
theorem dL_law_136 : decode cL_law 136 = .ok (.iload 4, 2) := by decide +kernel
theorem dL_law_138 : decode cL_law 138 = .ok (.iconst 2, 1) := by decide +kernel
theorem dL_law_139 : decode cL_law 139 = .ok (.iadd, 1) := by decide +kernel
theorem dL_law_140 : decode cL_law 140 = .ok (.iaload, 1) := by decide +kernel
theorem dL_law_141 : decode cL_law 141 = .ok (.i2l, 1) := by decide +kernel
theorem dL_law_142 : decode cL_law 142 = .ok (.ldc2_w 62, 3) := by decide +kernel
theorem dL_law_145 : decode cL_law 145 = .ok (.land, 1) := by decide +kernel
theorem dL_law_146 : decode cL_law 146 = .ok (.lor, 1) := by decide +kernel
theorem dL_law_147 : decode cL_law 147 = .ok (.aload_n 0, 1) := by decide +kernel
theorem dL_law_148 : decode cL_law 148 = .ok (.iload 4, 2) := by decide +kernel
theorem dL_law_150 : decode cL_law 150 = .ok (.iconst 3, 1) := by decide +kernel
theorem dL_law_151 : decode cL_law 151 = .ok (.iadd, 1) := by decide +kernel
theorem dL_law_152 : decode cL_law 152 = .ok (.iaload, 1) := by decide +kernel
theorem dL_law_153 : decode cL_law 153 = .ok (.aload_n 3, 1) := by decide +kernel
theorem dL_law_154 : decode cL_law 154 = .ok (.invokestatic 64, 3) := by decide +kernel
theorem dL_law_157 : decode cL_law 157 = .ok (.istore 5, 2) := by decide +kernel
theorem dL_law_159 : decode cL_law 159 = .ok (.aload_n 2, 1) := by decide +kernel
theorem dL_law_160 : decode cL_law 160 = .ok (.aload_n 0, 1) := by decide +kernel
theorem dL_law_161 : decode cL_law 161 = .ok (.iload 4, 2) := by decide +kernel
theorem dL_law_163 : decode cL_law 163 = .ok (.iconst 1, 1) := by decide +kernel
theorem dL_law_164 : decode cL_law 164 = .ok (.iadd, 1) := by decide +kernel
theorem dL_law_165 : decode cL_law 165 = .ok (.iaload, 1) := by decide +kernel
theorem dL_law_166 : decode cL_law 166 = .ok (.i2l, 1) := by decide +kernel
theorem dL_law_167 : decode cL_law 167 = .ok (.bipush 32, 2) := by decide +kernel
theorem dL_law_169 : decode cL_law 169 = .ok (.lshl, 1) := by decide +kernel
theorem dL_law_170 : decode cL_law 170 = .ok (.aload_n 0, 1) := by decide +kernel
theorem dL_law_171 : decode cL_law 171 = .ok (.iload 4, 2) := by decide +kernel
theorem dL_law_173 : decode cL_law 173 = .ok (.iconst 2, 1) := by decide +kernel
theorem dL_law_174 : decode cL_law 174 = .ok (.iadd, 1) := by decide +kernel
theorem dL_law_175 : decode cL_law 175 = .ok (.iaload, 1) := by decide +kernel
theorem dL_law_176 : decode cL_law 176 = .ok (.i2l, 1) := by decide +kernel
theorem dL_law_177 : decode cL_law 177 = .ok (.ldc2_w 62, 3) := by decide +kernel
theorem dL_law_180 : decode cL_law 180 = .ok (.land, 1) := by decide +kernel
theorem dL_law_181 : decode cL_law 181 = .ok (.lor, 1) := by decide +kernel
theorem dL_law_182 : decode cL_law 182 = .ok (.aload_n 0, 1) := by decide +kernel
theorem dL_law_183 : decode cL_law 183 = .ok (.iload 4, 2) := by decide +kernel
theorem dL_law_185 : decode cL_law 185 = .ok (.iconst 3, 1) := by decide +kernel
theorem dL_law_186 : decode cL_law 186 = .ok (.iadd, 1) := by decide +kernel
theorem dL_law_187 : decode cL_law 187 = .ok (.iaload, 1) := by decide +kernel
theorem dL_law_188 : decode cL_law 188 = .ok (.invokevirtual 69, 3) := by decide +kernel
theorem dL_law_191 : decode cL_law 191 = .ok (.istore 6, 2) := by decide +kernel
theorem dL_law_193 : decode cL_law 193 = .ok (.goto 492, 3) := by decide +kernel
theorem dL_law_196 : decode cL_law 196 = .ok (.aload_n 1, 1) := by decide +kernel
theorem dL_law_197 : decode cL_law 197 = .ok (.aload_n 0, 1) := by decide +kernel
theorem dL_law_198 : decode cL_law 198 = .ok (.iload 4, 2) := by decide +kernel
theorem dL_law_200 : decode cL_law 200 = .ok (.iconst 1, 1) := by decide +kernel
theorem dL_law_201 : decode cL_law 201 = .ok (.iadd, 1) := by decide +kernel
theorem dL_law_202 : decode cL_law 202 = .ok (.iaload, 1) := by decide +kernel
theorem dL_law_203 : decode cL_law 203 = .ok (.invokestatic 70, 3) := by decide +kernel
theorem dL_law_206 : decode cL_law 206 = .ok (.istore 5, 2) := by decide +kernel
theorem dL_law_208 : decode cL_law 208 = .ok (.aload_n 2, 1) := by decide +kernel
theorem dL_law_209 : decode cL_law 209 = .ok (.aload_n 0, 1) := by decide +kernel
theorem dL_law_210 : decode cL_law 210 = .ok (.iload 4, 2) := by decide +kernel
theorem dL_law_212 : decode cL_law 212 = .ok (.iconst 1, 1) := by decide +kernel
theorem dL_law_213 : decode cL_law 213 = .ok (.iadd, 1) := by decide +kernel
theorem dL_law_214 : decode cL_law 214 = .ok (.iaload, 1) := by decide +kernel
theorem dL_law_215 : decode cL_law 215 = .ok (.invokevirtual 73, 3) := by decide +kernel
theorem dL_law_218 : decode cL_law 218 = .ok (.goto 467, 3) := by decide +kernel
theorem dL_law_221 : decode cL_law 221 = .ok (.aload_n 1, 1) := by decide +kernel
theorem dL_law_222 : decode cL_law 222 = .ok (.aload_n 0, 1) := by decide +kernel
theorem dL_law_223 : decode cL_law 223 = .ok (.iload 4, 2) := by decide +kernel
theorem dL_law_225 : decode cL_law 225 = .ok (.iconst 1, 1) := by decide +kernel
theorem dL_law_226 : decode cL_law 226 = .ok (.iadd, 1) := by decide +kernel
theorem dL_law_227 : decode cL_law 227 = .ok (.iaload, 1) := by decide +kernel
theorem dL_law_228 : decode cL_law 228 = .ok (.aload_n 3, 1) := by decide +kernel
theorem dL_law_229 : decode cL_law 229 = .ok (.invokestatic 74, 3) := by decide +kernel
theorem dL_law_232 : decode cL_law 232 = .ok (.istore 5, 2) := by decide +kernel
theorem dL_law_234 : decode cL_law 234 = .ok (.aload_n 2, 1) := by decide +kernel
theorem dL_law_235 : decode cL_law 235 = .ok (.aload_n 0, 1) := by decide +kernel
theorem dL_law_236 : decode cL_law 236 = .ok (.iload 4, 2) := by decide +kernel
theorem dL_law_238 : decode cL_law 238 = .ok (.iconst 1, 1) := by decide +kernel
theorem dL_law_239 : decode cL_law 239 = .ok (.iadd, 1) := by decide +kernel
theorem dL_law_240 : decode cL_law 240 = .ok (.iaload, 1) := by decide +kernel
theorem dL_law_241 : decode cL_law 241 = .ok (.invokevirtual 77, 3) := by decide +kernel
theorem dL_law_244 : decode cL_law 244 = .ok (.istore 6, 2) := by decide +kernel
theorem dL_law_246 : decode cL_law 246 = .ok (.goto 439, 3) := by decide +kernel
theorem dL_law_249 : decode cL_law 249 = .ok (.aload_n 1, 1) := by decide +kernel
theorem dL_law_250 : decode cL_law 250 = .ok (.aload_n 0, 1) := by decide +kernel
theorem dL_law_251 : decode cL_law 251 = .ok (.iload 4, 2) := by decide +kernel
theorem dL_law_253 : decode cL_law 253 = .ok (.iconst 1, 1) := by decide +kernel
theorem dL_law_254 : decode cL_law 254 = .ok (.iadd, 1) := by decide +kernel
theorem dL_law_255 : decode cL_law 255 = .ok (.iaload, 1) := by decide +kernel
theorem dL_law_256 : decode cL_law 256 = .ok (.aload_n 0, 1) := by decide +kernel
theorem dL_law_257 : decode cL_law 257 = .ok (.iload 4, 2) := by decide +kernel
theorem dL_law_259 : decode cL_law 259 = .ok (.iconst 2, 1) := by decide +kernel
theorem dL_law_260 : decode cL_law 260 = .ok (.iadd, 1) := by decide +kernel
theorem dL_law_261 : decode cL_law 261 = .ok (.iaload, 1) := by decide +kernel
theorem dL_law_262 : decode cL_law 262 = .ok (.aload_n 0, 1) := by decide +kernel
theorem dL_law_263 : decode cL_law 263 = .ok (.iload 4, 2) := by decide +kernel
theorem dL_law_265 : decode cL_law 265 = .ok (.iconst 3, 1) := by decide +kernel
theorem dL_law_266 : decode cL_law 266 = .ok (.iadd, 1) := by decide +kernel
theorem dL_law_267 : decode cL_law 267 = .ok (.iaload, 1) := by decide +kernel
theorem dL_law_268 : decode cL_law 268 = .ok (.aload_n 0, 1) := by decide +kernel
theorem dL_law_269 : decode cL_law 269 = .ok (.iload 4, 2) := by decide +kernel
theorem dL_law_271 : decode cL_law 271 = .ok (.iconst 4, 1) := by decide +kernel
theorem dL_law_272 : decode cL_law 272 = .ok (.iadd, 1) := by decide +kernel
theorem dL_law_273 : decode cL_law 273 = .ok (.iaload, 1) := by decide +kernel
theorem dL_law_274 : decode cL_law 274 = .ok (.aload_n 0, 1) := by decide +kernel
theorem dL_law_275 : decode cL_law 275 = .ok (.iload 4, 2) := by decide +kernel
theorem dL_law_277 : decode cL_law 277 = .ok (.iconst 5, 1) := by decide +kernel
theorem dL_law_278 : decode cL_law 278 = .ok (.iadd, 1) := by decide +kernel
theorem dL_law_279 : decode cL_law 279 = .ok (.iaload, 1) := by decide +kernel
theorem dL_law_280 : decode cL_law 280 = .ok (.aload_n 0, 1) := by decide +kernel
theorem dL_law_281 : decode cL_law 281 = .ok (.iload 4, 2) := by decide +kernel
theorem dL_law_283 : decode cL_law 283 = .ok (.bipush 6, 2) := by decide +kernel
theorem dL_law_285 : decode cL_law 285 = .ok (.iadd, 1) := by decide +kernel
theorem dL_law_286 : decode cL_law 286 = .ok (.iaload, 1) := by decide +kernel
theorem dL_law_287 : decode cL_law 287 = .ok (.invokestatic 78, 3) := by decide +kernel
theorem dL_law_290 : decode cL_law 290 = .ok (.istore 5, 2) := by decide +kernel
theorem dL_law_292 : decode cL_law 292 = .ok (.aload_n 2, 1) := by decide +kernel
theorem dL_law_293 : decode cL_law 293 = .ok (.aload_n 0, 1) := by decide +kernel
theorem dL_law_294 : decode cL_law 294 = .ok (.iload 4, 2) := by decide +kernel
theorem dL_law_296 : decode cL_law 296 = .ok (.iconst 1, 1) := by decide +kernel
theorem dL_law_297 : decode cL_law 297 = .ok (.iadd, 1) := by decide +kernel
theorem dL_law_298 : decode cL_law 298 = .ok (.iaload, 1) := by decide +kernel
theorem dL_law_299 : decode cL_law 299 = .ok (.aload_n 0, 1) := by decide +kernel
theorem dL_law_300 : decode cL_law 300 = .ok (.iload 4, 2) := by decide +kernel
theorem dL_law_302 : decode cL_law 302 = .ok (.iconst 2, 1) := by decide +kernel
theorem dL_law_303 : decode cL_law 303 = .ok (.iadd, 1) := by decide +kernel
theorem dL_law_304 : decode cL_law 304 = .ok (.iaload, 1) := by decide +kernel
theorem dL_law_305 : decode cL_law 305 = .ok (.aload_n 0, 1) := by decide +kernel
theorem dL_law_306 : decode cL_law 306 = .ok (.iload 4, 2) := by decide +kernel
theorem dL_law_308 : decode cL_law 308 = .ok (.iconst 3, 1) := by decide +kernel
theorem dL_law_309 : decode cL_law 309 = .ok (.iadd, 1) := by decide +kernel
theorem dL_law_310 : decode cL_law 310 = .ok (.iaload, 1) := by decide +kernel
theorem dL_law_311 : decode cL_law 311 = .ok (.aload_n 0, 1) := by decide +kernel
theorem dL_law_312 : decode cL_law 312 = .ok (.iload 4, 2) := by decide +kernel
theorem dL_law_314 : decode cL_law 314 = .ok (.iconst 4, 1) := by decide +kernel
theorem dL_law_315 : decode cL_law 315 = .ok (.iadd, 1) := by decide +kernel
theorem dL_law_316 : decode cL_law 316 = .ok (.iaload, 1) := by decide +kernel
theorem dL_law_317 : decode cL_law 317 = .ok (.aload_n 0, 1) := by decide +kernel
theorem dL_law_318 : decode cL_law 318 = .ok (.iload 4, 2) := by decide +kernel
theorem dL_law_320 : decode cL_law 320 = .ok (.iconst 5, 1) := by decide +kernel
theorem dL_law_321 : decode cL_law 321 = .ok (.iadd, 1) := by decide +kernel
theorem dL_law_322 : decode cL_law 322 = .ok (.iaload, 1) := by decide +kernel
theorem dL_law_323 : decode cL_law 323 = .ok (.aload_n 0, 1) := by decide +kernel
theorem dL_law_324 : decode cL_law 324 = .ok (.iload 4, 2) := by decide +kernel
theorem dL_law_326 : decode cL_law 326 = .ok (.bipush 6, 2) := by decide +kernel
theorem dL_law_328 : decode cL_law 328 = .ok (.iadd, 1) := by decide +kernel
theorem dL_law_329 : decode cL_law 329 = .ok (.iaload, 1) := by decide +kernel
theorem dL_law_330 : decode cL_law 330 = .ok (.invokevirtual 81, 3) := by decide +kernel
theorem dL_law_333 : decode cL_law 333 = .ok (.goto 352, 3) := by decide +kernel
theorem dL_law_336 : decode cL_law 336 = .ok (.aload_n 1, 1) := by decide +kernel
theorem dL_law_337 : decode cL_law 337 = .ok (.aload_n 0, 1) := by decide +kernel
theorem dL_law_338 : decode cL_law 338 = .ok (.iload 4, 2) := by decide +kernel
theorem dL_law_340 : decode cL_law 340 = .ok (.iconst 1, 1) := by decide +kernel
theorem dL_law_341 : decode cL_law 341 = .ok (.iadd, 1) := by decide +kernel
theorem dL_law_342 : decode cL_law 342 = .ok (.iaload, 1) := by decide +kernel
theorem dL_law_343 : decode cL_law 343 = .ok (.aload_n 3, 1) := by decide +kernel
theorem dL_law_344 : decode cL_law 344 = .ok (.invokestatic 82, 3) := by decide +kernel
theorem dL_law_347 : decode cL_law 347 = .ok (.istore 5, 2) := by decide +kernel
theorem dL_law_349 : decode cL_law 349 = .ok (.aload_n 2, 1) := by decide +kernel
theorem dL_law_350 : decode cL_law 350 = .ok (.aload_n 0, 1) := by decide +kernel
theorem dL_law_351 : decode cL_law 351 = .ok (.iload 4, 2) := by decide +kernel
theorem dL_law_353 : decode cL_law 353 = .ok (.iconst 1, 1) := by decide +kernel
theorem dL_law_354 : decode cL_law 354 = .ok (.iadd, 1) := by decide +kernel
theorem dL_law_355 : decode cL_law 355 = .ok (.iaload, 1) := by decide +kernel
theorem dL_law_356 : decode cL_law 356 = .ok (.invokevirtual 84, 3) := by decide +kernel
theorem dL_law_359 : decode cL_law 359 = .ok (.istore 6, 2) := by decide +kernel
theorem dL_law_361 : decode cL_law 361 = .ok (.goto 324, 3) := by decide +kernel
theorem dL_law_364 : decode cL_law 364 = .ok (.aload_n 1, 1) := by decide +kernel
theorem dL_law_365 : decode cL_law 365 = .ok (.aload_n 0, 1) := by decide +kernel
theorem dL_law_366 : decode cL_law 366 = .ok (.iload 4, 2) := by decide +kernel
theorem dL_law_368 : decode cL_law 368 = .ok (.iconst 1, 1) := by decide +kernel
theorem dL_law_369 : decode cL_law 369 = .ok (.iadd, 1) := by decide +kernel
theorem dL_law_370 : decode cL_law 370 = .ok (.iaload, 1) := by decide +kernel
theorem dL_law_371 : decode cL_law 371 = .ok (.aload_n 0, 1) := by decide +kernel
theorem dL_law_372 : decode cL_law 372 = .ok (.iload 4, 2) := by decide +kernel
theorem dL_law_374 : decode cL_law 374 = .ok (.iconst 2, 1) := by decide +kernel
theorem dL_law_375 : decode cL_law 375 = .ok (.iadd, 1) := by decide +kernel
theorem dL_law_376 : decode cL_law 376 = .ok (.iaload, 1) := by decide +kernel
theorem dL_law_377 : decode cL_law 377 = .ok (.aload_n 3, 1) := by decide +kernel
theorem dL_law_378 : decode cL_law 378 = .ok (.invokestatic 85, 3) := by decide +kernel
theorem dL_law_381 : decode cL_law 381 = .ok (.istore 5, 2) := by decide +kernel
theorem dL_law_383 : decode cL_law 383 = .ok (.aload_n 2, 1) := by decide +kernel
theorem dL_law_384 : decode cL_law 384 = .ok (.aload_n 0, 1) := by decide +kernel
theorem dL_law_385 : decode cL_law 385 = .ok (.iload 4, 2) := by decide +kernel
theorem dL_law_387 : decode cL_law 387 = .ok (.iconst 1, 1) := by decide +kernel
theorem dL_law_388 : decode cL_law 388 = .ok (.iadd, 1) := by decide +kernel
theorem dL_law_389 : decode cL_law 389 = .ok (.iaload, 1) := by decide +kernel
theorem dL_law_390 : decode cL_law 390 = .ok (.aload_n 0, 1) := by decide +kernel
theorem dL_law_391 : decode cL_law 391 = .ok (.iload 4, 2) := by decide +kernel
theorem dL_law_393 : decode cL_law 393 = .ok (.iconst 2, 1) := by decide +kernel
theorem dL_law_394 : decode cL_law 394 = .ok (.iadd, 1) := by decide +kernel
theorem dL_law_395 : decode cL_law 395 = .ok (.iaload, 1) := by decide +kernel
theorem dL_law_396 : decode cL_law 396 = .ok (.invokevirtual 88, 3) := by decide +kernel
theorem dL_law_399 : decode cL_law 399 = .ok (.istore 6, 2) := by decide +kernel
theorem dL_law_401 : decode cL_law 401 = .ok (.goto 284, 3) := by decide +kernel
theorem dL_law_404 : decode cL_law 404 = .ok (.aload_n 1, 1) := by decide +kernel
theorem dL_law_405 : decode cL_law 405 = .ok (.aload_n 0, 1) := by decide +kernel
theorem dL_law_406 : decode cL_law 406 = .ok (.iload 4, 2) := by decide +kernel
theorem dL_law_408 : decode cL_law 408 = .ok (.iconst 1, 1) := by decide +kernel
theorem dL_law_409 : decode cL_law 409 = .ok (.iadd, 1) := by decide +kernel
theorem dL_law_410 : decode cL_law 410 = .ok (.iaload, 1) := by decide +kernel
theorem dL_law_411 : decode cL_law 411 = .ok (.aload_n 0, 1) := by decide +kernel
theorem dL_law_412 : decode cL_law 412 = .ok (.iload 4, 2) := by decide +kernel
theorem dL_law_414 : decode cL_law 414 = .ok (.iconst 2, 1) := by decide +kernel
theorem dL_law_415 : decode cL_law 415 = .ok (.iadd, 1) := by decide +kernel
theorem dL_law_416 : decode cL_law 416 = .ok (.iaload, 1) := by decide +kernel
theorem dL_law_417 : decode cL_law 417 = .ok (.aload_n 3, 1) := by decide +kernel
theorem dL_law_418 : decode cL_law 418 = .ok (.invokestatic 89, 3) := by decide +kernel
theorem dL_law_421 : decode cL_law 421 = .ok (.istore 5, 2) := by decide +kernel
theorem dL_law_423 : decode cL_law 423 = .ok (.aload_n 2, 1) := by decide +kernel
theorem dL_law_424 : decode cL_law 424 = .ok (.aload_n 0, 1) := by decide +kernel
theorem dL_law_425 : decode cL_law 425 = .ok (.iload 4, 2) := by decide +kernel
theorem dL_law_427 : decode cL_law 427 = .ok (.iconst 1, 1) := by decide +kernel
theorem dL_law_428 : decode cL_law 428 = .ok (.iadd, 1) := by decide +kernel
theorem dL_law_429 : decode cL_law 429 = .ok (.iaload, 1) := by decide +kernel
theorem dL_law_430 : decode cL_law 430 = .ok (.aload_n 0, 1) := by decide +kernel
theorem dL_law_431 : decode cL_law 431 = .ok (.iload 4, 2) := by decide +kernel
theorem dL_law_433 : decode cL_law 433 = .ok (.iconst 2, 1) := by decide +kernel
theorem dL_law_434 : decode cL_law 434 = .ok (.iadd, 1) := by decide +kernel
theorem dL_law_435 : decode cL_law 435 = .ok (.iaload, 1) := by decide +kernel
theorem dL_law_436 : decode cL_law 436 = .ok (.invokevirtual 91, 3) := by decide +kernel
theorem dL_law_439 : decode cL_law 439 = .ok (.istore 6, 2) := by decide +kernel
theorem dL_law_441 : decode cL_law 441 = .ok (.goto 244, 3) := by decide +kernel
theorem dL_law_444 : decode cL_law 444 = .ok (.aload_n 1, 1) := by decide +kernel
theorem dL_law_445 : decode cL_law 445 = .ok (.invokevirtual 92, 3) := by decide +kernel
theorem dL_law_448 : decode cL_law 448 = .ok (.aload_n 2, 1) := by decide +kernel
theorem dL_law_449 : decode cL_law 449 = .ok (.invokevirtual 96, 3) := by decide +kernel
theorem dL_law_452 : decode cL_law 452 = .ok (.if_icmp .eq 233, 3) := by decide +kernel
theorem dL_law_455 : decode cL_law 455 = .ok (.iconst 0, 1) := by decide +kernel
theorem dL_law_456 : decode cL_law 456 = .ok (.ireturn, 1) := by decide +kernel
theorem dL_law_457 : decode cL_law 457 = .ok (.aload_n 1, 1) := by decide +kernel
theorem dL_law_458 : decode cL_law 458 = .ok (.invokevirtual 97, 3) := by decide +kernel
theorem dL_law_461 : decode cL_law 461 = .ok (.pop, 1) := by decide +kernel
theorem dL_law_462 : decode cL_law 462 = .ok (.aload_n 2, 1) := by decide +kernel
theorem dL_law_463 : decode cL_law 463 = .ok (.invokevirtual 100, 3) := by decide +kernel
theorem dL_law_466 : decode cL_law 466 = .ok (.pop, 1) := by decide +kernel
theorem dL_law_467 : decode cL_law 467 = .ok (.goto 218, 3) := by decide +kernel
theorem dL_law_470 : decode cL_law 470 = .ok (.aload_n 1, 1) := by decide +kernel
theorem dL_law_471 : decode cL_law 471 = .ok (.aload_n 0, 1) := by decide +kernel
theorem dL_law_472 : decode cL_law 472 = .ok (.iload 4, 2) := by decide +kernel
theorem dL_law_474 : decode cL_law 474 = .ok (.iconst 1, 1) := by decide +kernel
theorem dL_law_475 : decode cL_law 475 = .ok (.iadd, 1) := by decide +kernel
theorem dL_law_476 : decode cL_law 476 = .ok (.iaload, 1) := by decide +kernel
theorem dL_law_477 : decode cL_law 477 = .ok (.aload_n 0, 1) := by decide +kernel
theorem dL_law_478 : decode cL_law 478 = .ok (.iload 4, 2) := by decide +kernel
theorem dL_law_480 : decode cL_law 480 = .ok (.iconst 2, 1) := by decide +kernel
theorem dL_law_481 : decode cL_law 481 = .ok (.iadd, 1) := by decide +kernel
theorem dL_law_482 : decode cL_law 482 = .ok (.iaload, 1) := by decide +kernel
theorem dL_law_483 : decode cL_law 483 = .ok (.aload_n 3, 1) := by decide +kernel
theorem dL_law_484 : decode cL_law 484 = .ok (.invokestatic 101, 3) := by decide +kernel
theorem dL_law_487 : decode cL_law 487 = .ok (.istore 5, 2) := by decide +kernel
theorem dL_law_489 : decode cL_law 489 = .ok (.aload_n 2, 1) := by decide +kernel
theorem dL_law_490 : decode cL_law 490 = .ok (.aload_n 0, 1) := by decide +kernel
theorem dL_law_491 : decode cL_law 491 = .ok (.iload 4, 2) := by decide +kernel
theorem dL_law_493 : decode cL_law 493 = .ok (.iconst 1, 1) := by decide +kernel
theorem dL_law_494 : decode cL_law 494 = .ok (.iadd, 1) := by decide +kernel
theorem dL_law_495 : decode cL_law 495 = .ok (.iaload, 1) := by decide +kernel
theorem dL_law_496 : decode cL_law 496 = .ok (.aload_n 0, 1) := by decide +kernel
theorem dL_law_497 : decode cL_law 497 = .ok (.iload 4, 2) := by decide +kernel
theorem dL_law_499 : decode cL_law 499 = .ok (.iconst 2, 1) := by decide +kernel
theorem dL_law_500 : decode cL_law 500 = .ok (.iadd, 1) := by decide +kernel
theorem dL_law_501 : decode cL_law 501 = .ok (.iaload, 1) := by decide +kernel
theorem dL_law_502 : decode cL_law 502 = .ok (.invokevirtual 103, 3) := by decide +kernel
theorem dL_law_505 : decode cL_law 505 = .ok (.istore 6, 2) := by decide +kernel
theorem dL_law_507 : decode cL_law 507 = .ok (.goto 178, 3) := by decide +kernel
theorem dL_law_510 : decode cL_law 510 = .ok (.aload_n 1, 1) := by decide +kernel
theorem dL_law_511 : decode cL_law 511 = .ok (.aload_n 0, 1) := by decide +kernel
theorem dL_law_512 : decode cL_law 512 = .ok (.iload 4, 2) := by decide +kernel
theorem dL_law_514 : decode cL_law 514 = .ok (.iconst 1, 1) := by decide +kernel
theorem dL_law_515 : decode cL_law 515 = .ok (.iadd, 1) := by decide +kernel
theorem dL_law_516 : decode cL_law 516 = .ok (.iaload, 1) := by decide +kernel
theorem dL_law_517 : decode cL_law 517 = .ok (.aload_n 3, 1) := by decide +kernel
theorem dL_law_518 : decode cL_law 518 = .ok (.invokestatic 104, 3) := by decide +kernel
theorem dL_law_521 : decode cL_law 521 = .ok (.istore 5, 2) := by decide +kernel
theorem dL_law_523 : decode cL_law 523 = .ok (.aload_n 2, 1) := by decide +kernel
theorem dL_law_524 : decode cL_law 524 = .ok (.aload_n 0, 1) := by decide +kernel
theorem dL_law_525 : decode cL_law 525 = .ok (.iload 4, 2) := by decide +kernel
theorem dL_law_527 : decode cL_law 527 = .ok (.iconst 1, 1) := by decide +kernel
theorem dL_law_528 : decode cL_law 528 = .ok (.iadd, 1) := by decide +kernel
theorem dL_law_529 : decode cL_law 529 = .ok (.iaload, 1) := by decide +kernel
theorem dL_law_530 : decode cL_law 530 = .ok (.invokevirtual 106, 3) := by decide +kernel
theorem dL_law_533 : decode cL_law 533 = .ok (.istore 6, 2) := by decide +kernel
theorem dL_law_535 : decode cL_law 535 = .ok (.goto 150, 3) := by decide +kernel
theorem dL_law_538 : decode cL_law 538 = .ok (.aload_n 1, 1) := by decide +kernel
theorem dL_law_539 : decode cL_law 539 = .ok (.invokevirtual 107, 3) := by decide +kernel
theorem dL_law_542 : decode cL_law 542 = .ok (.pop, 1) := by decide +kernel
theorem dL_law_543 : decode cL_law 543 = .ok (.aload_n 2, 1) := by decide +kernel
theorem dL_law_544 : decode cL_law 544 = .ok (.invokevirtual 110, 3) := by decide +kernel
theorem dL_law_547 : decode cL_law 547 = .ok (.pop, 1) := by decide +kernel
theorem dL_law_548 : decode cL_law 548 = .ok (.goto 137, 3) := by decide +kernel
theorem dL_law_551 : decode cL_law 551 = .ok (.aload_n 1, 1) := by decide +kernel
theorem dL_law_552 : decode cL_law 552 = .ok (.invokevirtual 111, 3) := by decide +kernel
theorem dL_law_555 : decode cL_law 555 = .ok (.pop, 1) := by decide +kernel
theorem dL_law_556 : decode cL_law 556 = .ok (.aload_n 2, 1) := by decide +kernel
theorem dL_law_557 : decode cL_law 557 = .ok (.invokevirtual 114, 3) := by decide +kernel
theorem dL_law_560 : decode cL_law 560 = .ok (.pop, 1) := by decide +kernel
theorem dL_law_561 : decode cL_law 561 = .ok (.goto 124, 3) := by decide +kernel
theorem dL_law_564 : decode cL_law 564 = .ok (.aload_n 1, 1) := by decide +kernel
theorem dL_law_565 : decode cL_law 565 = .ok (.invokevirtual 115, 3) := by decide +kernel
theorem dL_law_568 : decode cL_law 568 = .ok (.pop, 1) := by decide +kernel
theorem dL_law_569 : decode cL_law 569 = .ok (.aload_n 2, 1) := by decide +kernel
theorem dL_law_570 : decode cL_law 570 = .ok (.invokevirtual 118, 3) := by decide +kernel
theorem dL_law_573 : decode cL_law 573 = .ok (.pop, 1) := by decide +kernel
theorem dL_law_574 : decode cL_law 574 = .ok (.goto 111, 3) := by decide +kernel
theorem dL_law_577 : decode cL_law 577 = .ok (.aload_n 1, 1) := by decide +kernel
theorem dL_law_578 : decode cL_law 578 = .ok (.aload_n 0, 1) := by decide +kernel
theorem dL_law_579 : decode cL_law 579 = .ok (.iload 4, 2) := by decide +kernel
theorem dL_law_581 : decode cL_law 581 = .ok (.iconst 1, 1) := by decide +kernel
theorem dL_law_582 : decode cL_law 582 = .ok (.iadd, 1) := by decide +kernel
theorem dL_law_583 : decode cL_law 583 = .ok (.iaload, 1) := by decide +kernel
theorem dL_law_584 : decode cL_law 584 = .ok (.aload_n 0, 1) := by decide +kernel
theorem dL_law_585 : decode cL_law 585 = .ok (.iload 4, 2) := by decide +kernel
theorem dL_law_587 : decode cL_law 587 = .ok (.iconst 2, 1) := by decide +kernel
theorem dL_law_588 : decode cL_law 588 = .ok (.iadd, 1) := by decide +kernel
theorem dL_law_589 : decode cL_law 589 = .ok (.iaload, 1) := by decide +kernel
theorem dL_law_590 : decode cL_law 590 = .ok (.aload_n 3, 1) := by decide +kernel
theorem dL_law_591 : decode cL_law 591 = .ok (.invokestatic 119, 3) := by decide +kernel
theorem dL_law_594 : decode cL_law 594 = .ok (.istore 5, 2) := by decide +kernel
theorem dL_law_596 : decode cL_law 596 = .ok (.aload_n 2, 1) := by decide +kernel
theorem dL_law_597 : decode cL_law 597 = .ok (.aload_n 0, 1) := by decide +kernel
theorem dL_law_598 : decode cL_law 598 = .ok (.iload 4, 2) := by decide +kernel
theorem dL_law_600 : decode cL_law 600 = .ok (.iconst 1, 1) := by decide +kernel
theorem dL_law_601 : decode cL_law 601 = .ok (.iadd, 1) := by decide +kernel
theorem dL_law_602 : decode cL_law 602 = .ok (.iaload, 1) := by decide +kernel
theorem dL_law_603 : decode cL_law 603 = .ok (.aload_n 0, 1) := by decide +kernel
theorem dL_law_604 : decode cL_law 604 = .ok (.iload 4, 2) := by decide +kernel
theorem dL_law_606 : decode cL_law 606 = .ok (.iconst 2, 1) := by decide +kernel
theorem dL_law_607 : decode cL_law 607 = .ok (.iadd, 1) := by decide +kernel
theorem dL_law_608 : decode cL_law 608 = .ok (.iaload, 1) := by decide +kernel
theorem dL_law_609 : decode cL_law 609 = .ok (.invokevirtual 121, 3) := by decide +kernel
theorem dL_law_612 : decode cL_law 612 = .ok (.lstore 6, 2) := by decide +kernel
theorem dL_law_614 : decode cL_law 614 = .ok (.goto 71, 3) := by decide +kernel
theorem dL_law_617 : decode cL_law 617 = .ok (.aload_n 1, 1) := by decide +kernel
theorem dL_law_618 : decode cL_law 618 = .ok (.aload_n 0, 1) := by decide +kernel
theorem dL_law_619 : decode cL_law 619 = .ok (.iload 4, 2) := by decide +kernel
theorem dL_law_621 : decode cL_law 621 = .ok (.iconst 1, 1) := by decide +kernel
theorem dL_law_622 : decode cL_law 622 = .ok (.iadd, 1) := by decide +kernel
theorem dL_law_623 : decode cL_law 623 = .ok (.iaload, 1) := by decide +kernel
theorem dL_law_624 : decode cL_law 624 = .ok (.aload_n 0, 1) := by decide +kernel
theorem dL_law_625 : decode cL_law 625 = .ok (.iload 4, 2) := by decide +kernel
theorem dL_law_627 : decode cL_law 627 = .ok (.iconst 2, 1) := by decide +kernel
theorem dL_law_628 : decode cL_law 628 = .ok (.iadd, 1) := by decide +kernel
theorem dL_law_629 : decode cL_law 629 = .ok (.iaload, 1) := by decide +kernel
theorem dL_law_630 : decode cL_law 630 = .ok (.aload_n 3, 1) := by decide +kernel
theorem dL_law_631 : decode cL_law 631 = .ok (.invokestatic 122, 3) := by decide +kernel
theorem dL_law_634 : decode cL_law 634 = .ok (.istore 5, 2) := by decide +kernel
theorem dL_law_636 : decode cL_law 636 = .ok (.aload_n 2, 1) := by decide +kernel
theorem dL_law_637 : decode cL_law 637 = .ok (.aload_n 0, 1) := by decide +kernel
theorem dL_law_638 : decode cL_law 638 = .ok (.iload 4, 2) := by decide +kernel
theorem dL_law_640 : decode cL_law 640 = .ok (.iconst 1, 1) := by decide +kernel
theorem dL_law_641 : decode cL_law 641 = .ok (.iadd, 1) := by decide +kernel
theorem dL_law_642 : decode cL_law 642 = .ok (.iaload, 1) := by decide +kernel
theorem dL_law_643 : decode cL_law 643 = .ok (.aload_n 0, 1) := by decide +kernel
theorem dL_law_644 : decode cL_law 644 = .ok (.iload 4, 2) := by decide +kernel
theorem dL_law_646 : decode cL_law 646 = .ok (.iconst 2, 1) := by decide +kernel
theorem dL_law_647 : decode cL_law 647 = .ok (.iadd, 1) := by decide +kernel
theorem dL_law_648 : decode cL_law 648 = .ok (.iaload, 1) := by decide +kernel
theorem dL_law_649 : decode cL_law 649 = .ok (.invokevirtual 124, 3) := by decide +kernel
theorem dL_law_652 : decode cL_law 652 = .ok (.istore 6, 2) := by decide +kernel
theorem dL_law_654 : decode cL_law 654 = .ok (.goto 31, 3) := by decide +kernel
theorem dL_law_657 : decode cL_law 657 = .ok (.aload_n 1, 1) := by decide +kernel
theorem dL_law_658 : decode cL_law 658 = .ok (.aload_n 0, 1) := by decide +kernel
theorem dL_law_659 : decode cL_law 659 = .ok (.iload 4, 2) := by decide +kernel
theorem dL_law_661 : decode cL_law 661 = .ok (.iconst 1, 1) := by decide +kernel
theorem dL_law_662 : decode cL_law 662 = .ok (.iadd, 1) := by decide +kernel
theorem dL_law_663 : decode cL_law 663 = .ok (.iaload, 1) := by decide +kernel
theorem dL_law_664 : decode cL_law 664 = .ok (.aload_n 3, 1) := by decide +kernel
theorem dL_law_665 : decode cL_law 665 = .ok (.invokestatic 125, 3) := by decide +kernel
theorem dL_law_668 : decode cL_law 668 = .ok (.istore 5, 2) := by decide +kernel
theorem dL_law_670 : decode cL_law 670 = .ok (.aload_n 2, 1) := by decide +kernel
theorem dL_law_671 : decode cL_law 671 = .ok (.aload_n 0, 1) := by decide +kernel
theorem dL_law_672 : decode cL_law 672 = .ok (.iload 4, 2) := by decide +kernel
theorem dL_law_674 : decode cL_law 674 = .ok (.iconst 1, 1) := by decide +kernel
theorem dL_law_675 : decode cL_law 675 = .ok (.iadd, 1) := by decide +kernel
theorem dL_law_676 : decode cL_law 676 = .ok (.iaload, 1) := by decide +kernel
theorem dL_law_677 : decode cL_law 677 = .ok (.invokevirtual 127, 3) := by decide +kernel
theorem dL_law_680 : decode cL_law 680 = .ok (.istore 6, 2) := by decide +kernel
theorem dL_law_682 : decode cL_law 682 = .ok (.goto 3, 3) := by decide +kernel
theorem dL_law_685 : decode cL_law 685 = .ok (.iinc 4 7, 3) := by decide +kernel
theorem dL_law_688 : decode cL_law 688 = .ok (.goto (-665), 3) := by decide +kernel
theorem dL_law_691 : decode cL_law 691 = .ok (.iconst 1, 1) := by decide +kernel
theorem dL_law_692 : decode cL_law 692 = .ok (.ireturn, 1) := by decide +kernel
end
