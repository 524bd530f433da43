/-! The instructions of the class, decoded. By program (wip/mkdec.py). -/
theorem dX3_init_0 : decode cX3_init 0 = .ok (.aload_n 0, 1) := by decide +kernel
theorem dX3_init_1 : decode cX3_init 1 = .ok (.invokespecial 3, 3) := by decide +kernel
theorem dX3_init_4 : decode cX3_init 4 = .ok (.aload_n 0, 1) := by decide +kernel
theorem dX3_init_5 : decode cX3_init 5 = .ok (.lconst 0, 1) := by decide +kernel
theorem dX3_init_6 : decode cX3_init 6 = .ok (.putfield 9, 3) := by decide +kernel
theorem dX3_init_9 : decode cX3_init 9 = .ok (.aload_n 0, 1) := by decide +kernel
theorem dX3_init_10 : decode cX3_init 10 = .ok (.iconst 0, 1) := by decide +kernel
theorem dX3_init_11 : decode cX3_init 11 = .ok (.putfield 15, 3) := by decide +kernel
theorem dX3_init_14 : decode cX3_init 14 = .ok (.aload_n 0, 1) := by decide +kernel
theorem dX3_init_15 : decode cX3_init 15 = .ok (.iconst 0, 1) := by decide +kernel
theorem dX3_init_16 : decode cX3_init 16 = .ok (.putfield 19, 3) := by decide +kernel
theorem dX3_init_19 : decode cX3_init 19 = .ok (.aload_n 0, 1) := by decide +kernel
theorem dX3_init_20 : decode cX3_init 20 = .ok (.lconst 0, 1) := by decide +kernel
theorem dX3_init_21 : decode cX3_init 21 = .ok (.putfield 22, 3) := by decide +kernel
theorem dX3_init_24 : decode cX3_init 24 = .ok (.aload_n 0, 1) := by decide +kernel
theorem dX3_init_25 : decode cX3_init 25 = .ok (.iconst 0, 1) := by decide +kernel
theorem dX3_init_26 : decode cX3_init 26 = .ok (.putfield 25, 3) := by decide +kernel
theorem dX3_init_29 : decode cX3_init 29 = .ok (.aload_n 0, 1) := by decide +kernel
theorem dX3_init_30 : decode cX3_init 30 = .ok (.iconst 0, 1) := by decide +kernel
theorem dX3_init_31 : decode cX3_init 31 = .ok (.putfield 28, 3) := by decide +kernel
theorem dX3_init_34 : decode cX3_init 34 = .ok (.aload_n 0, 1) := by decide +kernel
theorem dX3_init_35 : decode cX3_init 35 = .ok (.bipush 11, 2) := by decide +kernel
theorem dX3_init_37 : decode cX3_init 37 = .ok (.newarray .int, 2) := by decide +kernel
theorem dX3_init_39 : decode cX3_init 39 = .ok (.putfield 31, 3) := by decide +kernel
theorem dX3_init_42 : decode cX3_init 42 = .ok (.aload_n 0, 1) := by decide +kernel
theorem dX3_init_43 : decode cX3_init 43 = .ok (.iconst 0, 1) := by decide +kernel
theorem dX3_init_44 : decode cX3_init 44 = .ok (.putfield 35, 3) := by decide +kernel
theorem dX3_init_47 : decode cX3_init 47 = .ok (.aload_n 0, 1) := by decide +kernel
theorem dX3_init_48 : decode cX3_init 48 = .ok (.aconst_null, 1) := by decide +kernel
theorem dX3_init_49 : decode cX3_init 49 = .ok (.putfield 38, 3) := by decide +kernel
theorem dX3_init_52 : decode cX3_init 52 = .ok (.aload_n 0, 1) := by decide +kernel
theorem dX3_init_53 : decode cX3_init 53 = .ok (.iconst 0, 1) := by decide +kernel
theorem dX3_init_54 : decode cX3_init 54 = .ok (.putfield 41, 3) := by decide +kernel
theorem dX3_init_57 : decode cX3_init 57 = .ok (.return_, 1) := by decide +kernel
theorem dX3_begin_0 : decode cX3_begin 0 = .ok (.aload_n 0, 1) := by decide +kernel
theorem dX3_begin_1 : decode cX3_begin 1 = .ok (.lconst 0, 1) := by decide +kernel
theorem dX3_begin_2 : decode cX3_begin 2 = .ok (.putfield 9, 3) := by decide +kernel
theorem dX3_begin_5 : decode cX3_begin 5 = .ok (.aload_n 0, 1) := by decide +kernel
theorem dX3_begin_6 : decode cX3_begin 6 = .ok (.iload_n 1, 1) := by decide +kernel
theorem dX3_begin_7 : decode cX3_begin 7 = .ok (.bipush 15, 2) := by decide +kernel
theorem dX3_begin_9 : decode cX3_begin 9 = .ok (.iand, 1) := by decide +kernel
theorem dX3_begin_10 : decode cX3_begin 10 = .ok (.putfield 15, 3) := by decide +kernel
theorem dX3_begin_13 : decode cX3_begin 13 = .ok (.aload_n 0, 1) := by decide +kernel
theorem dX3_begin_14 : decode cX3_begin 14 = .ok (.iload_n 1, 1) := by decide +kernel
theorem dX3_begin_15 : decode cX3_begin 15 = .ok (.iconst 4, 1) := by decide +kernel
theorem dX3_begin_16 : decode cX3_begin 16 = .ok (.ishr, 1) := by decide +kernel
theorem dX3_begin_17 : decode cX3_begin 17 = .ok (.iconst 3, 1) := by decide +kernel
theorem dX3_begin_18 : decode cX3_begin 18 = .ok (.iand, 1) := by decide +kernel
theorem dX3_begin_19 : decode cX3_begin 19 = .ok (.putfield 19, 3) := by decide +kernel
theorem dX3_begin_22 : decode cX3_begin 22 = .ok (.aload_n 0, 1) := by decide +kernel
theorem dX3_begin_23 : decode cX3_begin 23 = .ok (.iload_n 1, 1) := by decide +kernel
theorem dX3_begin_24 : decode cX3_begin 24 = .ok (.bipush 6, 2) := by decide +kernel
theorem dX3_begin_26 : decode cX3_begin 26 = .ok (.ishr, 1) := by decide +kernel
theorem dX3_begin_27 : decode cX3_begin 27 = .ok (.iconst 1, 1) := by decide +kernel
theorem dX3_begin_28 : decode cX3_begin 28 = .ok (.iand, 1) := by decide +kernel
theorem dX3_begin_29 : decode cX3_begin 29 = .ok (.i2l, 1) := by decide +kernel
theorem dX3_begin_30 : decode cX3_begin 30 = .ok (.putfield 22, 3) := by decide +kernel
theorem dX3_begin_33 : decode cX3_begin 33 = .ok (.aload_n 0, 1) := by decide +kernel
theorem dX3_begin_34 : decode cX3_begin 34 = .ok (.iconst 0, 1) := by decide +kernel
theorem dX3_begin_35 : decode cX3_begin 35 = .ok (.putfield 25, 3) := by decide +kernel
theorem dX3_begin_38 : decode cX3_begin 38 = .ok (.aload_n 0, 1) := by decide +kernel
theorem dX3_begin_39 : decode cX3_begin 39 = .ok (.iconst 0, 1) := by decide +kernel
theorem dX3_begin_40 : decode cX3_begin 40 = .ok (.putfield 28, 3) := by decide +kernel
theorem dX3_begin_43 : decode cX3_begin 43 = .ok (.aload_n 0, 1) := by decide +kernel
theorem dX3_begin_44 : decode cX3_begin 44 = .ok (.iconst 0, 1) := by decide +kernel
theorem dX3_begin_45 : decode cX3_begin 45 = .ok (.putfield 35, 3) := by decide +kernel
theorem dX3_begin_48 : decode cX3_begin 48 = .ok (.aload_n 0, 1) := by decide +kernel
theorem dX3_begin_49 : decode cX3_begin 49 = .ok (.iconst 0, 1) := by decide +kernel
theorem dX3_begin_50 : decode cX3_begin 50 = .ok (.putfield 41, 3) := by decide +kernel
theorem dX3_begin_53 : decode cX3_begin 53 = .ok (.return_, 1) := by decide +kernel
theorem dX3_addDife_0 : decode cX3_addDife 0 = .ok (.aload_n 0, 1) := by decide +kernel
theorem dX3_addDife_1 : decode cX3_addDife 1 = .ok (.dup, 1) := by decide +kernel
theorem dX3_addDife_2 : decode cX3_addDife 2 = .ok (.getfield 22, 3) := by decide +kernel
theorem dX3_addDife_5 : decode cX3_addDife 5 = .ok (.iload_n 2, 1) := by decide +kernel
theorem dX3_addDife_6 : decode cX3_addDife 6 = .ok (.bipush 15, 2) := by decide +kernel
theorem dX3_addDife_8 : decode cX3_addDife 8 = .ok (.iand, 1) := by decide +kernel
theorem dX3_addDife_9 : decode cX3_addDife 9 = .ok (.i2l, 1) := by decide +kernel
theorem dX3_addDife_10 : decode cX3_addDife 10 = .ok (.iconst 1, 1) := by decide +kernel
theorem dX3_addDife_11 : decode cX3_addDife 11 = .ok (.iconst 4, 1) := by decide +kernel
theorem dX3_addDife_12 : decode cX3_addDife 12 = .ok (.iload_n 1, 1) := by decide +kernel
theorem dX3_addDife_13 : decode cX3_addDife 13 = .ok (.imul, 1) := by decide +kernel
theorem dX3_addDife_14 : decode cX3_addDife 14 = .ok (.iadd, 1) := by decide +kernel
theorem dX3_addDife_15 : decode cX3_addDife 15 = .ok (.lshl, 1) := by decide +kernel
theorem dX3_addDife_16 : decode cX3_addDife 16 = .ok (.lor, 1) := by decide +kernel
theorem dX3_addDife_17 : decode cX3_addDife 17 = .ok (.putfield 22, 3) := by decide +kernel
theorem dX3_addDife_20 : decode cX3_addDife 20 = .ok (.aload_n 0, 1) := by decide +kernel
theorem dX3_addDife_21 : decode cX3_addDife 21 = .ok (.dup, 1) := by decide +kernel
theorem dX3_addDife_22 : decode cX3_addDife 22 = .ok (.getfield 25, 3) := by decide +kernel
theorem dX3_addDife_25 : decode cX3_addDife 25 = .ok (.iload_n 2, 1) := by decide +kernel
theorem dX3_addDife_26 : decode cX3_addDife 26 = .ok (.iconst 4, 1) := by decide +kernel
theorem dX3_addDife_27 : decode cX3_addDife 27 = .ok (.ishr, 1) := by decide +kernel
theorem dX3_addDife_28 : decode cX3_addDife 28 = .ok (.iconst 3, 1) := by decide +kernel
theorem dX3_addDife_29 : decode cX3_addDife 29 = .ok (.iand, 1) := by decide +kernel
theorem dX3_addDife_30 : decode cX3_addDife 30 = .ok (.iconst 2, 1) := by decide +kernel
theorem dX3_addDife_31 : decode cX3_addDife 31 = .ok (.iload_n 1, 1) := by decide +kernel
theorem dX3_addDife_32 : decode cX3_addDife 32 = .ok (.imul, 1) := by decide +kernel
theorem dX3_addDife_33 : decode cX3_addDife 33 = .ok (.ishl, 1) := by decide +kernel
theorem dX3_addDife_34 : decode cX3_addDife 34 = .ok (.ior, 1) := by decide +kernel
theorem dX3_addDife_35 : decode cX3_addDife 35 = .ok (.putfield 25, 3) := by decide +kernel
theorem dX3_addDife_38 : decode cX3_addDife 38 = .ok (.aload_n 0, 1) := by decide +kernel
theorem dX3_addDife_39 : decode cX3_addDife 39 = .ok (.dup, 1) := by decide +kernel
theorem dX3_addDife_40 : decode cX3_addDife 40 = .ok (.getfield 28, 3) := by decide +kernel
theorem dX3_addDife_43 : decode cX3_addDife 43 = .ok (.iload_n 2, 1) := by decide +kernel
theorem dX3_addDife_44 : decode cX3_addDife 44 = .ok (.bipush 6, 2) := by decide +kernel
theorem dX3_addDife_46 : decode cX3_addDife 46 = .ok (.ishr, 1) := by decide +kernel
theorem dX3_addDife_47 : decode cX3_addDife 47 = .ok (.iconst 1, 1) := by decide +kernel
theorem dX3_addDife_48 : decode cX3_addDife 48 = .ok (.iand, 1) := by decide +kernel
theorem dX3_addDife_49 : decode cX3_addDife 49 = .ok (.iload_n 1, 1) := by decide +kernel
theorem dX3_addDife_50 : decode cX3_addDife 50 = .ok (.ishl, 1) := by decide +kernel
theorem dX3_addDife_51 : decode cX3_addDife 51 = .ok (.ior, 1) := by decide +kernel
theorem dX3_addDife_52 : decode cX3_addDife 52 = .ok (.putfield 28, 3) := by decide +kernel
theorem dX3_addDife_55 : decode cX3_addDife 55 = .ok (.return_, 1) := by decide +kernel
theorem dX3_addVif_0 : decode cX3_addVif 0 = .ok (.aload_n 0, 1) := by decide +kernel
theorem dX3_addVif_1 : decode cX3_addVif 1 = .ok (.getfield 35, 3) := by decide +kernel
theorem dX3_addVif_4 : decode cX3_addVif 4 = .ok (.aload_n 0, 1) := by decide +kernel
theorem dX3_addVif_5 : decode cX3_addVif 5 = .ok (.getfield 31, 3) := by decide +kernel
theorem dX3_addVif_8 : decode cX3_addVif 8 = .ok (.arraylength, 1) := by decide +kernel
theorem dX3_addVif_9 : decode cX3_addVif 9 = .ok (.if_icmp .ge 23, 3) := by decide +kernel
theorem dX3_addVif_12 : decode cX3_addVif 12 = .ok (.aload_n 0, 1) := by decide +kernel
theorem dX3_addVif_13 : decode cX3_addVif 13 = .ok (.getfield 31, 3) := by decide +kernel
theorem dX3_addVif_16 : decode cX3_addVif 16 = .ok (.aload_n 0, 1) := by decide +kernel
theorem dX3_addVif_17 : decode cX3_addVif 17 = .ok (.getfield 35, 3) := by decide +kernel
theorem dX3_addVif_20 : decode cX3_addVif 20 = .ok (.iload_n 1, 1) := by decide +kernel
theorem dX3_addVif_21 : decode cX3_addVif 21 = .ok (.iastore, 1) := by decide +kernel
theorem dX3_addVif_22 : decode cX3_addVif 22 = .ok (.aload_n 0, 1) := by decide +kernel
theorem dX3_addVif_23 : decode cX3_addVif 23 = .ok (.dup, 1) := by decide +kernel
theorem dX3_addVif_24 : decode cX3_addVif 24 = .ok (.getfield 35, 3) := by decide +kernel
theorem dX3_addVif_27 : decode cX3_addVif 27 = .ok (.iconst 1, 1) := by decide +kernel
theorem dX3_addVif_28 : decode cX3_addVif 28 = .ok (.iadd, 1) := by decide +kernel
theorem dX3_addVif_29 : decode cX3_addVif 29 = .ok (.putfield 35, 3) := by decide +kernel
theorem dX3_addVif_32 : decode cX3_addVif 32 = .ok (.return_, 1) := by decide +kernel
theorem dX3_setValue_0 : decode cX3_setValue 0 = .ok (.aload_n 0, 1) := by decide +kernel
theorem dX3_setValue_1 : decode cX3_setValue 1 = .ok (.lload_n 1, 1) := by decide +kernel
theorem dX3_setValue_2 : decode cX3_setValue 2 = .ok (.putfield 9, 3) := by decide +kernel
theorem dX3_setValue_5 : decode cX3_setValue 5 = .ok (.return_, 1) := by decide +kernel
theorem dX3_setText_0 : decode cX3_setText 0 = .ok (.iload_n 3, 1) := by decide +kernel
theorem dX3_setText_1 : decode cX3_setText 1 = .ok (.ifCond .le 26, 3) := by decide +kernel
theorem dX3_setText_4 : decode cX3_setText 4 = .ok (.aload_n 0, 1) := by decide +kernel
theorem dX3_setText_5 : decode cX3_setText 5 = .ok (.getfield 38, 3) := by decide +kernel
theorem dX3_setText_8 : decode cX3_setText 8 = .ok (.ifnull 12, 3) := by decide +kernel
theorem dX3_setText_11 : decode cX3_setText 11 = .ok (.aload_n 0, 1) := by decide +kernel
theorem dX3_setText_12 : decode cX3_setText 12 = .ok (.getfield 38, 3) := by decide +kernel
theorem dX3_setText_15 : decode cX3_setText 15 = .ok (.arraylength, 1) := by decide +kernel
theorem dX3_setText_16 : decode cX3_setText 16 = .ok (.iload_n 3, 1) := by decide +kernel
theorem dX3_setText_17 : decode cX3_setText 17 = .ok (.if_icmp .ge 10, 3) := by decide +kernel
theorem dX3_setText_20 : decode cX3_setText 20 = .ok (.aload_n 0, 1) := by decide +kernel
theorem dX3_setText_21 : decode cX3_setText 21 = .ok (.iload_n 3, 1) := by decide +kernel
theorem dX3_setText_22 : decode cX3_setText 22 = .ok (.newarray .int, 2) := by decide +kernel
theorem dX3_setText_24 : decode cX3_setText 24 = .ok (.putfield 38, 3) := by decide +kernel
theorem dX3_setText_27 : decode cX3_setText 27 = .ok (.iconst 0, 1) := by decide +kernel
theorem dX3_setText_28 : decode cX3_setText 28 = .ok (.istore 4, 2) := by decide +kernel
theorem dX3_setText_30 : decode cX3_setText 30 = .ok (.iload 4, 2) := by decide +kernel
theorem dX3_setText_32 : decode cX3_setText 32 = .ok (.iload_n 3, 1) := by decide +kernel
theorem dX3_setText_33 : decode cX3_setText 33 = .ok (.if_icmp .ge 41, 3) := by decide +kernel
theorem dX3_setText_36 : decode cX3_setText 36 = .ok (.aload_n 0, 1) := by decide +kernel
theorem dX3_setText_37 : decode cX3_setText 37 = .ok (.getfield 38, 3) := by decide +kernel
theorem dX3_setText_40 : decode cX3_setText 40 = .ok (.ifnull 34, 3) := by decide +kernel
theorem dX3_setText_43 : decode cX3_setText 43 = .ok (.iload 4, 2) := by decide +kernel
theorem dX3_setText_45 : decode cX3_setText 45 = .ok (.aload_n 0, 1) := by decide +kernel
theorem dX3_setText_46 : decode cX3_setText 46 = .ok (.getfield 38, 3) := by decide +kernel
theorem dX3_setText_49 : decode cX3_setText 49 = .ok (.arraylength, 1) := by decide +kernel
theorem dX3_setText_50 : decode cX3_setText 50 = .ok (.if_icmp .ge 24, 3) := by decide +kernel
theorem dX3_setText_53 : decode cX3_setText 53 = .ok (.aload_n 0, 1) := by decide +kernel
theorem dX3_setText_54 : decode cX3_setText 54 = .ok (.getfield 38, 3) := by decide +kernel
theorem dX3_setText_57 : decode cX3_setText 57 = .ok (.iload 4, 2) := by decide +kernel
theorem dX3_setText_59 : decode cX3_setText 59 = .ok (.aload_n 1, 1) := by decide +kernel
theorem dX3_setText_60 : decode cX3_setText 60 = .ok (.iload_n 2, 1) := by decide +kernel
theorem dX3_setText_61 : decode cX3_setText 61 = .ok (.iload 4, 2) := by decide +kernel
theorem dX3_setText_63 : decode cX3_setText 63 = .ok (.iadd, 1) := by decide +kernel
theorem dX3_setText_64 : decode cX3_setText 64 = .ok (.invokevirtual 44, 3) := by decide +kernel
theorem dX3_setText_67 : decode cX3_setText 67 = .ok (.iastore, 1) := by decide +kernel
theorem dX3_setText_68 : decode cX3_setText 68 = .ok (.iinc 4 1, 3) := by decide +kernel
theorem dX3_setText_71 : decode cX3_setText 71 = .ok (.goto (-41), 3) := by decide +kernel
theorem dX3_setText_74 : decode cX3_setText 74 = .ok (.aload_n 0, 1) := by decide +kernel
theorem dX3_setText_75 : decode cX3_setText 75 = .ok (.iload_n 3, 1) := by decide +kernel
theorem dX3_setText_76 : decode cX3_setText 76 = .ok (.putfield 41, 3) := by decide +kernel
theorem dX3_setText_79 : decode cX3_setText 79 = .ok (.aload_n 0, 1) := by decide +kernel
theorem dX3_setText_80 : decode cX3_setText 80 = .ok (.iload_n 3, 1) := by decide +kernel
theorem dX3_setText_81 : decode cX3_setText 81 = .ok (.i2l, 1) := by decide +kernel
theorem dX3_setText_82 : decode cX3_setText 82 = .ok (.putfield 9, 3) := by decide +kernel
theorem dX3_setText_85 : decode cX3_setText 85 = .ok (.return_, 1) := by decide +kernel
theorem dX3_codeOf_0 : decode cX3_codeOf 0 = .ok (.aload_n 0, 1) := by decide +kernel
theorem dX3_codeOf_1 : decode cX3_codeOf 1 = .ok (.getfield 15, 3) := by decide +kernel
theorem dX3_codeOf_4 : decode cX3_codeOf 4 = .ok (.ireturn, 1) := by decide +kernel
theorem dX3_vifNumber_0 : decode cX3_vifNumber 0 = .ok (.aload_n 0, 1) := by decide +kernel
theorem dX3_vifNumber_1 : decode cX3_vifNumber 1 = .ok (.getfield 35, 3) := by decide +kernel
theorem dX3_vifNumber_4 : decode cX3_vifNumber 4 = .ok (.ireturn, 1) := by decide +kernel
theorem dX3_textSize_0 : decode cX3_textSize 0 = .ok (.aload_n 0, 1) := by decide +kernel
theorem dX3_textSize_1 : decode cX3_textSize 1 = .ok (.getfield 41, 3) := by decide +kernel
theorem dX3_textSize_4 : decode cX3_textSize 4 = .ok (.ireturn, 1) := by decide +kernel
theorem dX3_textAt_0 : decode cX3_textAt 0 = .ok (.aload_n 0, 1) := by decide +kernel
theorem dX3_textAt_1 : decode cX3_textAt 1 = .ok (.getfield 38, 3) := by decide +kernel
theorem dX3_textAt_4 : decode cX3_textAt 4 = .ok (.ifnull 25, 3) := by decide +kernel
theorem dX3_textAt_7 : decode cX3_textAt 7 = .ok (.iload_n 1, 1) := by decide +kernel
theorem dX3_textAt_8 : decode cX3_textAt 8 = .ok (.ifCond .lt 21, 3) := by decide +kernel
theorem dX3_textAt_11 : decode cX3_textAt 11 = .ok (.iload_n 1, 1) := by decide +kernel
theorem dX3_textAt_12 : decode cX3_textAt 12 = .ok (.aload_n 0, 1) := by decide +kernel
theorem dX3_textAt_13 : decode cX3_textAt 13 = .ok (.getfield 38, 3) := by decide +kernel
theorem dX3_textAt_16 : decode cX3_textAt 16 = .ok (.arraylength, 1) := by decide +kernel
theorem dX3_textAt_17 : decode cX3_textAt 17 = .ok (.if_icmp .ge 12, 3) := by decide +kernel
theorem dX3_textAt_20 : decode cX3_textAt 20 = .ok (.aload_n 0, 1) := by decide +kernel
theorem dX3_textAt_21 : decode cX3_textAt 21 = .ok (.getfield 38, 3) := by decide +kernel
theorem dX3_textAt_24 : decode cX3_textAt 24 = .ok (.iload_n 1, 1) := by decide +kernel
theorem dX3_textAt_25 : decode cX3_textAt 25 = .ok (.iaload, 1) := by decide +kernel
theorem dX3_textAt_26 : decode cX3_textAt 26 = .ok (.goto 4, 3) := by decide +kernel
theorem dX3_textAt_29 : decode cX3_textAt 29 = .ok (.iconst (-1), 1) := by decide +kernel
theorem dX3_textAt_30 : decode cX3_textAt 30 = .ok (.ireturn, 1) := by decide +kernel
theorem dX3_detail_0 : decode cX3_detail 0 = .ok (.iload_n 1, 1) := by decide +kernel
theorem dX3_detail_1 : decode cX3_detail 1 = .ok (.tableswitch 83 0 6 #[43, 48, 54, 60, 65, 71, 77], 43) := by decide +kernel
theorem dX3_detail_44 : decode cX3_detail 44 = .ok (.aload_n 0, 1) := by decide +kernel
theorem dX3_detail_45 : decode cX3_detail 45 = .ok (.getfield 9, 3) := by decide +kernel
theorem dX3_detail_48 : decode cX3_detail 48 = .ok (.lreturn, 1) := by decide +kernel
theorem dX3_detail_49 : decode cX3_detail 49 = .ok (.aload_n 0, 1) := by decide +kernel
theorem dX3_detail_50 : decode cX3_detail 50 = .ok (.getfield 15, 3) := by decide +kernel
theorem dX3_detail_53 : decode cX3_detail 53 = .ok (.i2l, 1) := by decide +kernel
theorem dX3_detail_54 : decode cX3_detail 54 = .ok (.lreturn, 1) := by decide +kernel
theorem dX3_detail_55 : decode cX3_detail 55 = .ok (.aload_n 0, 1) := by decide +kernel
theorem dX3_detail_56 : decode cX3_detail 56 = .ok (.getfield 19, 3) := by decide +kernel
theorem dX3_detail_59 : decode cX3_detail 59 = .ok (.i2l, 1) := by decide +kernel
theorem dX3_detail_60 : decode cX3_detail 60 = .ok (.lreturn, 1) := by decide +kernel
theorem dX3_detail_61 : decode cX3_detail 61 = .ok (.aload_n 0, 1) := by decide +kernel
theorem dX3_detail_62 : decode cX3_detail 62 = .ok (.getfield 22, 3) := by decide +kernel
theorem dX3_detail_65 : decode cX3_detail 65 = .ok (.lreturn, 1) := by decide +kernel
theorem dX3_detail_66 : decode cX3_detail 66 = .ok (.aload_n 0, 1) := by decide +kernel
theorem dX3_detail_67 : decode cX3_detail 67 = .ok (.getfield 25, 3) := by decide +kernel
theorem dX3_detail_70 : decode cX3_detail 70 = .ok (.i2l, 1) := by decide +kernel
theorem dX3_detail_71 : decode cX3_detail 71 = .ok (.lreturn, 1) := by decide +kernel
theorem dX3_detail_72 : decode cX3_detail 72 = .ok (.aload_n 0, 1) := by decide +kernel
theorem dX3_detail_73 : decode cX3_detail 73 = .ok (.getfield 28, 3) := by decide +kernel
theorem dX3_detail_76 : decode cX3_detail 76 = .ok (.i2l, 1) := by decide +kernel
theorem dX3_detail_77 : decode cX3_detail 77 = .ok (.lreturn, 1) := by decide +kernel
theorem dX3_detail_78 : decode cX3_detail 78 = .ok (.aload_n 0, 1) := by decide +kernel
theorem dX3_detail_79 : decode cX3_detail 79 = .ok (.getfield 35, 3) := by decide +kernel
theorem dX3_detail_82 : decode cX3_detail 82 = .ok (.i2l, 1) := by decide +kernel
theorem dX3_detail_83 : decode cX3_detail 83 = .ok (.lreturn, 1) := by decide +kernel
theorem dX3_detail_84 : decode cX3_detail 84 = .ok (.iload_n 1, 1) := by decide +kernel
theorem dX3_detail_85 : decode cX3_detail 85 = .ok (.bipush 7, 2) := by decide +kernel
theorem dX3_detail_87 : decode cX3_detail 87 = .ok (.if_icmp .lt 28, 3) := by decide +kernel
theorem dX3_detail_90 : decode cX3_detail 90 = .ok (.iload_n 1, 1) := by decide +kernel
theorem dX3_detail_91 : decode cX3_detail 91 = .ok (.bipush 7, 2) := by decide +kernel
theorem dX3_detail_93 : decode cX3_detail 93 = .ok (.isub, 1) := by decide +kernel
theorem dX3_detail_94 : decode cX3_detail 94 = .ok (.aload_n 0, 1) := by decide +kernel
theorem dX3_detail_95 : decode cX3_detail 95 = .ok (.getfield 31, 3) := by decide +kernel
theorem dX3_detail_98 : decode cX3_detail 98 = .ok (.arraylength, 1) := by decide +kernel
theorem dX3_detail_99 : decode cX3_detail 99 = .ok (.if_icmp .ge 16, 3) := by decide +kernel
theorem dX3_detail_102 : decode cX3_detail 102 = .ok (.aload_n 0, 1) := by decide +kernel
theorem dX3_detail_103 : decode cX3_detail 103 = .ok (.getfield 31, 3) := by decide +kernel
theorem dX3_detail_106 : decode cX3_detail 106 = .ok (.iload_n 1, 1) := by decide +kernel
theorem dX3_detail_107 : decode cX3_detail 107 = .ok (.bipush 7, 2) := by decide +kernel
theorem dX3_detail_109 : decode cX3_detail 109 = .ok (.isub, 1) := by decide +kernel
theorem dX3_detail_110 : decode cX3_detail 110 = .ok (.iaload, 1) := by decide +kernel
theorem dX3_detail_111 : decode cX3_detail 111 = .ok (.i2l, 1) := by decide +kernel
theorem dX3_detail_112 : decode cX3_detail 112 = .ok (.goto 6, 3) := by decide +kernel
theorem dX3_detail_115 : decode cX3_detail 115 = .ok (.ldc2_w 50, 3) := by decide +kernel
theorem dX3_detail_118 : decode cX3_detail 118 = .ok (.lreturn, 1) := by decide +kernel
