section
/-! The instructions of the class, decoded. By program (wip/mkdec.py). -/
theorem dX3_init_0 : decode cX3_init 0 = .ok (.aload_n 0, 1) := by decide +kernel
theorem dX3_init_1 : decode cX3_init 1 = .ok (.invokespecial 3, 3) := by decide +kernel
theorem dX3_init_4 : decode cX3_init 4 = .ok (.aload_n 0, 1) := by decide +kernel
theorem dX3_init_5 : decode cX3_init 5 = .ok (.lconst 0, 1) := by decide +kernel
theorem dX3_init_6 : decode cX3_init 6 = .ok (.putfield 9, 3) := by decide +kernel
theorem dX3_init_9 : decode cX3_init 9 = .ok (.aload_n 0, 1) := by decide +kernel
theorem dX3_init_10 : decode cX3_init 10 = .ok (.iconst 0, 1) := by decide +kernel
theorem dX3_init_11 : decode cX3_init 11 = .ok (.putfield 15, 3) := by decide +kernel
theorem dX3_init_14 : decode cX3_init 14 = .ok (.aload_n 0, 1) := by decide +kernel
theorem dX3_init_15 : decode cX3_init 15 = .ok (.iconst 0, 1) := by decide +kernel
theorem dX3_init_16 : decode cX3_init 16 = .ok (.putfield 19, 3) := by decide +kernel
theorem dX3_init_19 : decode cX3_init 19 = .ok (.aload_n 0, 1) := by decide +kernel
theorem dX3_init_20 : decode cX3_init 20 = .ok (.lconst 0, 1) := by decide +kernel
theorem dX3_init_21 : decode cX3_init 21 = .ok (.putfield 22, 3) := by decide +kernel
theorem dX3_init_24 : decode cX3_init 24 = .ok (.aload_n 0, 1) := by decide +kernel
theorem dX3_init_25 : decode cX3_init 25 = .ok (.iconst 0, 1) := by decide +kernel
theorem dX3_init_26 : decode cX3_init 26 = .ok (.putfield 25, 3) := by decide +kernel
theorem dX3_init_29 : decode cX3_init 29 = .ok (.aload_n 0, 1) := by decide +kernel
theorem dX3_init_30 : decode cX3_init 30 = .ok (.iconst 0, 1) := by decide +kernel
theorem dX3_init_31 : decode cX3_init 31 = .ok (.putfield 28, 3) := by decide +kernel
theorem dX3_init_34 : decode cX3_init 34 = .ok (.aload_n 0, 1) := by decide +kernel
theorem dX3_init_35 : decode cX3_init 35 = .ok (.bipush 11, 2) := by decide +kernel
theorem dX3_init_37 : decode cX3_init 37 = .ok (.newarray .int, 2) := by decide +kernel
theorem dX3_init_39 : decode cX3_init 39 = .ok (.putfield 31, 3) := by decide +kernel
theorem dX3_init_42 : decode cX3_init 42 = .ok (.aload_n 0, 1) := by decide +kernel
theorem dX3_init_43 : decode cX3_init 43 = .ok (.iconst 0, 1) := by decide +kernel
theorem dX3_init_44 : decode cX3_init 44 = .ok (.putfield 35, 3) := by decide +kernel
theorem dX3_init_47 : decode cX3_init 47 = .ok (.aload_n 0, 1) := by decide +kernel
theorem dX3_init_48 : decode cX3_init 48 = .ok (.aconst_null, 1) := by decide +kernel
theorem dX3_init_49 : decode cX3_init 49 = .ok (.putfield 38, 3) := by decide +kernel
theorem dX3_init_52 : decode cX3_init 52 = .ok (.aload_n 0, 1) := by decide +kernel
theorem dX3_init_53 : decode cX3_init 53 = .ok (.iconst 0, 1) := by decide +kernel
theorem dX3_init_54 : decode cX3_init 54 = .ok (.putfield 41, 3) := by decide +kernel
theorem dX3_init_57 : decode cX3_init 57 = .ok (.return_, 1) := by decide +kernel
theorem dX3_begin_0 : decode cX3_begin 0 = .ok (.aload_n 0, 1) := by decide +kernel
theorem dX3_begin_1 : decode cX3_begin 1 = .ok (.lconst 0, 1) := by decide +kernel
theorem dX3_begin_2 : decode cX3_begin 2 = .ok (.putfield 9, 3) := by decide +kernel
theorem dX3_begin_5 : decode cX3_begin 5 = .ok (.aload_n 0, 1) := by decide +kernel
theorem dX3_begin_6 : decode cX3_begin 6 = .ok (.iload_n 1, 1) := by decide +kernel
theorem dX3_begin_7 : decode cX3_begin 7 = .ok (.bipush 15, 2) := by decide +kernel
theorem dX3_begin_9 : decode cX3_begin 9 = .ok (.iand, 1) := by decide +kernel
theorem dX3_begin_10 : decode cX3_begin 10 = .ok (.putfield 15, 3) := by decide +kernel
theorem dX3_begin_13 : decode cX3_begin 13 = .ok (.aload_n 0, 1) := by decide +kernel
theorem dX3_begin_14 : decode cX3_begin 14 = .ok (.iload_n 1, 1) := by decide +kernel
theorem dX3_begin_15 : decode cX3_begin 15 = .ok (.iconst 4, 1) := by decide +kernel
theorem dX3_begin_16 : decode cX3_begin 16 = .ok (.ishr, 1) := by decide +kernel
theorem dX3_begin_17 : decode cX3_begin 17 = .ok (.iconst 3, 1) := by decide +kernel
theorem dX3_begin_18 : decode cX3_begin 18 = .ok (.iand, 1) := by decide +kernel
theorem dX3_begin_19 : decode cX3_begin 19 = .ok (.putfield 19, 3) := by decide +kernel
theorem dX3_begin_22 : decode cX3_begin 22 = .ok (.aload_n 0, 1) := by decide +kernel
theorem dX3_begin_23 : decode cX3_begin 23 = .ok (.iload_n 1, 1) := by decide +kernel
theorem dX3_begin_24 : decode cX3_begin 24 = .ok (.bipush 6, 2) := by decide +kernel
theorem dX3_begin_26 : decode cX3_begin 26 = .ok (.ishr, 1) := by decide +kernel
theorem dX3_begin_27 : decode cX3_begin 27 = .ok (.iconst 1, 1) := by decide +kernel
theorem dX3_begin_28 : decode cX3_begin 28 = .ok (.iand, 1) := by decide +kernel
theorem dX3_begin_29 : decode cX3_begin 29 = .ok (.i2l, 1) := by decide +kernel
theorem dX3_begin_30 : decode cX3_begin 30 = .ok (.putfield 22, 3) := by decide +kernel
theorem dX3_begin_33 : decode cX3_begin 33 = .ok (.aload_n 0, 1) := by decide +kernel
theorem dX3_begin_34 : decode cX3_begin 34 = .ok (.iconst 0, 1) := by decide +kernel
theorem dX3_begin_35 : decode cX3_begin 35 = .ok (.putfield 25, 3) := by decide +kernel
theorem dX3_begin_38 : decode cX3_begin 38 = .ok (.aload_n 0, 1) := by decide +kernel
theorem dX3_begin_39 : decode cX3_begin 39 = .ok (.iconst 0, 1) := by decide +kernel
theorem dX3_begin_40 : decode cX3_begin 40 = .ok (.putfield 28, 3) := by decide +kernel
theorem dX3_begin_43 : decode cX3_begin 43 = .ok (.aload_n 0, 1) := by decide +kernel
theorem dX3_begin_44 : decode cX3_begin 44 = .ok (.iconst 0, 1) := by decide +kernel
theorem dX3_begin_45 : decode cX3_begin 45 = .ok (.putfield 35, 3) := by decide +kernel
theorem dX3_begin_48 : decode cX3_begin 48 = .ok (.aload_n 0, 1) := by decide +kernel
theorem dX3_begin_49 : decode cX3_begin 49 = .ok (.iconst 0, 1) := by decide +kernel
theorem dX3_begin_50 : decode cX3_begin 50 = .ok (.putfield 41, 3) := by decide +kernel
theorem dX3_begin_53 : decode cX3_begin 53 = .ok (.return_, 1) := by decide +kernel
theorem dX3_addDife_0 : decode cX3_addDife 0 = .ok (.aload_n 0, 1) := by decide +kernel
theorem dX3_addDife_1 : decode cX3_addDife 1 = .ok (.dup, 1) := by decide +kernel
theorem dX3_addDife_2 : decode cX3_addDife 2 = .ok (.getfield 22, 3) := by decide +kernel
theorem dX3_addDife_5 : decode cX3_addDife 5 = .ok (.iload_n 2, 1) := by decide +kernel
theorem dX3_addDife_6 : decode cX3_addDife 6 = .ok (.bipush 15, 2) := by decide +kernel
theorem dX3_addDife_8 : decode cX3_addDife 8 = .ok (.iand, 1) := by decide +kernel
theorem dX3_addDife_9 : decode cX3_addDife 9 = .ok (.i2l, 1) := by decide +kernel
theorem dX3_addDife_10 : decode cX3_addDife 10 = .ok (.iconst 1, 1) := by decide +kernel
theorem dX3_addDife_11 : decode cX3_addDife 11 = .ok (.iconst 4, 1) := by decide +kernel
theorem dX3_addDife_12 : decode cX3_addDife 12 = .ok (.iload_n 1, 1) := by decide +kernel
theorem dX3_addDife_13 : decode cX3_addDife 13 = .ok (.imul, 1) := by decide +kernel
theorem dX3_addDife_14 : decode cX3_addDife 14 = .ok (.iadd, 1) := by decide +kernel
theorem dX3_addDife_15 : decode cX3_addDife 15 = .ok (.lshl, 1) := by decide +kernel
theorem dX3_addDife_16 : decode cX3_addDife 16 = .ok (.lor, 1) := by decide +kernel
theorem dX3_addDife_17 : decode cX3_addDife 17 = .ok (.putfield 22, 3) := by decide +kernel
theorem dX3_addDife_20 : decode cX3_addDife 20 = .ok (.aload_n 0, 1) := by decide +kernel
theorem dX3_addDife_21 : decode cX3_addDife 21 = .ok (.dup, 1) := by decide +kernel
theorem dX3_addDife_22 : decode cX3_addDife 22 = .ok (.getfield 25, 3) := by decide +kernel
theorem dX3_addDife_25 : decode cX3_addDife 25 = .ok (.iload_n 2, 1) := by decide +kernel
theorem dX3_addDife_26 : decode cX3_addDife 26 = .ok (.iconst 4, 1) := by decide +kernel
theorem dX3_addDife_27 : decode cX3_addDife 27 = .ok (.ishr, 1) := by decide +kernel
theorem dX3_addDife_28 : decode cX3_addDife 28 = .ok (.iconst 3, 1) := by decide +kernel
theorem dX3_addDife_29 : decode cX3_addDife 29 = .ok (.iand, 1) := by decide +kernel
theorem dX3_addDife_30 : decode cX3_addDife 30 = .ok (.iconst 2, 1) := by decide +kernel
theorem dX3_addDife_31 : decode cX3_addDife 31 = .ok (.iload_n 1, 1) := by decide +kernel
theorem dX3_addDife_32 : decode cX3_addDife 32 = .ok (.imul, 1) := by decide +kernel
theorem dX3_addDife_33 : decode cX3_addDife 33 = .ok (.ishl, 1) := by decide +kernel
theorem dX3_addDife_34 : decode cX3_addDife 34 = .ok (.ior, 1) := by decide +kernel
theorem dX3_addDife_35 : decode cX3_addDife 35 = .ok (.putfield 25, 3) := by decide +kernel
theorem dX3_addDife_38 : decode cX3_addDife 38 = .ok (.aload_n 0, 1) := by decide +kernel
theorem dX3_addDife_39 : decode cX3_addDife 39 = .ok (.dup, 1) := by decide +kernel
theorem dX3_addDife_40 : decode cX3_addDife 40 = .ok (.getfield 28, 3) := by decide +kernel
theorem dX3_addDife_43 : decode cX3_addDife 43 = .ok (.iload_n 2, 1) := by decide +kernel
theorem dX3_addDife_44 : decode cX3_addDife 44 = .ok (.bipush 6, 2) := by decide +kernel
theorem dX3_addDife_46 : decode cX3_addDife 46 = .ok (.ishr, 1) := by decide +kernel
theorem dX3_addDife_47 : decode cX3_addDife 47 = .ok (.iconst 1, 1) := by decide +kernel
theorem dX3_addDife_48 : decode cX3_addDife 48 = .ok (.iand, 1) := by decide +kernel
theorem dX3_addDife_49 : decode cX3_addDife 49 = .ok (.iload_n 1, 1) := by decide +kernel
theorem dX3_addDife_50 : decode cX3_addDife 50 = .ok (.ishl, 1) := by decide +kernel
theorem dX3_addDife_51 : decode cX3_addDife 51 = .ok (.ior, 1) := by decide +kernel
theorem dX3_addDife_52 : decode cX3_addDife 52 = .ok (.putfield 28, 3) := by decide +kernel
theorem dX3_addDife_55 : decode cX3_addDife 55 = .ok (.return_, 1) := by decide +kernel
theorem dX3_addVif_0 : decode cX3_addVif 0 = .ok (.aload_n 0, 1) := by decide +kernel
theorem dX3_addVif_1 : decode cX3_addVif 1 = .ok (.getfield 35, 3) := by decide +kernel
theorem dX3_addVif_4 : decode cX3_addVif 4 = .ok (.aload_n 0, 1) := by decide +kernel
theorem dX3_addVif_5 : decode cX3_addVif 5 = .ok (.getfield 31, 3) := by decide +kernel
theorem dX3_addVif_8 : decode cX3_addVif 8 = .ok (.arraylength, 1) := by decide +kernel
theorem dX3_addVif_9 : decode cX3_addVif 9 = .ok (.if_icmp .ge 23, 3) := by decide +kernel
theorem dX3_addVif_12 : decode cX3_addVif 12 = .ok (.aload_n 0, 1) := by decide +kernel
theorem dX3_addVif_13 : decode cX3_addVif 13 = .ok (.getfield 31, 3) := by decide +kernel
theorem dX3_addVif_16 : decode cX3_addVif 16 = .ok (.aload_n 0, 1) := by decide +kernel
theorem dX3_addVif_17 : decode cX3_addVif 17 = .ok (.getfield 35, 3) := by decide +kernel
theorem dX3_addVif_20 : decode cX3_addVif 20 = .ok (.iload_n 1, 1) := by decide +kernel
theorem dX3_addVif_21 : decode cX3_addVif 21 = .ok (.iastore, 1) := by decide +kernel
theorem dX3_addVif_22 : decode cX3_addVif 22 = .ok (.aload_n 0, 1) := by decide +kernel
theorem dX3_addVif_23 : decode cX3_addVif 23 = .ok (.dup, 1) := by decide +kernel
theorem dX3_addVif_24 : decode cX3_addVif 24 = .ok (.getfield 35, 3) := by decide +kernel
theorem dX3_addVif_27 : decode cX3_addVif 27 = .ok (.iconst 1, 1) := by decide +kernel
theorem dX3_addVif_28 : decode cX3_addVif 28 = .ok (.iadd, 1) := by decide +kernel
theorem dX3_addVif_29 : decode cX3_addVif 29 = .ok (.putfield 35, 3) := by decide +kernel
theorem dX3_addVif_32 : decode cX3_addVif 32 = .ok (.return_, 1) := by decide +kernel
theorem dX3_setValue_0 : decode cX3_setValue 0 = .ok (.aload_n 0, 1) := by decide +kernel
theorem dX3_setValue_1 : decode cX3_setValue 1 = .ok (.lload_n 1, 1) := by decide +kernel
theorem dX3_setValue_2 : decode cX3_setValue 2 = .ok (.putfield 9, 3) := by decide +kernel
theorem dX3_setValue_5 : decode cX3_setValue 5 = .ok (.return_, 1) := by decide +kernel
theorem dX3_setText_0 : decode cX3_setText 0 = .ok (.iload_n 3, 1) := by decide +kernel
theorem dX3_setText_1 : decode cX3_setText 1 = .ok (.ifCond .le 26, 3) := by decide +kernel
theorem dX3_setText_4 : decode cX3_setText 4 = .ok (.aload_n 0, 1) := by decide +kernel
theorem dX3_setText_5 : decode cX3_setText 5 = .ok (.getfield 38, 3) := by decide +kernel
theorem dX3_setText_8 : decode cX3_setText 8 = .ok (.ifnull 12, 3) := by decide +kernel
theorem dX3_setText_11 : decode cX3_setText 11 = .ok (.aload_n 0, 1) := by decide +kernel
theorem dX3_setText_12 : decode cX3_setText 12 = .ok (.getfield 38, 3) := by decide +kernel
theorem dX3_setText_15 : decode cX3_setText 15 = .ok (.arraylength, 1) := by decide +kernel
theorem dX3_setText_16 : decode cX3_setText 16 = .ok (.iload_n 3, 1) := by decide +kernel
theorem dX3_setText_17 : decode cX3_setText 17 = .ok (.if_icmp .ge 10, 3) := by decide +kernel
theorem dX3_setText_20 : decode cX3_setText 20 = .ok (.aload_n 0, 1) := by decide +kernel
theorem dX3_setText_21 : decode cX3_setText 21 = .ok (.iload_n 3, 1) := by decide +kernel
theorem dX3_setText_22 : decode cX3_setText 22 = .ok (.newarray .int, 2) := by decide +kernel
theorem dX3_setText_24 : decode cX3_setText 24 = .ok (.putfield 38, 3) := by decide +kernel
theorem dX3_setText_27 : decode cX3_setText 27 = .ok (.iconst 0, 1) := by decide +kernel
theorem dX3_setText_28 : decode cX3_setText 28 = .ok (.istore 4, 2) := by decide +kernel
theorem dX3_setText_30 : decode cX3_setText 30 = .ok (.iload 4, 2) := by decide +kernel
theorem dX3_setText_32 : decode cX3_setText 32 = .ok (.iload_n 3, 1) := by decide +kernel
theorem dX3_setText_33 : decode cX3_setText 33 = .ok (.if_icmp .ge 41, 3) := by decide +kernel
theorem dX3_setText_36 : decode cX3_setText 36 = .ok (.aload_n 0, 1) := by decide +kernel
theorem dX3_setText_37 : decode cX3_setText 37 = .ok (.getfield 38, 3) := by decide +kernel
theorem dX3_setText_40 : decode cX3_setText 40 = .ok (.ifnull 34, 3) := by decide +kernel
theorem dX3_setText_43 : decode cX3_setText 43 = .ok (.iload 4, 2) := by decide +kernel
theorem dX3_setText_45 : decode cX3_setText 45 = .ok (.aload_n 0, 1) := by decide +kernel
theorem dX3_setText_46 : decode cX3_setText 46 = .ok (.getfield 38, 3) := by decide +kernel
theorem dX3_setText_49 : decode cX3_setText 49 = .ok (.arraylength, 1) := by decide +kernel
theorem dX3_setText_50 : decode cX3_setText 50 = .ok (.if_icmp .ge 24, 3) := by decide +kernel
theorem dX3_setText_53 : decode cX3_setText 53 = .ok (.aload_n 0, 1) := by decide +kernel
theorem dX3_setText_54 : decode cX3_setText 54 = .ok (.getfield 38, 3) := by decide +kernel
theorem dX3_setText_57 : decode cX3_setText 57 = .ok (.iload 4, 2) := by decide +kernel
theorem dX3_setText_59 : decode cX3_setText 59 = .ok (.aload_n 1, 1) := by decide +kernel
theorem dX3_setText_60 : decode cX3_setText 60 = .ok (.iload_n 2, 1) := by decide +kernel
theorem dX3_setText_61 : decode cX3_setText 61 = .ok (.iload 4, 2) := by decide +kernel
theorem dX3_setText_63 : decode cX3_setText 63 = .ok (.iadd, 1) := by decide +kernel
theorem dX3_setText_64 : decode cX3_setText 64 = .ok (.invokevirtual 44, 3) := by decide +kernel
theorem dX3_setText_67 : decode cX3_setText 67 = .ok (.iastore, 1) := by decide +kernel
theorem dX3_setText_68 : decode cX3_setText 68 = .ok (.iinc 4 1, 3) := by decide +kernel
theorem dX3_setText_71 : decode cX3_setText 71 = .ok (.goto (-41), 3) := by decide +kernel
theorem dX3_setText_74 : decode cX3_setText 74 = .ok (.aload_n 0, 1) := by decide +kernel
theorem dX3_setText_75 : decode cX3_setText 75 = .ok (.iload_n 3, 1) := by decide +kernel
theorem dX3_setText_76 : decode cX3_setText 76 = .ok (.putfield 41, 3) := by decide +kernel
theorem dX3_setText_79 : decode cX3_setText 79 = .ok (.aload_n 0, 1) := by decide +kernel
theorem dX3_setText_80 : decode cX3_setText 80 = .ok (.iload_n 3, 1) := by decide +kernel
theorem dX3_setText_81 : decode cX3_setText 81 = .ok (.i2l, 1) := by decide +kernel
theorem dX3_setText_82 : decode cX3_setText 82 = .ok (.putfield 9, 3) := by decide +kernel
theorem dX3_setText_85 : decode cX3_setText 85 = .ok (.return_, 1) := by decide +kernel
theorem dX3_codeOf_0 : decode cX3_codeOf 0 = .ok (.aload_n 0, 1) := by decide +kernel
theorem dX3_codeOf_1 : decode cX3_codeOf 1 = .ok (.getfield 15, 3) := by decide +kernel
theorem dX3_codeOf_4 : decode cX3_codeOf 4 = .ok (.ireturn, 1) := by decide +kernel
theorem dX3_vifNumber_0 : decode cX3_vifNumber 0 = .ok (.aload_n 0, 1) := by decide +kernel
theorem dX3_vifNumber_1 : decode cX3_vifNumber 1 = .ok (.getfield 35, 3) := by decide +kernel
theorem dX3_vifNumber_4 : decode cX3_vifNumber 4 = .ok (.ireturn, 1) := by decide +kernel
theorem dX3_textSize_0 : decode cX3_textSize 0 = .ok (.aload_n 0, 1) := by decide +kernel
theorem dX3_textSize_1 : decode cX3_textSize 1 = .ok (.getfield 41, 3) := by decide +kernel
theorem dX3_textSize_4 : decode cX3_textSize 4 = .ok (.ireturn, 1) := by decide +kernel
theorem dX3_textAt_0 : decode cX3_textAt 0 = .ok (.aload_n 0, 1) := by decide +kernel
theorem dX3_textAt_1 : decode cX3_textAt 1 = .ok (.getfield 38, 3) := by decide +kernel
theorem dX3_textAt_4 : decode cX3_textAt 4 = .ok (.ifnull 25, 3) := by decide +kernel
theorem dX3_textAt_7 : decode cX3_textAt 7 = .ok (.iload_n 1, 1) := by decide +kernel
theorem dX3_textAt_8 : decode cX3_textAt 8 = .ok (.ifCond .lt 21, 3) := by decide +kernel
theorem dX3_textAt_11 : decode cX3_textAt 11 = .ok (.iload_n 1, 1) := by decide +kernel
theorem dX3_textAt_12 : decode cX3_textAt 12 = .ok (.aload_n 0, 1) := by decide +kernel
theorem dX3_textAt_13 : decode cX3_textAt 13 = .ok (.getfield 38, 3) := by decide +kernel
theorem dX3_textAt_16 : decode cX3_textAt 16 = .ok (.arraylength, 1) := by decide +kernel
theorem dX3_textAt_17 : decode cX3_textAt 17 = .ok (.if_icmp .ge 12, 3) := by decide +kernel
theorem dX3_textAt_20 : decode cX3_textAt 20 = .ok (.aload_n 0, 1) := by decide +kernel
theorem dX3_textAt_21 : decode cX3_textAt 21 = .ok (.getfield 38, 3) := by decide +kernel
theorem dX3_textAt_24 : decode cX3_textAt 24 = .ok (.iload_n 1, 1) := by decide +kernel
theorem dX3_textAt_25 : decode cX3_textAt 25 = .ok (.iaload, 1) := by decide +kernel
theorem dX3_textAt_26 : decode cX3_textAt 26 = .ok (.goto 4, 3) := by decide +kernel
theorem dX3_textAt_29 : decode cX3_textAt 29 = .ok (.iconst (-1), 1) := by decide +kernel
theorem dX3_textAt_30 : decode cX3_textAt 30 = .ok (.ireturn, 1) := by decide +kernel
theorem dX3_detail_0 : decode cX3_detail 0 = .ok (.iload_n 1, 1) := by decide +kernel
theorem dX3_detail_1 : decode cX3_detail 1 = .ok (.tableswitch 83 0 6 #[43, 48, 54, 60, 65, 71, 77], 43) := by decide +kernel
theorem dX3_detail_44 : decode cX3_detail 44 = .ok (.aload_n 0, 1) := by decide +kernel
theorem dX3_detail_45 : decode cX3_detail 45 = .ok (.getfield 9, 3) := by decide +kernel
theorem dX3_detail_48 : decode cX3_detail 48 = .ok (.lreturn, 1) := by decide +kernel
theorem dX3_detail_49 : decode cX3_detail 49 = .ok (.aload_n 0, 1) := by decide +kernel
theorem dX3_detail_50 : decode cX3_detail 50 = .ok (.getfield 15, 3) := by decide +kernel
theorem dX3_detail_53 : decode cX3_detail 53 = .ok (.i2l, 1) := by decide +kernel
theorem dX3_detail_54 : decode cX3_detail 54 = .ok (.lreturn, 1) := by decide +kernel
theorem dX3_detail_55 : decode cX3_detail 55 = .ok (.aload_n 0, 1) := by decide +kernel
theorem dX3_detail_56 : decode cX3_detail 56 = .ok (.getfield 19, 3) := by decide +kernel
theorem dX3_detail_59 : decode cX3_detail 59 = .ok (.i2l, 1) := by decide +kernel
theorem dX3_detail_60 : decode cX3_detail 60 = .ok (.lreturn, 1) := by decide +kernel
theorem dX3_detail_61 : decode cX3_detail 61 = .ok (.aload_n 0, 1) := by decide +kernel
theorem dX3_detail_62 : decode cX3_detail 62 = .ok (.getfield 22, 3) := by decide +kernel
theorem dX3_detail_65 : decode cX3_detail 65 = .ok (.lreturn, 1) := by decide +kernel
theorem dX3_detail_66 : decode cX3_detail 66 = .ok (.aload_n 0, 1) := by decide +kernel
theorem dX3_detail_67 : decode cX3_detail 67 = .ok (.getfield 25, 3) := by decide +kernel
theorem dX3_detail_70 : decode cX3_detail 70 = .ok (.i2l, 1) := by decide +kernel
theorem dX3_detail_71 : decode cX3_detail 71 = .ok (.lreturn, 1) := by decide +kernel
theorem dX3_detail_72 : decode cX3_detail 72 = .ok (.aload_n 0, 1) := by decide +kernel
theorem dX3_detail_73 : decode cX3_detail 73 = .ok (.getfield 28, 3) := by decide +kernel
theorem dX3_detail_76 : decode cX3_detail 76 = .ok (.i2l, 1) := by decide +kernel
theorem dX3_detail_77 : decode cX3_detail 77 = .ok (.lreturn, 1) := by decide +kernel
theorem dX3_detail_78 : decode cX3_detail 78 = .ok (.aload_n 0, 1) := by decide +kernel
theorem dX3_detail_79 : decode cX3_detail 79 = .ok (.getfield 35, 3) := by decide +kernel
theorem dX3_detail_82 : decode cX3_detail 82 = .ok (.i2l, 1) := by decide +kernel
theorem dX3_detail_83 : decode cX3_detail 83 = .ok (.lreturn, 1) := by decide +kernel
theorem dX3_detail_84 : decode cX3_detail 84 = .ok (.iload_n 1, 1) := by decide +kernel
theorem dX3_detail_85 : decode cX3_detail 85 = .ok (.bipush 7, 2) := by decide +kernel
theorem dX3_detail_87 : decode cX3_detail 87 = .ok (.if_icmp .lt 28, 3) := by decide +kernel
theorem dX3_detail_90 : decode cX3_detail 90 = .ok (.iload_n 1, 1) := by decide +kernel
theorem dX3_detail_91 : decode cX3_detail 91 = .ok (.bipush 7, 2) := by decide +kernel
theorem dX3_detail_93 : decode cX3_detail 93 = .ok (.isub, 1) := by decide +kernel
theorem dX3_detail_94 : decode cX3_detail 94 = .ok (.aload_n 0, 1) := by decide +kernel
theorem dX3_detail_95 : decode cX3_detail 95 = .ok (.getfield 31, 3) := by decide +kernel
theorem dX3_detail_98 : decode cX3_detail 98 = .ok (.arraylength, 1) := by decide +kernel
theorem dX3_detail_99 : decode cX3_detail 99 = .ok (.if_icmp .ge 16, 3) := by decide +kernel
theorem dX3_detail_102 : decode cX3_detail 102 = .ok (.aload_n 0, 1) := by decide +kernel
theorem dX3_detail_103 : decode cX3_detail 103 = .ok (.getfield 31, 3) := by decide +kernel
theorem dX3_detail_106 : decode cX3_detail 106 = .ok (.iload_n 1, 1) := by decide +kernel
theorem dX3_detail_107 : decode cX3_detail 107 = .ok (.bipush 7, 2) := by decide +kernel
theorem dX3_detail_109 : decode cX3_detail 109 = .ok (.isub, 1) := by decide +kernel
theorem dX3_detail_110 : decode cX3_detail 110 = .ok (.iaload, 1) := by decide +kernel
theorem dX3_detail_111 : decode cX3_detail 111 = .ok (.i2l, 1) := by decide +kernel
theorem dX3_detail_112 : decode cX3_detail 112 = .ok (.goto 6, 3) := by decide +kernel
theorem dX3_detail_115 : decode cX3_detail 115 = .ok (.ldc2_w 50, 3) := by decide +kernel
theorem dX3_detail_118 : decode cX3_detail 118 = .ok (.lreturn, 1) := by decide +kernel
end
section
/-! The instructions of the class, decoded. By program (wip/mkdec.py). -/
theorem dX1_endsByMore_0 : decode cX1_endsByMore 0 = .ok (.aload_n 0, 1) := by decide +kernel
theorem dX1_endsByMore_1 : decode cX1_endsByMore 1 = .ok (.getfield 24, 3) := by decide +kernel
theorem dX1_endsByMore_4 : decode cX1_endsByMore 4 = .ok (.ireturn, 1) := by decide +kernel
theorem dX1_sumIsWell_0 : decode cX1_sumIsWell 0 = .ok (.aload_n 0, 1) := by decide +kernel
theorem dX1_sumIsWell_1 : decode cX1_sumIsWell 1 = .ok (.getfield 28, 3) := by decide +kernel
theorem dX1_sumIsWell_4 : decode cX1_sumIsWell 4 = .ok (.aload_n 0, 1) := by decide +kernel
theorem dX1_sumIsWell_5 : decode cX1_sumIsWell 5 = .ok (.getfield 15, 3) := by decide +kernel
theorem dX1_sumIsWell_8 : decode cX1_sumIsWell 8 = .ok (.invokevirtual 62, 3) := by decide +kernel
theorem dX1_sumIsWell_11 : decode cX1_sumIsWell 11 = .ok (.aload_n 0, 1) := by decide +kernel
theorem dX1_sumIsWell_12 : decode cX1_sumIsWell 12 = .ok (.getfield 28, 3) := by decide +kernel
theorem dX1_sumIsWell_15 : decode cX1_sumIsWell 15 = .ok (.iconst 4, 1) := by decide +kernel
theorem dX1_sumIsWell_16 : decode cX1_sumIsWell 16 = .ok (.aload_n 0, 1) := by decide +kernel
theorem dX1_sumIsWell_17 : decode cX1_sumIsWell 17 = .ok (.getfield 15, 3) := by decide +kernel
theorem dX1_sumIsWell_20 : decode cX1_sumIsWell 20 = .ok (.invokevirtual 78, 3) := by decide +kernel
theorem dX1_sumIsWell_23 : decode cX1_sumIsWell 23 = .ok (.if_icmp .eq 15, 3) := by decide +kernel
theorem dX1_sumIsWell_26 : decode cX1_sumIsWell 26 = .ok (.aload_n 0, 1) := by decide +kernel
theorem dX1_sumIsWell_27 : decode cX1_sumIsWell 27 = .ok (.iconst 2, 1) := by decide +kernel
theorem dX1_sumIsWell_28 : decode cX1_sumIsWell 28 = .ok (.aload_n 0, 1) := by decide +kernel
theorem dX1_sumIsWell_29 : decode cX1_sumIsWell 29 = .ok (.getfield 15, 3) := by decide +kernel
theorem dX1_sumIsWell_32 : decode cX1_sumIsWell 32 = .ok (.invokevirtual 67, 3) := by decide +kernel
theorem dX1_sumIsWell_35 : decode cX1_sumIsWell 35 = .ok (.ifCond .eq 7, 3) := by decide +kernel
theorem dX1_sumIsWell_38 : decode cX1_sumIsWell 38 = .ok (.iconst 1, 1) := by decide +kernel
theorem dX1_sumIsWell_39 : decode cX1_sumIsWell 39 = .ok (.goto 4, 3) := by decide +kernel
theorem dX1_sumIsWell_42 : decode cX1_sumIsWell 42 = .ok (.iconst 0, 1) := by decide +kernel
theorem dX1_sumIsWell_43 : decode cX1_sumIsWell 43 = .ok (.ireturn, 1) := by decide +kernel
theorem dX1_identIsWell_0 : decode cX1_identIsWell 0 = .ok (.bipush 7, 2) := by decide +kernel
theorem dX1_identIsWell_2 : decode cX1_identIsWell 2 = .ok (.istore_n 1, 1) := by decide +kernel
theorem dX1_identIsWell_3 : decode cX1_identIsWell 3 = .ok (.iload_n 1, 1) := by decide +kernel
theorem dX1_identIsWell_4 : decode cX1_identIsWell 4 = .ok (.bipush 11, 2) := by decide +kernel
theorem dX1_identIsWell_6 : decode cX1_identIsWell 6 = .ok (.if_icmp .ge 30, 3) := by decide +kernel
theorem dX1_identIsWell_9 : decode cX1_identIsWell 9 = .ok (.aload_n 0, 1) := by decide +kernel
theorem dX1_identIsWell_10 : decode cX1_identIsWell 10 = .ok (.getfield 28, 3) := by decide +kernel
theorem dX1_identIsWell_13 : decode cX1_identIsWell 13 = .ok (.iload_n 1, 1) := by decide +kernel
theorem dX1_identIsWell_14 : decode cX1_identIsWell 14 = .ok (.invokevirtual 62, 3) := by decide +kernel
theorem dX1_identIsWell_17 : decode cX1_identIsWell 17 = .ok (.invokestatic 81, 3) := by decide +kernel
theorem dX1_identIsWell_20 : decode cX1_identIsWell 20 = .ok (.ifCond .ne 10, 3) := by decide +kernel
theorem dX1_identIsWell_23 : decode cX1_identIsWell 23 = .ok (.aload_n 0, 1) := by decide +kernel
theorem dX1_identIsWell_24 : decode cX1_identIsWell 24 = .ok (.iconst 3, 1) := by decide +kernel
theorem dX1_identIsWell_25 : decode cX1_identIsWell 25 = .ok (.iload_n 1, 1) := by decide +kernel
theorem dX1_identIsWell_26 : decode cX1_identIsWell 26 = .ok (.invokevirtual 67, 3) := by decide +kernel
theorem dX1_identIsWell_29 : decode cX1_identIsWell 29 = .ok (.ireturn, 1) := by decide +kernel
theorem dX1_identIsWell_30 : decode cX1_identIsWell 30 = .ok (.iinc 1 1, 3) := by decide +kernel
theorem dX1_identIsWell_33 : decode cX1_identIsWell 33 = .ok (.goto (-30), 3) := by decide +kernel
theorem dX1_identIsWell_36 : decode cX1_identIsWell 36 = .ok (.iconst 1, 1) := by decide +kernel
theorem dX1_identIsWell_37 : decode cX1_identIsWell 37 = .ok (.ireturn, 1) := by decide +kernel
theorem dX1_readItem_0 : decode cX1_readItem 0 = .ok (.aload_n 0, 1) := by decide +kernel
theorem dX1_readItem_1 : decode cX1_readItem 1 = .ok (.getfield 9, 3) := by decide +kernel
theorem dX1_readItem_4 : decode cX1_readItem 4 = .ok (.istore_n 1, 1) := by decide +kernel
theorem dX1_readItem_5 : decode cX1_readItem 5 = .ok (.aload_n 0, 1) := by decide +kernel
theorem dX1_readItem_6 : decode cX1_readItem 6 = .ok (.invokevirtual 85, 3) := by decide +kernel
theorem dX1_readItem_9 : decode cX1_readItem 9 = .ok (.istore_n 2, 1) := by decide +kernel
theorem dX1_readItem_10 : decode cX1_readItem 10 = .ok (.iload_n 2, 1) := by decide +kernel
theorem dX1_readItem_11 : decode cX1_readItem 11 = .ok (.bipush 47, 2) := by decide +kernel
theorem dX1_readItem_13 : decode cX1_readItem 13 = .ok (.if_icmp .ne 5, 3) := by decide +kernel
theorem dX1_readItem_16 : decode cX1_readItem 16 = .ok (.iconst 1, 1) := by decide +kernel
theorem dX1_readItem_17 : decode cX1_readItem 17 = .ok (.ireturn, 1) := by decide +kernel
theorem dX1_readItem_18 : decode cX1_readItem 18 = .ok (.iload_n 2, 1) := by decide +kernel
theorem dX1_readItem_19 : decode cX1_readItem 19 = .ok (.bipush 31, 2) := by decide +kernel
theorem dX1_readItem_21 : decode cX1_readItem 21 = .ok (.if_icmp .ne 37, 3) := by decide +kernel
theorem dX1_readItem_24 : decode cX1_readItem 24 = .ok (.aload_n 0, 1) := by decide +kernel
theorem dX1_readItem_25 : decode cX1_readItem 25 = .ok (.iconst 1, 1) := by decide +kernel
theorem dX1_readItem_26 : decode cX1_readItem 26 = .ok (.putfield 24, 3) := by decide +kernel
theorem dX1_readItem_29 : decode cX1_readItem 29 = .ok (.aload_n 0, 1) := by decide +kernel
theorem dX1_readItem_30 : decode cX1_readItem 30 = .ok (.getfield 9, 3) := by decide +kernel
theorem dX1_readItem_33 : decode cX1_readItem 33 = .ok (.aload_n 0, 1) := by decide +kernel
theorem dX1_readItem_34 : decode cX1_readItem 34 = .ok (.getfield 15, 3) := by decide +kernel
theorem dX1_readItem_37 : decode cX1_readItem 37 = .ok (.if_icmp .eq 15, 3) := by decide +kernel
theorem dX1_readItem_40 : decode cX1_readItem 40 = .ok (.aload_n 0, 1) := by decide +kernel
theorem dX1_readItem_41 : decode cX1_readItem 41 = .ok (.iconst 4, 1) := by decide +kernel
theorem dX1_readItem_42 : decode cX1_readItem 42 = .ok (.aload_n 0, 1) := by decide +kernel
theorem dX1_readItem_43 : decode cX1_readItem 43 = .ok (.getfield 9, 3) := by decide +kernel
theorem dX1_readItem_46 : decode cX1_readItem 46 = .ok (.invokevirtual 67, 3) := by decide +kernel
theorem dX1_readItem_49 : decode cX1_readItem 49 = .ok (.ifCond .eq 7, 3) := by decide +kernel
theorem dX1_readItem_52 : decode cX1_readItem 52 = .ok (.iconst 1, 1) := by decide +kernel
theorem dX1_readItem_53 : decode cX1_readItem 53 = .ok (.goto 4, 3) := by decide +kernel
theorem dX1_readItem_56 : decode cX1_readItem 56 = .ok (.iconst 0, 1) := by decide +kernel
theorem dX1_readItem_57 : decode cX1_readItem 57 = .ok (.ireturn, 1) := by decide +kernel
theorem dX1_readItem_58 : decode cX1_readItem 58 = .ok (.aload_n 0, 1) := by decide +kernel
theorem dX1_readItem_59 : decode cX1_readItem 59 = .ok (.getfield 32, 3) := by decide +kernel
theorem dX1_readItem_62 : decode cX1_readItem 62 = .ok (.invokevirtual 88, 3) := by decide +kernel
theorem dX1_readItem_65 : decode cX1_readItem 65 = .ok (.astore_n 3, 1) := by decide +kernel
theorem dX1_readItem_66 : decode cX1_readItem 66 = .ok (.aload_n 3, 1) := by decide +kernel
theorem dX1_readItem_67 : decode cX1_readItem 67 = .ok (.iload_n 2, 1) := by decide +kernel
theorem dX1_readItem_68 : decode cX1_readItem 68 = .ok (.invokevirtual 92, 3) := by decide +kernel
theorem dX1_readItem_71 : decode cX1_readItem 71 = .ok (.iload_n 2, 1) := by decide +kernel
theorem dX1_readItem_72 : decode cX1_readItem 72 = .ok (.bipush 15, 2) := by decide +kernel
theorem dX1_readItem_74 : decode cX1_readItem 74 = .ok (.if_icmp .ne 22, 3) := by decide +kernel
theorem dX1_readItem_77 : decode cX1_readItem 77 = .ok (.aload_n 0, 1) := by decide +kernel
theorem dX1_readItem_78 : decode cX1_readItem 78 = .ok (.aload_n 3, 1) := by decide +kernel
theorem dX1_readItem_79 : decode cX1_readItem 79 = .ok (.aload_n 0, 1) := by decide +kernel
theorem dX1_readItem_80 : decode cX1_readItem 80 = .ok (.getfield 15, 3) := by decide +kernel
theorem dX1_readItem_83 : decode cX1_readItem 83 = .ok (.aload_n 0, 1) := by decide +kernel
theorem dX1_readItem_84 : decode cX1_readItem 84 = .ok (.getfield 9, 3) := by decide +kernel
theorem dX1_readItem_87 : decode cX1_readItem 87 = .ok (.isub, 1) := by decide +kernel
theorem dX1_readItem_88 : decode cX1_readItem 88 = .ok (.invokevirtual 97, 3) := by decide +kernel
theorem dX1_readItem_91 : decode cX1_readItem 91 = .ok (.istore 4, 2) := by decide +kernel
theorem dX1_readItem_93 : decode cX1_readItem 93 = .ok (.goto 57, 3) := by decide +kernel
theorem dX1_readItem_96 : decode cX1_readItem 96 = .ok (.aload_n 3, 1) := by decide +kernel
theorem dX1_readItem_97 : decode cX1_readItem 97 = .ok (.invokevirtual 101, 3) := by decide +kernel
theorem dX1_readItem_100 : decode cX1_readItem 100 = .ok (.bipush 15, 2) := by decide +kernel
theorem dX1_readItem_102 : decode cX1_readItem 102 = .ok (.if_icmp .ne 15, 3) := by decide +kernel
theorem dX1_readItem_105 : decode cX1_readItem 105 = .ok (.aload_n 0, 1) := by decide +kernel
theorem dX1_readItem_106 : decode cX1_readItem 106 = .ok (.bipush 9, 2) := by decide +kernel
theorem dX1_readItem_108 : decode cX1_readItem 108 = .ok (.iload_n 1, 1) := by decide +kernel
theorem dX1_readItem_109 : decode cX1_readItem 109 = .ok (.invokevirtual 67, 3) := by decide +kernel
theorem dX1_readItem_112 : decode cX1_readItem 112 = .ok (.istore 4, 2) := by decide +kernel
theorem dX1_readItem_114 : decode cX1_readItem 114 = .ok (.goto 36, 3) := by decide +kernel
theorem dX1_readItem_117 : decode cX1_readItem 117 = .ok (.aload_n 0, 1) := by decide +kernel
theorem dX1_readItem_118 : decode cX1_readItem 118 = .ok (.aload_n 3, 1) := by decide +kernel
theorem dX1_readItem_119 : decode cX1_readItem 119 = .ok (.iload_n 2, 1) := by decide +kernel
theorem dX1_readItem_120 : decode cX1_readItem 120 = .ok (.invokevirtual 104, 3) := by decide +kernel
theorem dX1_readItem_123 : decode cX1_readItem 123 = .ok (.ifCond .eq 24, 3) := by decide +kernel
theorem dX1_readItem_126 : decode cX1_readItem 126 = .ok (.aload_n 0, 1) := by decide +kernel
theorem dX1_readItem_127 : decode cX1_readItem 127 = .ok (.aload_n 3, 1) := by decide +kernel
theorem dX1_readItem_128 : decode cX1_readItem 128 = .ok (.invokevirtual 107, 3) := by decide +kernel
theorem dX1_readItem_131 : decode cX1_readItem 131 = .ok (.ifCond .eq 16, 3) := by decide +kernel
theorem dX1_readItem_134 : decode cX1_readItem 134 = .ok (.aload_n 0, 1) := by decide +kernel
theorem dX1_readItem_135 : decode cX1_readItem 135 = .ok (.aload_n 3, 1) := by decide +kernel
theorem dX1_readItem_136 : decode cX1_readItem 136 = .ok (.iload_n 1, 1) := by decide +kernel
theorem dX1_readItem_137 : decode cX1_readItem 137 = .ok (.invokevirtual 111, 3) := by decide +kernel
theorem dX1_readItem_140 : decode cX1_readItem 140 = .ok (.ifCond .eq 7, 3) := by decide +kernel
theorem dX1_readItem_143 : decode cX1_readItem 143 = .ok (.iconst 1, 1) := by decide +kernel
theorem dX1_readItem_144 : decode cX1_readItem 144 = .ok (.goto 4, 3) := by decide +kernel
theorem dX1_readItem_147 : decode cX1_readItem 147 = .ok (.iconst 0, 1) := by decide +kernel
theorem dX1_readItem_148 : decode cX1_readItem 148 = .ok (.istore 4, 2) := by decide +kernel
theorem dX1_readItem_150 : decode cX1_readItem 150 = .ok (.iload 4, 2) := by decide +kernel
theorem dX1_readItem_152 : decode cX1_readItem 152 = .ok (.ifCond .eq 27, 3) := by decide +kernel
theorem dX1_readItem_155 : decode cX1_readItem 155 = .ok (.aload_n 0, 1) := by decide +kernel
theorem dX1_readItem_156 : decode cX1_readItem 156 = .ok (.getfield 32, 3) := by decide +kernel
theorem dX1_readItem_159 : decode cX1_readItem 159 = .ok (.invokevirtual 114, 3) := by decide +kernel
theorem dX1_readItem_162 : decode cX1_readItem 162 = .ok (.ifCond .ne 13, 3) := by decide +kernel
theorem dX1_readItem_165 : decode cX1_readItem 165 = .ok (.aload_n 0, 1) := by decide +kernel
theorem dX1_readItem_166 : decode cX1_readItem 166 = .ok (.bipush 10, 2) := by decide +kernel
theorem dX1_readItem_168 : decode cX1_readItem 168 = .ok (.iload_n 1, 1) := by decide +kernel
theorem dX1_readItem_169 : decode cX1_readItem 169 = .ok (.invokevirtual 67, 3) := by decide +kernel
theorem dX1_readItem_172 : decode cX1_readItem 172 = .ok (.ifCond .eq 7, 3) := by decide +kernel
theorem dX1_readItem_175 : decode cX1_readItem 175 = .ok (.iconst 1, 1) := by decide +kernel
theorem dX1_readItem_176 : decode cX1_readItem 176 = .ok (.goto 4, 3) := by decide +kernel
theorem dX1_readItem_179 : decode cX1_readItem 179 = .ok (.iconst 0, 1) := by decide +kernel
theorem dX1_readItem_180 : decode cX1_readItem 180 = .ok (.ireturn, 1) := by decide +kernel
theorem dX1_take_0 : decode cX1_take 0 = .ok (.aload_n 0, 1) := by decide +kernel
theorem dX1_take_1 : decode cX1_take 1 = .ok (.getfield 28, 3) := by decide +kernel
theorem dX1_take_4 : decode cX1_take 4 = .ok (.aload_n 0, 1) := by decide +kernel
theorem dX1_take_5 : decode cX1_take 5 = .ok (.getfield 9, 3) := by decide +kernel
theorem dX1_take_8 : decode cX1_take 8 = .ok (.invokevirtual 62, 3) := by decide +kernel
theorem dX1_take_11 : decode cX1_take 11 = .ok (.istore_n 1, 1) := by decide +kernel
theorem dX1_take_12 : decode cX1_take 12 = .ok (.aload_n 0, 1) := by decide +kernel
theorem dX1_take_13 : decode cX1_take 13 = .ok (.dup, 1) := by decide +kernel
theorem dX1_take_14 : decode cX1_take 14 = .ok (.getfield 9, 3) := by decide +kernel
theorem dX1_take_17 : decode cX1_take 17 = .ok (.iconst 1, 1) := by decide +kernel
theorem dX1_take_18 : decode cX1_take 18 = .ok (.iadd, 1) := by decide +kernel
theorem dX1_take_19 : decode cX1_take 19 = .ok (.putfield 9, 3) := by decide +kernel
theorem dX1_take_22 : decode cX1_take 22 = .ok (.iload_n 1, 1) := by decide +kernel
theorem dX1_take_23 : decode cX1_take 23 = .ok (.ireturn, 1) := by decide +kernel
theorem dX1_areThere_0 : decode cX1_areThere 0 = .ok (.aload_n 0, 1) := by decide +kernel
theorem dX1_areThere_1 : decode cX1_areThere 1 = .ok (.getfield 9, 3) := by decide +kernel
theorem dX1_areThere_4 : decode cX1_areThere 4 = .ok (.iload_n 1, 1) := by decide +kernel
theorem dX1_areThere_5 : decode cX1_areThere 5 = .ok (.iadd, 1) := by decide +kernel
theorem dX1_areThere_6 : decode cX1_areThere 6 = .ok (.aload_n 0, 1) := by decide +kernel
theorem dX1_areThere_7 : decode cX1_areThere 7 = .ok (.getfield 15, 3) := by decide +kernel
theorem dX1_areThere_10 : decode cX1_areThere 10 = .ok (.if_icmp .le 15, 3) := by decide +kernel
theorem dX1_areThere_13 : decode cX1_areThere 13 = .ok (.aload_n 0, 1) := by decide +kernel
theorem dX1_areThere_14 : decode cX1_areThere 14 = .ok (.iconst 4, 1) := by decide +kernel
theorem dX1_areThere_15 : decode cX1_areThere 15 = .ok (.aload_n 0, 1) := by decide +kernel
theorem dX1_areThere_16 : decode cX1_areThere 16 = .ok (.getfield 15, 3) := by decide +kernel
theorem dX1_areThere_19 : decode cX1_areThere 19 = .ok (.invokevirtual 67, 3) := by decide +kernel
theorem dX1_areThere_22 : decode cX1_areThere 22 = .ok (.ifCond .eq 7, 3) := by decide +kernel
theorem dX1_areThere_25 : decode cX1_areThere 25 = .ok (.iconst 1, 1) := by decide +kernel
theorem dX1_areThere_26 : decode cX1_areThere 26 = .ok (.goto 4, 3) := by decide +kernel
theorem dX1_areThere_29 : decode cX1_areThere 29 = .ok (.iconst 0, 1) := by decide +kernel
theorem dX1_areThere_30 : decode cX1_areThere 30 = .ok (.ireturn, 1) := by decide +kernel
theorem dX1_readDifes_0 : decode cX1_readDifes 0 = .ok (.iload_n 2, 1) := by decide +kernel
theorem dX1_readDifes_1 : decode cX1_readDifes 1 = .ok (.istore_n 3, 1) := by decide +kernel
theorem dX1_readDifes_2 : decode cX1_readDifes 2 = .ok (.iconst 0, 1) := by decide +kernel
theorem dX1_readDifes_3 : decode cX1_readDifes 3 = .ok (.istore 4, 2) := by decide +kernel
theorem dX1_readDifes_5 : decode cX1_readDifes 5 = .ok (.iload 4, 2) := by decide +kernel
theorem dX1_readDifes_7 : decode cX1_readDifes 7 = .ok (.bipush 10, 2) := by decide +kernel
theorem dX1_readDifes_9 : decode cX1_readDifes 9 = .ok (.if_icmp .gt 56, 3) := by decide +kernel
theorem dX1_readDifes_12 : decode cX1_readDifes 12 = .ok (.iload_n 3, 1) := by decide +kernel
theorem dX1_readDifes_13 : decode cX1_readDifes 13 = .ok (.sipush 128, 3) := by decide +kernel
theorem dX1_readDifes_16 : decode cX1_readDifes 16 = .ok (.iand, 1) := by decide +kernel
theorem dX1_readDifes_17 : decode cX1_readDifes 17 = .ok (.ifCond .eq 48, 3) := by decide +kernel
theorem dX1_readDifes_20 : decode cX1_readDifes 20 = .ok (.aload_n 0, 1) := by decide +kernel
theorem dX1_readDifes_21 : decode cX1_readDifes 21 = .ok (.iconst 1, 1) := by decide +kernel
theorem dX1_readDifes_22 : decode cX1_readDifes 22 = .ok (.invokevirtual 117, 3) := by decide +kernel
theorem dX1_readDifes_25 : decode cX1_readDifes 25 = .ok (.ifCond .ne 5, 3) := by decide +kernel
theorem dX1_readDifes_28 : decode cX1_readDifes 28 = .ok (.iconst 0, 1) := by decide +kernel
theorem dX1_readDifes_29 : decode cX1_readDifes 29 = .ok (.ireturn, 1) := by decide +kernel
theorem dX1_readDifes_30 : decode cX1_readDifes 30 = .ok (.iload 4, 2) := by decide +kernel
theorem dX1_readDifes_32 : decode cX1_readDifes 32 = .ok (.bipush 10, 2) := by decide +kernel
theorem dX1_readDifes_34 : decode cX1_readDifes 34 = .ok (.if_icmp .ne 13, 3) := by decide +kernel
theorem dX1_readDifes_37 : decode cX1_readDifes 37 = .ok (.aload_n 0, 1) := by decide +kernel
theorem dX1_readDifes_38 : decode cX1_readDifes 38 = .ok (.iconst 5, 1) := by decide +kernel
theorem dX1_readDifes_39 : decode cX1_readDifes 39 = .ok (.aload_n 0, 1) := by decide +kernel
theorem dX1_readDifes_40 : decode cX1_readDifes 40 = .ok (.getfield 9, 3) := by decide +kernel
theorem dX1_readDifes_43 : decode cX1_readDifes 43 = .ok (.invokevirtual 67, 3) := by decide +kernel
theorem dX1_readDifes_46 : decode cX1_readDifes 46 = .ok (.ireturn, 1) := by decide +kernel
theorem dX1_readDifes_47 : decode cX1_readDifes 47 = .ok (.aload_n 0, 1) := by decide +kernel
theorem dX1_readDifes_48 : decode cX1_readDifes 48 = .ok (.invokevirtual 85, 3) := by decide +kernel
theorem dX1_readDifes_51 : decode cX1_readDifes 51 = .ok (.istore_n 3, 1) := by decide +kernel
theorem dX1_readDifes_52 : decode cX1_readDifes 52 = .ok (.aload_n 1, 1) := by decide +kernel
theorem dX1_readDifes_53 : decode cX1_readDifes 53 = .ok (.iload 4, 2) := by decide +kernel
theorem dX1_readDifes_55 : decode cX1_readDifes 55 = .ok (.iload_n 3, 1) := by decide +kernel
theorem dX1_readDifes_56 : decode cX1_readDifes 56 = .ok (.invokevirtual 120, 3) := by decide +kernel
theorem dX1_readDifes_59 : decode cX1_readDifes 59 = .ok (.iinc 4 1, 3) := by decide +kernel
theorem dX1_readDifes_62 : decode cX1_readDifes 62 = .ok (.goto (-57), 3) := by decide +kernel
theorem dX1_readDifes_65 : decode cX1_readDifes 65 = .ok (.iconst 1, 1) := by decide +kernel
theorem dX1_readDifes_66 : decode cX1_readDifes 66 = .ok (.ireturn, 1) := by decide +kernel
theorem dX1_readVifs_0 : decode cX1_readVifs 0 = .ok (.sipush 128, 3) := by decide +kernel
theorem dX1_readVifs_3 : decode cX1_readVifs 3 = .ok (.istore_n 2, 1) := by decide +kernel
theorem dX1_readVifs_4 : decode cX1_readVifs 4 = .ok (.iconst 0, 1) := by decide +kernel
theorem dX1_readVifs_5 : decode cX1_readVifs 5 = .ok (.istore_n 3, 1) := by decide +kernel
theorem dX1_readVifs_6 : decode cX1_readVifs 6 = .ok (.iload_n 3, 1) := by decide +kernel
theorem dX1_readVifs_7 : decode cX1_readVifs 7 = .ok (.bipush 11, 2) := by decide +kernel
theorem dX1_readVifs_9 : decode cX1_readVifs 9 = .ok (.if_icmp .gt 54, 3) := by decide +kernel
theorem dX1_readVifs_12 : decode cX1_readVifs 12 = .ok (.iload_n 2, 1) := by decide +kernel
theorem dX1_readVifs_13 : decode cX1_readVifs 13 = .ok (.sipush 128, 3) := by decide +kernel
theorem dX1_readVifs_16 : decode cX1_readVifs 16 = .ok (.iand, 1) := by decide +kernel
theorem dX1_readVifs_17 : decode cX1_readVifs 17 = .ok (.ifCond .eq 46, 3) := by decide +kernel
theorem dX1_readVifs_20 : decode cX1_readVifs 20 = .ok (.aload_n 0, 1) := by decide +kernel
theorem dX1_readVifs_21 : decode cX1_readVifs 21 = .ok (.iconst 1, 1) := by decide +kernel
theorem dX1_readVifs_22 : decode cX1_readVifs 22 = .ok (.invokevirtual 117, 3) := by decide +kernel
theorem dX1_readVifs_25 : decode cX1_readVifs 25 = .ok (.ifCond .ne 5, 3) := by decide +kernel
theorem dX1_readVifs_28 : decode cX1_readVifs 28 = .ok (.iconst 0, 1) := by decide +kernel
theorem dX1_readVifs_29 : decode cX1_readVifs 29 = .ok (.ireturn, 1) := by decide +kernel
theorem dX1_readVifs_30 : decode cX1_readVifs 30 = .ok (.iload_n 3, 1) := by decide +kernel
theorem dX1_readVifs_31 : decode cX1_readVifs 31 = .ok (.bipush 10, 2) := by decide +kernel
theorem dX1_readVifs_33 : decode cX1_readVifs 33 = .ok (.if_icmp .le 14, 3) := by decide +kernel
theorem dX1_readVifs_36 : decode cX1_readVifs 36 = .ok (.aload_n 0, 1) := by decide +kernel
theorem dX1_readVifs_37 : decode cX1_readVifs 37 = .ok (.bipush 6, 2) := by decide +kernel
theorem dX1_readVifs_39 : decode cX1_readVifs 39 = .ok (.aload_n 0, 1) := by decide +kernel
theorem dX1_readVifs_40 : decode cX1_readVifs 40 = .ok (.getfield 9, 3) := by decide +kernel
theorem dX1_readVifs_43 : decode cX1_readVifs 43 = .ok (.invokevirtual 67, 3) := by decide +kernel
theorem dX1_readVifs_46 : decode cX1_readVifs 46 = .ok (.ireturn, 1) := by decide +kernel
theorem dX1_readVifs_47 : decode cX1_readVifs 47 = .ok (.aload_n 0, 1) := by decide +kernel
theorem dX1_readVifs_48 : decode cX1_readVifs 48 = .ok (.invokevirtual 85, 3) := by decide +kernel
theorem dX1_readVifs_51 : decode cX1_readVifs 51 = .ok (.istore_n 2, 1) := by decide +kernel
theorem dX1_readVifs_52 : decode cX1_readVifs 52 = .ok (.aload_n 1, 1) := by decide +kernel
theorem dX1_readVifs_53 : decode cX1_readVifs 53 = .ok (.iload_n 2, 1) := by decide +kernel
theorem dX1_readVifs_54 : decode cX1_readVifs 54 = .ok (.invokevirtual 124, 3) := by decide +kernel
theorem dX1_readVifs_57 : decode cX1_readVifs 57 = .ok (.iinc 3 1, 3) := by decide +kernel
theorem dX1_readVifs_60 : decode cX1_readVifs 60 = .ok (.goto (-54), 3) := by decide +kernel
theorem dX1_readVifs_63 : decode cX1_readVifs 63 = .ok (.iconst 1, 1) := by decide +kernel
theorem dX1_readVifs_64 : decode cX1_readVifs 64 = .ok (.ireturn, 1) := by decide +kernel
theorem dX1_readValue_0 : decode cX1_readValue 0 = .ok (.aload_n 1, 1) := by decide +kernel
theorem dX1_readValue_1 : decode cX1_readValue 1 = .ok (.invokevirtual 101, 3) := by decide +kernel
theorem dX1_readValue_4 : decode cX1_readValue 4 = .ok (.istore_n 3, 1) := by decide +kernel
theorem dX1_readValue_5 : decode cX1_readValue 5 = .ok (.iload_n 3, 1) := by decide +kernel
theorem dX1_readValue_6 : decode cX1_readValue 6 = .ok (.tableswitch 130 0 14 #[74, 76, 76, 76, 76, 83, 90, 98, 130, 106, 106, 106, 106, 124, 116], 74) := by decide +kernel
theorem dX1_readValue_80 : decode cX1_readValue 80 = .ok (.iconst 1, 1) := by decide +kernel
theorem dX1_readValue_81 : decode cX1_readValue 81 = .ok (.ireturn, 1) := by decide +kernel
theorem dX1_readValue_82 : decode cX1_readValue 82 = .ok (.aload_n 0, 1) := by decide +kernel
theorem dX1_readValue_83 : decode cX1_readValue 83 = .ok (.aload_n 1, 1) := by decide +kernel
theorem dX1_readValue_84 : decode cX1_readValue 84 = .ok (.iload_n 3, 1) := by decide +kernel
theorem dX1_readValue_85 : decode cX1_readValue 85 = .ok (.invokevirtual 127, 3) := by decide +kernel
theorem dX1_readValue_88 : decode cX1_readValue 88 = .ok (.ireturn, 1) := by decide +kernel
theorem dX1_readValue_89 : decode cX1_readValue 89 = .ok (.aload_n 0, 1) := by decide +kernel
theorem dX1_readValue_90 : decode cX1_readValue 90 = .ok (.aload_n 1, 1) := by decide +kernel
theorem dX1_readValue_91 : decode cX1_readValue 91 = .ok (.iconst 4, 1) := by decide +kernel
theorem dX1_readValue_92 : decode cX1_readValue 92 = .ok (.invokevirtual 127, 3) := by decide +kernel
theorem dX1_readValue_95 : decode cX1_readValue 95 = .ok (.ireturn, 1) := by decide +kernel
theorem dX1_readValue_96 : decode cX1_readValue 96 = .ok (.aload_n 0, 1) := by decide +kernel
theorem dX1_readValue_97 : decode cX1_readValue 97 = .ok (.aload_n 1, 1) := by decide +kernel
theorem dX1_readValue_98 : decode cX1_readValue 98 = .ok (.bipush 6, 2) := by decide +kernel
theorem dX1_readValue_100 : decode cX1_readValue 100 = .ok (.invokevirtual 127, 3) := by decide +kernel
theorem dX1_readValue_103 : decode cX1_readValue 103 = .ok (.ireturn, 1) := by decide +kernel
theorem dX1_readValue_104 : decode cX1_readValue 104 = .ok (.aload_n 0, 1) := by decide +kernel
theorem dX1_readValue_105 : decode cX1_readValue 105 = .ok (.aload_n 1, 1) := by decide +kernel
theorem dX1_readValue_106 : decode cX1_readValue 106 = .ok (.bipush 8, 2) := by decide +kernel
theorem dX1_readValue_108 : decode cX1_readValue 108 = .ok (.invokevirtual 127, 3) := by decide +kernel
theorem dX1_readValue_111 : decode cX1_readValue 111 = .ok (.ireturn, 1) := by decide +kernel
theorem dX1_readValue_112 : decode cX1_readValue 112 = .ok (.aload_n 0, 1) := by decide +kernel
theorem dX1_readValue_113 : decode cX1_readValue 113 = .ok (.aload_n 1, 1) := by decide +kernel
theorem dX1_readValue_114 : decode cX1_readValue 114 = .ok (.iload_n 3, 1) := by decide +kernel
theorem dX1_readValue_115 : decode cX1_readValue 115 = .ok (.bipush 8, 2) := by decide +kernel
theorem dX1_readValue_117 : decode cX1_readValue 117 = .ok (.isub, 1) := by decide +kernel
theorem dX1_readValue_118 : decode cX1_readValue 118 = .ok (.invokevirtual 130, 3) := by decide +kernel
theorem dX1_readValue_121 : decode cX1_readValue 121 = .ok (.ireturn, 1) := by decide +kernel
theorem dX1_readValue_122 : decode cX1_readValue 122 = .ok (.aload_n 0, 1) := by decide +kernel
theorem dX1_readValue_123 : decode cX1_readValue 123 = .ok (.aload_n 1, 1) := by decide +kernel
theorem dX1_readValue_124 : decode cX1_readValue 124 = .ok (.bipush 6, 2) := by decide +kernel
theorem dX1_readValue_126 : decode cX1_readValue 126 = .ok (.invokevirtual 130, 3) := by decide +kernel
theorem dX1_readValue_129 : decode cX1_readValue 129 = .ok (.ireturn, 1) := by decide +kernel
theorem dX1_readValue_130 : decode cX1_readValue 130 = .ok (.aload_n 0, 1) := by decide +kernel
theorem dX1_readValue_131 : decode cX1_readValue 131 = .ok (.aload_n 1, 1) := by decide +kernel
theorem dX1_readValue_132 : decode cX1_readValue 132 = .ok (.invokevirtual 133, 3) := by decide +kernel
theorem dX1_readValue_135 : decode cX1_readValue 135 = .ok (.ireturn, 1) := by decide +kernel
theorem dX1_readValue_136 : decode cX1_readValue 136 = .ok (.aload_n 0, 1) := by decide +kernel
theorem dX1_readValue_137 : decode cX1_readValue 137 = .ok (.bipush 9, 2) := by decide +kernel
theorem dX1_readValue_139 : decode cX1_readValue 139 = .ok (.iload_n 2, 1) := by decide +kernel
theorem dX1_readValue_140 : decode cX1_readValue 140 = .ok (.invokevirtual 67, 3) := by decide +kernel
theorem dX1_readValue_143 : decode cX1_readValue 143 = .ok (.ireturn, 1) := by decide +kernel
theorem dX1_readSized_0 : decode cX1_readSized 0 = .ok (.aload_n 0, 1) := by decide +kernel
theorem dX1_readSized_1 : decode cX1_readSized 1 = .ok (.iconst 1, 1) := by decide +kernel
theorem dX1_readSized_2 : decode cX1_readSized 2 = .ok (.invokevirtual 117, 3) := by decide +kernel
theorem dX1_readSized_5 : decode cX1_readSized 5 = .ok (.ifCond .ne 5, 3) := by decide +kernel
theorem dX1_readSized_8 : decode cX1_readSized 8 = .ok (.iconst 0, 1) := by decide +kernel
theorem dX1_readSized_9 : decode cX1_readSized 9 = .ok (.ireturn, 1) := by decide +kernel
theorem dX1_readSized_10 : decode cX1_readSized 10 = .ok (.aload_n 0, 1) := by decide +kernel
theorem dX1_readSized_11 : decode cX1_readSized 11 = .ok (.invokevirtual 85, 3) := by decide +kernel
theorem dX1_readSized_14 : decode cX1_readSized 14 = .ok (.istore_n 2, 1) := by decide +kernel
theorem dX1_readSized_15 : decode cX1_readSized 15 = .ok (.iload_n 2, 1) := by decide +kernel
theorem dX1_readSized_16 : decode cX1_readSized 16 = .ok (.sipush 191, 3) := by decide +kernel
theorem dX1_readSized_19 : decode cX1_readSized 19 = .ok (.if_icmp .gt 10, 3) := by decide +kernel
theorem dX1_readSized_22 : decode cX1_readSized 22 = .ok (.aload_n 0, 1) := by decide +kernel
theorem dX1_readSized_23 : decode cX1_readSized 23 = .ok (.aload_n 1, 1) := by decide +kernel
theorem dX1_readSized_24 : decode cX1_readSized 24 = .ok (.iload_n 2, 1) := by decide +kernel
theorem dX1_readSized_25 : decode cX1_readSized 25 = .ok (.invokevirtual 97, 3) := by decide +kernel
theorem dX1_readSized_28 : decode cX1_readSized 28 = .ok (.ireturn, 1) := by decide +kernel
theorem dX1_readSized_29 : decode cX1_readSized 29 = .ok (.iload_n 2, 1) := by decide +kernel
theorem dX1_readSized_30 : decode cX1_readSized 30 = .ok (.sipush 201, 3) := by decide +kernel
theorem dX1_readSized_33 : decode cX1_readSized 33 = .ok (.if_icmp .gt 16, 3) := by decide +kernel
theorem dX1_readSized_36 : decode cX1_readSized 36 = .ok (.aload_n 0, 1) := by decide +kernel
theorem dX1_readSized_37 : decode cX1_readSized 37 = .ok (.aload_n 1, 1) := by decide +kernel
theorem dX1_readSized_38 : decode cX1_readSized 38 = .ok (.iload_n 2, 1) := by decide +kernel
theorem dX1_readSized_39 : decode cX1_readSized 39 = .ok (.sipush 192, 3) := by decide +kernel
theorem dX1_readSized_42 : decode cX1_readSized 42 = .ok (.isub, 1) := by decide +kernel
theorem dX1_readSized_43 : decode cX1_readSized 43 = .ok (.iconst 1, 1) := by decide +kernel
theorem dX1_readSized_44 : decode cX1_readSized 44 = .ok (.iconst 0, 1) := by decide +kernel
theorem dX1_readSized_45 : decode cX1_readSized 45 = .ok (.invokevirtual 136, 3) := by decide +kernel
theorem dX1_readSized_48 : decode cX1_readSized 48 = .ok (.ireturn, 1) := by decide +kernel
theorem dX1_readSized_49 : decode cX1_readSized 49 = .ok (.iload_n 2, 1) := by decide +kernel
theorem dX1_readSized_50 : decode cX1_readSized 50 = .ok (.sipush 208, 3) := by decide +kernel
theorem dX1_readSized_53 : decode cX1_readSized 53 = .ok (.if_icmp .lt 23, 3) := by decide +kernel
theorem dX1_readSized_56 : decode cX1_readSized 56 = .ok (.iload_n 2, 1) := by decide +kernel
theorem dX1_readSized_57 : decode cX1_readSized 57 = .ok (.sipush 217, 3) := by decide +kernel
theorem dX1_readSized_60 : decode cX1_readSized 60 = .ok (.if_icmp .gt 16, 3) := by decide +kernel
theorem dX1_readSized_63 : decode cX1_readSized 63 = .ok (.aload_n 0, 1) := by decide +kernel
theorem dX1_readSized_64 : decode cX1_readSized 64 = .ok (.aload_n 1, 1) := by decide +kernel
theorem dX1_readSized_65 : decode cX1_readSized 65 = .ok (.iload_n 2, 1) := by decide +kernel
theorem dX1_readSized_66 : decode cX1_readSized 66 = .ok (.sipush 208, 3) := by decide +kernel
theorem dX1_readSized_69 : decode cX1_readSized 69 = .ok (.isub, 1) := by decide +kernel
theorem dX1_readSized_70 : decode cX1_readSized 70 = .ok (.iconst (-1), 1) := by decide +kernel
theorem dX1_readSized_71 : decode cX1_readSized 71 = .ok (.iconst 0, 1) := by decide +kernel
theorem dX1_readSized_72 : decode cX1_readSized 72 = .ok (.invokevirtual 136, 3) := by decide +kernel
theorem dX1_readSized_75 : decode cX1_readSized 75 = .ok (.ireturn, 1) := by decide +kernel
theorem dX1_readSized_76 : decode cX1_readSized 76 = .ok (.iload_n 2, 1) := by decide +kernel
theorem dX1_readSized_77 : decode cX1_readSized 77 = .ok (.sipush 224, 3) := by decide +kernel
theorem dX1_readSized_80 : decode cX1_readSized 80 = .ok (.if_icmp .lt 21, 3) := by decide +kernel
theorem dX1_readSized_83 : decode cX1_readSized 83 = .ok (.iload_n 2, 1) := by decide +kernel
theorem dX1_readSized_84 : decode cX1_readSized 84 = .ok (.sipush 232, 3) := by decide +kernel
theorem dX1_readSized_87 : decode cX1_readSized 87 = .ok (.if_icmp .gt 14, 3) := by decide +kernel
theorem dX1_readSized_90 : decode cX1_readSized 90 = .ok (.aload_n 0, 1) := by decide +kernel
theorem dX1_readSized_91 : decode cX1_readSized 91 = .ok (.aload_n 1, 1) := by decide +kernel
theorem dX1_readSized_92 : decode cX1_readSized 92 = .ok (.iload_n 2, 1) := by decide +kernel
theorem dX1_readSized_93 : decode cX1_readSized 93 = .ok (.sipush 224, 3) := by decide +kernel
theorem dX1_readSized_96 : decode cX1_readSized 96 = .ok (.isub, 1) := by decide +kernel
theorem dX1_readSized_97 : decode cX1_readSized 97 = .ok (.invokevirtual 127, 3) := by decide +kernel
theorem dX1_readSized_100 : decode cX1_readSized 100 = .ok (.ireturn, 1) := by decide +kernel
theorem dX1_readSized_101 : decode cX1_readSized 101 = .ok (.aload_n 0, 1) := by decide +kernel
theorem dX1_readSized_102 : decode cX1_readSized 102 = .ok (.bipush 8, 2) := by decide +kernel
theorem dX1_readSized_104 : decode cX1_readSized 104 = .ok (.aload_n 0, 1) := by decide +kernel
theorem dX1_readSized_105 : decode cX1_readSized 105 = .ok (.getfield 9, 3) := by decide +kernel
theorem dX1_readSized_108 : decode cX1_readSized 108 = .ok (.iconst 1, 1) := by decide +kernel
theorem dX1_readSized_109 : decode cX1_readSized 109 = .ok (.isub, 1) := by decide +kernel
theorem dX1_readSized_110 : decode cX1_readSized 110 = .ok (.invokevirtual 67, 3) := by decide +kernel
theorem dX1_readSized_113 : decode cX1_readSized 113 = .ok (.ireturn, 1) := by decide +kernel
theorem dX1_readText_0 : decode cX1_readText 0 = .ok (.aload_n 0, 1) := by decide +kernel
theorem dX1_readText_1 : decode cX1_readText 1 = .ok (.iload_n 2, 1) := by decide +kernel
theorem dX1_readText_2 : decode cX1_readText 2 = .ok (.invokevirtual 117, 3) := by decide +kernel
theorem dX1_readText_5 : decode cX1_readText 5 = .ok (.ifCond .ne 5, 3) := by decide +kernel
theorem dX1_readText_8 : decode cX1_readText 8 = .ok (.iconst 0, 1) := by decide +kernel
theorem dX1_readText_9 : decode cX1_readText 9 = .ok (.ireturn, 1) := by decide +kernel
theorem dX1_readText_10 : decode cX1_readText 10 = .ok (.aload_n 1, 1) := by decide +kernel
theorem dX1_readText_11 : decode cX1_readText 11 = .ok (.aload_n 0, 1) := by decide +kernel
theorem dX1_readText_12 : decode cX1_readText 12 = .ok (.getfield 28, 3) := by decide +kernel
theorem dX1_readText_15 : decode cX1_readText 15 = .ok (.aload_n 0, 1) := by decide +kernel
theorem dX1_readText_16 : decode cX1_readText 16 = .ok (.getfield 9, 3) := by decide +kernel
theorem dX1_readText_19 : decode cX1_readText 19 = .ok (.iload_n 2, 1) := by decide +kernel
theorem dX1_readText_20 : decode cX1_readText 20 = .ok (.invokevirtual 140, 3) := by decide +kernel
theorem dX1_readText_23 : decode cX1_readText 23 = .ok (.aload_n 0, 1) := by decide +kernel
theorem dX1_readText_24 : decode cX1_readText 24 = .ok (.dup, 1) := by decide +kernel
theorem dX1_readText_25 : decode cX1_readText 25 = .ok (.getfield 9, 3) := by decide +kernel
theorem dX1_readText_28 : decode cX1_readText 28 = .ok (.iload_n 2, 1) := by decide +kernel
theorem dX1_readText_29 : decode cX1_readText 29 = .ok (.iadd, 1) := by decide +kernel
theorem dX1_readText_30 : decode cX1_readText 30 = .ok (.putfield 9, 3) := by decide +kernel
theorem dX1_readText_33 : decode cX1_readText 33 = .ok (.iconst 1, 1) := by decide +kernel
theorem dX1_readText_34 : decode cX1_readText 34 = .ok (.ireturn, 1) := by decide +kernel
theorem dX1_readNumber_0 : decode cX1_readNumber 0 = .ok (.aload_n 0, 1) := by decide +kernel
theorem dX1_readNumber_1 : decode cX1_readNumber 1 = .ok (.iload_n 2, 1) := by decide +kernel
theorem dX1_readNumber_2 : decode cX1_readNumber 2 = .ok (.invokevirtual 117, 3) := by decide +kernel
theorem dX1_readNumber_5 : decode cX1_readNumber 5 = .ok (.ifCond .ne 5, 3) := by decide +kernel
theorem dX1_readNumber_8 : decode cX1_readNumber 8 = .ok (.iconst 0, 1) := by decide +kernel
theorem dX1_readNumber_9 : decode cX1_readNumber 9 = .ok (.ireturn, 1) := by decide +kernel
theorem dX1_readNumber_10 : decode cX1_readNumber 10 = .ok (.iload_n 2, 1) := by decide +kernel
theorem dX1_readNumber_11 : decode cX1_readNumber 11 = .ok (.ifCond .le 29, 3) := by decide +kernel
theorem dX1_readNumber_14 : decode cX1_readNumber 14 = .ok (.aload_n 0, 1) := by decide +kernel
theorem dX1_readNumber_15 : decode cX1_readNumber 15 = .ok (.getfield 28, 3) := by decide +kernel
theorem dX1_readNumber_18 : decode cX1_readNumber 18 = .ok (.aload_n 0, 1) := by decide +kernel
theorem dX1_readNumber_19 : decode cX1_readNumber 19 = .ok (.getfield 9, 3) := by decide +kernel
theorem dX1_readNumber_22 : decode cX1_readNumber 22 = .ok (.iload_n 2, 1) := by decide +kernel
theorem dX1_readNumber_23 : decode cX1_readNumber 23 = .ok (.iadd, 1) := by decide +kernel
theorem dX1_readNumber_24 : decode cX1_readNumber 24 = .ok (.iconst 1, 1) := by decide +kernel
theorem dX1_readNumber_25 : decode cX1_readNumber 25 = .ok (.isub, 1) := by decide +kernel
theorem dX1_readNumber_26 : decode cX1_readNumber 26 = .ok (.invokevirtual 62, 3) := by decide +kernel
theorem dX1_readNumber_29 : decode cX1_readNumber 29 = .ok (.sipush 128, 3) := by decide +kernel
theorem dX1_readNumber_32 : decode cX1_readNumber 32 = .ok (.iand, 1) := by decide +kernel
theorem dX1_readNumber_33 : decode cX1_readNumber 33 = .ok (.ifCond .eq 7, 3) := by decide +kernel
theorem dX1_readNumber_36 : decode cX1_readNumber 36 = .ok (.iconst 1, 1) := by decide +kernel
theorem dX1_readNumber_37 : decode cX1_readNumber 37 = .ok (.goto 4, 3) := by decide +kernel
theorem dX1_readNumber_40 : decode cX1_readNumber 40 = .ok (.iconst 0, 1) := by decide +kernel
theorem dX1_readNumber_41 : decode cX1_readNumber 41 = .ok (.istore_n 3, 1) := by decide +kernel
theorem dX1_readNumber_42 : decode cX1_readNumber 42 = .ok (.iload_n 3, 1) := by decide +kernel
theorem dX1_readNumber_43 : decode cX1_readNumber 43 = .ok (.ifCond .eq 9, 3) := by decide +kernel
theorem dX1_readNumber_46 : decode cX1_readNumber 46 = .ok (.ldc2_w 144, 3) := by decide +kernel
theorem dX1_readNumber_49 : decode cX1_readNumber 49 = .ok (.goto 4, 3) := by decide +kernel
theorem dX1_readNumber_52 : decode cX1_readNumber 52 = .ok (.lconst 0, 1) := by decide +kernel
theorem dX1_readNumber_53 : decode cX1_readNumber 53 = .ok (.lstore 4, 2) := by decide +kernel
theorem dX1_readNumber_55 : decode cX1_readNumber 55 = .ok (.iload_n 2, 1) := by decide +kernel
theorem dX1_readNumber_56 : decode cX1_readNumber 56 = .ok (.iconst 1, 1) := by decide +kernel
theorem dX1_readNumber_57 : decode cX1_readNumber 57 = .ok (.isub, 1) := by decide +kernel
theorem dX1_readNumber_58 : decode cX1_readNumber 58 = .ok (.istore 6, 2) := by decide +kernel
theorem dX1_readNumber_60 : decode cX1_readNumber 60 = .ok (.iload 6, 2) := by decide +kernel
theorem dX1_readNumber_62 : decode cX1_readNumber 62 = .ok (.ifCond .lt 32, 3) := by decide +kernel
theorem dX1_readNumber_65 : decode cX1_readNumber 65 = .ok (.lload 4, 2) := by decide +kernel
theorem dX1_readNumber_67 : decode cX1_readNumber 67 = .ok (.bipush 8, 2) := by decide +kernel
theorem dX1_readNumber_69 : decode cX1_readNumber 69 = .ok (.lshl, 1) := by decide +kernel
theorem dX1_readNumber_70 : decode cX1_readNumber 70 = .ok (.aload_n 0, 1) := by decide +kernel
theorem dX1_readNumber_71 : decode cX1_readNumber 71 = .ok (.getfield 28, 3) := by decide +kernel
theorem dX1_readNumber_74 : decode cX1_readNumber 74 = .ok (.aload_n 0, 1) := by decide +kernel
theorem dX1_readNumber_75 : decode cX1_readNumber 75 = .ok (.getfield 9, 3) := by decide +kernel
theorem dX1_readNumber_78 : decode cX1_readNumber 78 = .ok (.iload 6, 2) := by decide +kernel
theorem dX1_readNumber_80 : decode cX1_readNumber 80 = .ok (.iadd, 1) := by decide +kernel
theorem dX1_readNumber_81 : decode cX1_readNumber 81 = .ok (.invokevirtual 62, 3) := by decide +kernel
theorem dX1_readNumber_84 : decode cX1_readNumber 84 = .ok (.i2l, 1) := by decide +kernel
theorem dX1_readNumber_85 : decode cX1_readNumber 85 = .ok (.lor, 1) := by decide +kernel
theorem dX1_readNumber_86 : decode cX1_readNumber 86 = .ok (.lstore 4, 2) := by decide +kernel
theorem dX1_readNumber_88 : decode cX1_readNumber 88 = .ok (.iinc 6 (-1), 3) := by decide +kernel
theorem dX1_readNumber_91 : decode cX1_readNumber 91 = .ok (.goto (-31), 3) := by decide +kernel
theorem dX1_readNumber_94 : decode cX1_readNumber 94 = .ok (.aload_n 1, 1) := by decide +kernel
theorem dX1_readNumber_95 : decode cX1_readNumber 95 = .ok (.lload 4, 2) := by decide +kernel
theorem dX1_readNumber_97 : decode cX1_readNumber 97 = .ok (.invokevirtual 146, 3) := by decide +kernel
theorem dX1_readNumber_100 : decode cX1_readNumber 100 = .ok (.aload_n 0, 1) := by decide +kernel
theorem dX1_readNumber_101 : decode cX1_readNumber 101 = .ok (.dup, 1) := by decide +kernel
theorem dX1_readNumber_102 : decode cX1_readNumber 102 = .ok (.getfield 9, 3) := by decide +kernel
theorem dX1_readNumber_105 : decode cX1_readNumber 105 = .ok (.iload_n 2, 1) := by decide +kernel
theorem dX1_readNumber_106 : decode cX1_readNumber 106 = .ok (.iadd, 1) := by decide +kernel
theorem dX1_readNumber_107 : decode cX1_readNumber 107 = .ok (.putfield 9, 3) := by decide +kernel
theorem dX1_readNumber_110 : decode cX1_readNumber 110 = .ok (.iconst 1, 1) := by decide +kernel
theorem dX1_readNumber_111 : decode cX1_readNumber 111 = .ok (.ireturn, 1) := by decide +kernel
theorem dX1_readSignedBcd_0 : decode cX1_readSignedBcd 0 = .ok (.aload_n 0, 1) := by decide +kernel
theorem dX1_readSignedBcd_1 : decode cX1_readSignedBcd 1 = .ok (.getfield 28, 3) := by decide +kernel
theorem dX1_readSignedBcd_4 : decode cX1_readSignedBcd 4 = .ok (.aload_n 0, 1) := by decide +kernel
theorem dX1_readSignedBcd_5 : decode cX1_readSignedBcd 5 = .ok (.getfield 9, 3) := by decide +kernel
theorem dX1_readSignedBcd_8 : decode cX1_readSignedBcd 8 = .ok (.iload_n 2, 1) := by decide +kernel
theorem dX1_readSignedBcd_9 : decode cX1_readSignedBcd 9 = .ok (.iadd, 1) := by decide +kernel
theorem dX1_readSignedBcd_10 : decode cX1_readSignedBcd 10 = .ok (.iconst 1, 1) := by decide +kernel
theorem dX1_readSignedBcd_11 : decode cX1_readSignedBcd 11 = .ok (.isub, 1) := by decide +kernel
theorem dX1_readSignedBcd_12 : decode cX1_readSignedBcd 12 = .ok (.invokevirtual 62, 3) := by decide +kernel
theorem dX1_readSignedBcd_15 : decode cX1_readSignedBcd 15 = .ok (.iconst 4, 1) := by decide +kernel
theorem dX1_readSignedBcd_16 : decode cX1_readSignedBcd 16 = .ok (.ishr, 1) := by decide +kernel
theorem dX1_readSignedBcd_17 : decode cX1_readSignedBcd 17 = .ok (.bipush 15, 2) := by decide +kernel
theorem dX1_readSignedBcd_19 : decode cX1_readSignedBcd 19 = .ok (.if_icmp .ne 7, 3) := by decide +kernel
theorem dX1_readSignedBcd_22 : decode cX1_readSignedBcd 22 = .ok (.iconst 1, 1) := by decide +kernel
theorem dX1_readSignedBcd_23 : decode cX1_readSignedBcd 23 = .ok (.goto 4, 3) := by decide +kernel
theorem dX1_readSignedBcd_26 : decode cX1_readSignedBcd 26 = .ok (.iconst 0, 1) := by decide +kernel
theorem dX1_readSignedBcd_27 : decode cX1_readSignedBcd 27 = .ok (.istore_n 3, 1) := by decide +kernel
theorem dX1_readSignedBcd_28 : decode cX1_readSignedBcd 28 = .ok (.aload_n 0, 1) := by decide +kernel
theorem dX1_readSignedBcd_29 : decode cX1_readSignedBcd 29 = .ok (.aload_n 1, 1) := by decide +kernel
theorem dX1_readSignedBcd_30 : decode cX1_readSignedBcd 30 = .ok (.iload_n 2, 1) := by decide +kernel
theorem dX1_readSignedBcd_31 : decode cX1_readSignedBcd 31 = .ok (.iload_n 3, 1) := by decide +kernel
theorem dX1_readSignedBcd_32 : decode cX1_readSignedBcd 32 = .ok (.ifCond .eq 7, 3) := by decide +kernel
theorem dX1_readSignedBcd_35 : decode cX1_readSignedBcd 35 = .ok (.iconst (-1), 1) := by decide +kernel
theorem dX1_readSignedBcd_36 : decode cX1_readSignedBcd 36 = .ok (.goto 4, 3) := by decide +kernel
theorem dX1_readSignedBcd_39 : decode cX1_readSignedBcd 39 = .ok (.iconst 1, 1) := by decide +kernel
theorem dX1_readSignedBcd_40 : decode cX1_readSignedBcd 40 = .ok (.iload_n 3, 1) := by decide +kernel
theorem dX1_readSignedBcd_41 : decode cX1_readSignedBcd 41 = .ok (.invokevirtual 136, 3) := by decide +kernel
theorem dX1_readSignedBcd_44 : decode cX1_readSignedBcd 44 = .ok (.ireturn, 1) := by decide +kernel
theorem dX1_readBcd_0 : decode cX1_readBcd 0 = .ok (.aload_n 0, 1) := by decide +kernel
theorem dX1_readBcd_1 : decode cX1_readBcd 1 = .ok (.iload_n 2, 1) := by decide +kernel
theorem dX1_readBcd_2 : decode cX1_readBcd 2 = .ok (.invokevirtual 117, 3) := by decide +kernel
theorem dX1_readBcd_5 : decode cX1_readBcd 5 = .ok (.ifCond .ne 5, 3) := by decide +kernel
theorem dX1_readBcd_8 : decode cX1_readBcd 8 = .ok (.iconst 0, 1) := by decide +kernel
theorem dX1_readBcd_9 : decode cX1_readBcd 9 = .ok (.ireturn, 1) := by decide +kernel
theorem dX1_readBcd_10 : decode cX1_readBcd 10 = .ok (.lconst 0, 1) := by decide +kernel
theorem dX1_readBcd_11 : decode cX1_readBcd 11 = .ok (.lstore 5, 2) := by decide +kernel
theorem dX1_readBcd_13 : decode cX1_readBcd 13 = .ok (.lconst 1, 1) := by decide +kernel
theorem dX1_readBcd_14 : decode cX1_readBcd 14 = .ok (.lstore 7, 2) := by decide +kernel
theorem dX1_readBcd_16 : decode cX1_readBcd 16 = .ok (.iconst 0, 1) := by decide +kernel
theorem dX1_readBcd_17 : decode cX1_readBcd 17 = .ok (.istore 9, 2) := by decide +kernel
theorem dX1_readBcd_19 : decode cX1_readBcd 19 = .ok (.iload 9, 2) := by decide +kernel
theorem dX1_readBcd_21 : decode cX1_readBcd 21 = .ok (.iload_n 2, 1) := by decide +kernel
theorem dX1_readBcd_22 : decode cX1_readBcd 22 = .ok (.if_icmp .ge 97, 3) := by decide +kernel
theorem dX1_readBcd_25 : decode cX1_readBcd 25 = .ok (.aload_n 0, 1) := by decide +kernel
theorem dX1_readBcd_26 : decode cX1_readBcd 26 = .ok (.getfield 28, 3) := by decide +kernel
theorem dX1_readBcd_29 : decode cX1_readBcd 29 = .ok (.aload_n 0, 1) := by decide +kernel
theorem dX1_readBcd_30 : decode cX1_readBcd 30 = .ok (.getfield 9, 3) := by decide +kernel
theorem dX1_readBcd_33 : decode cX1_readBcd 33 = .ok (.iload 9, 2) := by decide +kernel
theorem dX1_readBcd_35 : decode cX1_readBcd 35 = .ok (.iadd, 1) := by decide +kernel
theorem dX1_readBcd_36 : decode cX1_readBcd 36 = .ok (.invokevirtual 62, 3) := by decide +kernel
theorem dX1_readBcd_39 : decode cX1_readBcd 39 = .ok (.istore 10, 2) := by decide +kernel
theorem dX1_readBcd_41 : decode cX1_readBcd 41 = .ok (.iload 4, 2) := by decide +kernel
theorem dX1_readBcd_43 : decode cX1_readBcd 43 = .ok (.ifCond .eq 18, 3) := by decide +kernel
theorem dX1_readBcd_46 : decode cX1_readBcd 46 = .ok (.iload 9, 2) := by decide +kernel
theorem dX1_readBcd_48 : decode cX1_readBcd 48 = .ok (.iload_n 2, 1) := by decide +kernel
theorem dX1_readBcd_49 : decode cX1_readBcd 49 = .ok (.iconst 1, 1) := by decide +kernel
theorem dX1_readBcd_50 : decode cX1_readBcd 50 = .ok (.isub, 1) := by decide +kernel
theorem dX1_readBcd_51 : decode cX1_readBcd 51 = .ok (.if_icmp .ne 10, 3) := by decide +kernel
theorem dX1_readBcd_54 : decode cX1_readBcd 54 = .ok (.iload 10, 2) := by decide +kernel
theorem dX1_readBcd_56 : decode cX1_readBcd 56 = .ok (.bipush 15, 2) := by decide +kernel
theorem dX1_readBcd_58 : decode cX1_readBcd 58 = .ok (.iand, 1) := by decide +kernel
theorem dX1_readBcd_59 : decode cX1_readBcd 59 = .ok (.istore 10, 2) := by decide +kernel
theorem dX1_readBcd_61 : decode cX1_readBcd 61 = .ok (.iload 10, 2) := by decide +kernel
theorem dX1_readBcd_63 : decode cX1_readBcd 63 = .ok (.invokestatic 81, 3) := by decide +kernel
theorem dX1_readBcd_66 : decode cX1_readBcd 66 = .ok (.ifCond .ne 17, 3) := by decide +kernel
theorem dX1_readBcd_69 : decode cX1_readBcd 69 = .ok (.aload_n 0, 1) := by decide +kernel
theorem dX1_readBcd_70 : decode cX1_readBcd 70 = .ok (.bipush 7, 2) := by decide +kernel
theorem dX1_readBcd_72 : decode cX1_readBcd 72 = .ok (.aload_n 0, 1) := by decide +kernel
theorem dX1_readBcd_73 : decode cX1_readBcd 73 = .ok (.getfield 9, 3) := by decide +kernel
theorem dX1_readBcd_76 : decode cX1_readBcd 76 = .ok (.iload 9, 2) := by decide +kernel
theorem dX1_readBcd_78 : decode cX1_readBcd 78 = .ok (.iadd, 1) := by decide +kernel
theorem dX1_readBcd_79 : decode cX1_readBcd 79 = .ok (.invokevirtual 67, 3) := by decide +kernel
theorem dX1_readBcd_82 : decode cX1_readBcd 82 = .ok (.ireturn, 1) := by decide +kernel
theorem dX1_readBcd_83 : decode cX1_readBcd 83 = .ok (.lload 5, 2) := by decide +kernel
theorem dX1_readBcd_85 : decode cX1_readBcd 85 = .ok (.lload 7, 2) := by decide +kernel
theorem dX1_readBcd_87 : decode cX1_readBcd 87 = .ok (.iload 10, 2) := by decide +kernel
theorem dX1_readBcd_89 : decode cX1_readBcd 89 = .ok (.iconst 4, 1) := by decide +kernel
theorem dX1_readBcd_90 : decode cX1_readBcd 90 = .ok (.ishr, 1) := by decide +kernel
theorem dX1_readBcd_91 : decode cX1_readBcd 91 = .ok (.bipush 10, 2) := by decide +kernel
theorem dX1_readBcd_93 : decode cX1_readBcd 93 = .ok (.imul, 1) := by decide +kernel
theorem dX1_readBcd_94 : decode cX1_readBcd 94 = .ok (.iload 10, 2) := by decide +kernel
theorem dX1_readBcd_96 : decode cX1_readBcd 96 = .ok (.bipush 15, 2) := by decide +kernel
theorem dX1_readBcd_98 : decode cX1_readBcd 98 = .ok (.iand, 1) := by decide +kernel
theorem dX1_readBcd_99 : decode cX1_readBcd 99 = .ok (.iadd, 1) := by decide +kernel
theorem dX1_readBcd_100 : decode cX1_readBcd 100 = .ok (.i2l, 1) := by decide +kernel
theorem dX1_readBcd_101 : decode cX1_readBcd 101 = .ok (.lmul, 1) := by decide +kernel
theorem dX1_readBcd_102 : decode cX1_readBcd 102 = .ok (.ladd, 1) := by decide +kernel
theorem dX1_readBcd_103 : decode cX1_readBcd 103 = .ok (.lstore 5, 2) := by decide +kernel
theorem dX1_readBcd_105 : decode cX1_readBcd 105 = .ok (.lload 7, 2) := by decide +kernel
theorem dX1_readBcd_107 : decode cX1_readBcd 107 = .ok (.ldc2_w 150, 3) := by decide +kernel
theorem dX1_readBcd_110 : decode cX1_readBcd 110 = .ok (.lmul, 1) := by decide +kernel
theorem dX1_readBcd_111 : decode cX1_readBcd 111 = .ok (.lstore 7, 2) := by decide +kernel
theorem dX1_readBcd_113 : decode cX1_readBcd 113 = .ok (.iinc 9 1, 3) := by decide +kernel
theorem dX1_readBcd_116 : decode cX1_readBcd 116 = .ok (.goto (-97), 3) := by decide +kernel
theorem dX1_readBcd_119 : decode cX1_readBcd 119 = .ok (.aload_n 1, 1) := by decide +kernel
theorem dX1_readBcd_120 : decode cX1_readBcd 120 = .ok (.iload_n 3, 1) := by decide +kernel
theorem dX1_readBcd_121 : decode cX1_readBcd 121 = .ok (.i2l, 1) := by decide +kernel
theorem dX1_readBcd_122 : decode cX1_readBcd 122 = .ok (.lload 5, 2) := by decide +kernel
theorem dX1_readBcd_124 : decode cX1_readBcd 124 = .ok (.lmul, 1) := by decide +kernel
theorem dX1_readBcd_125 : decode cX1_readBcd 125 = .ok (.invokevirtual 146, 3) := by decide +kernel
theorem dX1_readBcd_128 : decode cX1_readBcd 128 = .ok (.aload_n 0, 1) := by decide +kernel
theorem dX1_readBcd_129 : decode cX1_readBcd 129 = .ok (.dup, 1) := by decide +kernel
theorem dX1_readBcd_130 : decode cX1_readBcd 130 = .ok (.getfield 9, 3) := by decide +kernel
theorem dX1_readBcd_133 : decode cX1_readBcd 133 = .ok (.iload_n 2, 1) := by decide +kernel
theorem dX1_readBcd_134 : decode cX1_readBcd 134 = .ok (.iadd, 1) := by decide +kernel
theorem dX1_readBcd_135 : decode cX1_readBcd 135 = .ok (.putfield 9, 3) := by decide +kernel
theorem dX1_readBcd_138 : decode cX1_readBcd 138 = .ok (.iconst 1, 1) := by decide +kernel
theorem dX1_readBcd_139 : decode cX1_readBcd 139 = .ok (.ireturn, 1) := by decide +kernel
end
section
/-! Reading: its small methods, the heap told outright or nearly. -/
abbrev rdL (va : Int64) (co fu : Int32) (sg : Int64) (ta un : Int32) (v : Nat) (vn : Int32) (lt : Value) (ln : Int32) : List Value := [.long va, .int co, .int fu, .long sg, .int ta, .int un, .ref v, .int vn, lt, .int ln]
section Rd
variable {w : Wd} {c : Nat → ClassId} {h : PH} {p v : Nat} {va sg : Int64} {co fu ta un vn ln : Int32} {lt : Value}
theorem q_codeOf (hW : Wc w c) (B : h p = some (.inr (3, rdL va co fu sg ta un v vn lt ln))) : TC w yX3_codeOf cX3_codeOf 1 (some .int) 0 [.ref p] h (some (.int co)) h := by
  refine TC.intro hW rfl (by decide +kernel) (Nat.le_of_ble_eq_true rfl) (fun z C Y E hn => ?_)
  refine x_aload_n C dX3_codeOf_0 rfl ?_
  refine e_get C Y kd_X3 1 (by decide) wf_X3_15 dX3_codeOf_1 B rfl ?_
  refine e_iret C E dX3_codeOf_4 ?_ ?_
  all_goals rfl
theorem q_vifNumber (hW : Wc w c) (B : h p = some (.inr (3, rdL va co fu sg ta un v vn lt ln))) : TC w yX3_vifNumber cX3_vifNumber 1 (some .int) 0 [.ref p] h (some (.int vn)) h := by
  refine TC.intro hW rfl (by decide +kernel) (Nat.le_of_ble_eq_true rfl) (fun z C Y E hn => ?_)
  refine x_aload_n C dX3_vifNumber_0 rfl ?_
  refine e_get C Y kd_X3 7 (by decide) wf_X3_35 dX3_vifNumber_1 B rfl ?_
  refine e_iret C E dX3_vifNumber_4 ?_ ?_
  all_goals rfl
theorem q_textSize (hW : Wc w c) (B : h p = some (.inr (3, rdL va co fu sg ta un v vn lt ln))) : TC w yX3_textSize cX3_textSize 1 (some .int) 0 [.ref p] h (some (.int ln)) h := by
  refine TC.intro hW rfl (by decide +kernel) (Nat.le_of_ble_eq_true rfl) (fun z C Y E hn => ?_)
  refine x_aload_n C dX3_textSize_0 rfl ?_
  refine e_get C Y kd_X3 9 (by decide) wf_X3_41 dX3_textSize_1 B rfl ?_
  refine e_iret C E dX3_textSize_4 ?_ ?_
  all_goals rfl
theorem q_setValue (hW : Wc w c) (B : h p = some (.inr (3, rdL va co fu sg ta un v vn lt ln))) (x : Int64) : TC w yX3_setValue cX3_setValue 3 none 0 [.ref p, .long x] h none (hs h p (.inr (3, rdL x co fu sg ta un v vn lt ln))) := by
  refine TC.intro hW rfl (by decide +kernel) (Nat.le_of_ble_eq_true rfl) (fun z C Y E hn => ?_)
  refine x_aload_n C dX3_setValue_0 rfl ?_
  refine x_lload_n C dX3_setValue_1 rfl ?_
  refine e_put C Y kd_X3 0 (by decide) rfl wf_X3_9 dX3_setValue_2 B (Nat.le_of_ble_eq_true rfl) rfl rfl rfl ?_
  refine e_vret C E dX3_setValue_5 ?_ ?_
  all_goals rfl
theorem q_begin (hW : Wc w c) (B : h p = some (.inr (3, rdL va co fu sg ta un v vn lt ln))) (x : Int32) : TC w yX3_begin cX3_begin 2 none 0 [.ref p, .int x] h none (hs h p (.inr (3, rdL 0 (x &&& 15) ((x >>> ((4 : Int32) &&& 31)) &&& 3) ((x >>> ((6 : Int32) &&& 31)) &&& 1).toInt64 0 0 v 0 lt 0))) := by
  refine TC.intro hW rfl (by decide +kernel) (Nat.le_of_ble_eq_true rfl) (fun z C Y E hn => ?_)
  refine x_aload_n C dX3_begin_0 rfl ?_
  refine x_lconst (v := 0) C dX3_begin_1 (by decide) ?_
  refine e_put C Y kd_X3 0 (by decide) rfl wf_X3_9 dX3_begin_2 B (Nat.le_of_ble_eq_true rfl) rfl rfl rfl ?_
  refine x_aload_n C dX3_begin_5 rfl ?_
  refine x_iload_n C dX3_begin_6 rfl ?_
  refine x_bipush (v := 15) C dX3_begin_7 (by decide) ?_
  refine x_iand C dX3_begin_9 ?_
  refine e_put C Y kd_X3 1 (by decide) rfl wf_X3_15 dX3_begin_10 (hs_self ..) (Nat.le_of_ble_eq_true rfl) rfl rfl (hs_hs ..) ?_
  refine x_aload_n C dX3_begin_13 rfl ?_
  refine x_iload_n C dX3_begin_14 rfl ?_
  refine x_iconst (v := 4) C dX3_begin_15 (by decide) ?_
  refine x_ishr C dX3_begin_16 ?_
  refine x_iconst (v := 3) C dX3_begin_17 (by decide) ?_
  refine x_iand C dX3_begin_18 ?_
  refine e_put C Y kd_X3 2 (by decide) rfl wf_X3_19 dX3_begin_19 (hs_self ..) (Nat.le_of_ble_eq_true rfl) rfl rfl (hs_hs ..) ?_
  refine x_aload_n C dX3_begin_22 rfl ?_
  refine x_iload_n C dX3_begin_23 rfl ?_
  refine x_bipush (v := 6) C dX3_begin_24 (by decide) ?_
  refine x_ishr C dX3_begin_26 ?_
  refine x_iconst (v := 1) C dX3_begin_27 (by decide) ?_
  refine x_iand C dX3_begin_28 ?_
  refine x_i2l C dX3_begin_29 ?_
  refine e_put C Y kd_X3 3 (by decide) rfl wf_X3_22 dX3_begin_30 (hs_self ..) (Nat.le_of_ble_eq_true rfl) rfl rfl (hs_hs ..) ?_
  refine x_aload_n C dX3_begin_33 rfl ?_
  refine x_iconst (v := 0) C dX3_begin_34 (by decide) ?_
  refine e_put C Y kd_X3 4 (by decide) rfl wf_X3_25 dX3_begin_35 (hs_self ..) (Nat.le_of_ble_eq_true rfl) rfl rfl (hs_hs ..) ?_
  refine x_aload_n C dX3_begin_38 rfl ?_
  refine x_iconst (v := 0) C dX3_begin_39 (by decide) ?_
  refine e_put C Y kd_X3 5 (by decide) rfl wf_X3_28 dX3_begin_40 (hs_self ..) (Nat.le_of_ble_eq_true rfl) rfl rfl (hs_hs ..) ?_
  refine x_aload_n C dX3_begin_43 rfl ?_
  refine x_iconst (v := 0) C dX3_begin_44 (by decide) ?_
  refine e_put C Y kd_X3 7 (by decide) rfl wf_X3_35 dX3_begin_45 (hs_self ..) (Nat.le_of_ble_eq_true rfl) rfl rfl (hs_hs ..) ?_
  refine x_aload_n C dX3_begin_48 rfl ?_
  refine x_iconst (v := 0) C dX3_begin_49 (by decide) ?_
  refine e_put C Y kd_X3 9 (by decide) rfl wf_X3_41 dX3_begin_50 (hs_self ..) (Nat.le_of_ble_eq_true rfl) rfl rfl (hs_hs ..) ?_
  refine e_vret C E dX3_begin_53 ?_ ?_
  all_goals rfl
theorem q_addDife (hW : Wc w c) (B : h p = some (.inr (3, rdL va co fu sg ta un v vn lt ln))) (i x : Int32) : T w gw yX3_addDife cX3_addDife 3 none 0 (40 * 0) 0 0 [.ref p, .int i, .int x] (EQ h) (fun r g => r = none ∧ ∃ sg' ta' un', g = hs h p (.inr (3, rdL va co fu sg' ta' un' v vn lt ln))) := by
  refine TA.intro hW rfl (by decide +kernel) (Nat.le_of_ble_eq_true rfl) (fun z C Y E hn h1 hA => ?_)
  subst hA
  refine x_aload_n C dX3_addDife_0 rfl ?_
  refine x_dup C dX3_addDife_1 rfl ?_
  refine e_get C Y kd_X3 3 (by decide) wf_X3_22 dX3_addDife_2 B rfl ?_
  refine x_iload_n C dX3_addDife_5 rfl ?_
  refine x_bipush (v := 15) C dX3_addDife_6 (by decide) ?_
  refine x_iand C dX3_addDife_8 ?_
  refine x_i2l C dX3_addDife_9 ?_
  refine x_iconst (v := 1) C dX3_addDife_10 (by decide) ?_
  refine x_iconst (v := 4) C dX3_addDife_11 (by decide) ?_
  refine x_iload_n C dX3_addDife_12 rfl ?_
  refine x_imul C dX3_addDife_13 ?_
  refine x_iadd C dX3_addDife_14 ?_
  refine x_lshl C dX3_addDife_15 ?_
  refine x_lor C dX3_addDife_16 ?_
  refine e_put C Y kd_X3 3 (by decide) rfl wf_X3_22 dX3_addDife_17 B (Nat.le_of_ble_eq_true rfl) rfl rfl rfl ?_
  refine x_aload_n C dX3_addDife_20 rfl ?_
  refine x_dup C dX3_addDife_21 rfl ?_
  refine e_get C Y kd_X3 4 (by decide) wf_X3_25 dX3_addDife_22 (hs_self ..) rfl ?_
  refine x_iload_n C dX3_addDife_25 rfl ?_
  refine x_iconst (v := 4) C dX3_addDife_26 (by decide) ?_
  refine x_ishr C dX3_addDife_27 ?_
  refine x_iconst (v := 3) C dX3_addDife_28 (by decide) ?_
  refine x_iand C dX3_addDife_29 ?_
  refine x_iconst (v := 2) C dX3_addDife_30 (by decide) ?_
  refine x_iload_n C dX3_addDife_31 rfl ?_
  refine x_imul C dX3_addDife_32 ?_
  refine x_ishl C dX3_addDife_33 ?_
  refine x_ior C dX3_addDife_34 ?_
  refine e_put C Y kd_X3 4 (by decide) rfl wf_X3_25 dX3_addDife_35 (hs_self ..) (Nat.le_of_ble_eq_true rfl) rfl rfl (hs_hs ..) ?_
  refine x_aload_n C dX3_addDife_38 rfl ?_
  refine x_dup C dX3_addDife_39 rfl ?_
  refine e_get C Y kd_X3 5 (by decide) wf_X3_28 dX3_addDife_40 (hs_self ..) rfl ?_
  refine x_iload_n C dX3_addDife_43 rfl ?_
  refine x_bipush (v := 6) C dX3_addDife_44 (by decide) ?_
  refine x_ishr C dX3_addDife_46 ?_
  refine x_iconst (v := 1) C dX3_addDife_47 (by decide) ?_
  refine x_iand C dX3_addDife_48 ?_
  refine x_iload_n C dX3_addDife_49 rfl ?_
  refine x_ishl C dX3_addDife_50 ?_
  refine x_ior C dX3_addDife_51 ?_
  refine e_put C Y kd_X3 5 (by decide) rfl wf_X3_28 dX3_addDife_52 (hs_self ..) (Nat.le_of_ble_eq_true rfl) rfl rfl (hs_hs ..) ?_
  exact x_vret C E dX3_addDife_55 (fun g e => ⟨rfl, _, _, _, e⟩)
theorem q_addVif (hW : Wc w c) {k : Nat} (hk : k ≤ 11) (B : h p = some (.inr (3, rdL va co fu sg ta un v (nI k) lt ln))) {f : Nat → Int32} (V : h v = some (.inl (c 0, 11, .inl f))) (n0 : p ≠ v) (x : Int32) : T w gw yX3_addVif cX3_addVif 2 none 0 (40 * 0) 0 0 [.ref p, .int x] (EQ h) (fun r g => r = none ∧ ∃ f' k', k' ≤ 11 ∧ g = hs (hs h v (.inl (c 0, 11, .inl f'))) p (.inr (3, rdL va co fu sg ta un v (nI k') lt ln))) := by
  refine TA.intro hW rfl (by decide +kernel) (Nat.le_of_ble_eq_true rfl) (fun z C Y E hn h1 hA => ?_)
  subst hA
  obtain ⟨t, ht⟩ := Y.2.1
  refine x_aload_n C dX3_addVif_0 rfl ?_
  refine e_get C Y kd_X3 7 (by decide) wf_X3_35 dX3_addVif_1 B rfl ?_
  refine x_aload_n C dX3_addVif_4 rfl ?_
  refine e_get C Y kd_X3 6 (by decide) wf_X3_31 dX3_addVif_5 B rfl ?_
  refine x_alen C ht dX3_addVif_8 (v := 11) (fun q e => by rw [e]; exact V) rfl ?_
  refine x_icmp_ge (tgt := 32) C dX3_addVif_9 (by decide) (fun c9 => ?_) (fun c9 => ?_)
  · exact x_vret C E dX3_addVif_32 (fun g e => ⟨rfl, f, k, hk, by rw [hs_same V, hs_same B]; exact e⟩)
  · have k11 : k < 11 := (nI_ltI (by omega) (by decide)).mp (Int32.not_le.mp c9)
    have B2 : ∀ e, hs h1 v e p = some (.inr (3, rdL va co fu sg ta un v (nI k) lt ln)) := fun e => by rw [hs_ne n0]; exact B
    refine x_aload_n C dX3_addVif_12 rfl ?_
    refine e_get C Y kd_X3 6 (by decide) wf_X3_31 dX3_addVif_13 B rfl ?_
    refine x_aload_n C dX3_addVif_16 rfl ?_
    refine e_get C Y kd_X3 7 (by decide) wf_X3_35 dX3_addVif_17 B rfl ?_
    refine x_iload_n C dX3_addVif_20 rfl ?_
    refine e_ist C Y dX3_addVif_21 V (vp_in_nI k11 (by decide)) rfl ?_
    refine x_aload_n C dX3_addVif_22 rfl ?_
    refine x_dup C dX3_addVif_23 rfl ?_
    refine e_get C Y kd_X3 7 (by decide) wf_X3_35 dX3_addVif_24 (B2 _) rfl ?_
    refine x_iconst (v := 1) C dX3_addVif_27 (by decide) ?_
    refine x_iadd C dX3_addVif_28 ?_
    rw [nI_1]
    refine e_put C Y kd_X3 7 (by decide) rfl wf_X3_35 dX3_addVif_29 (B2 _) (Nat.le_of_ble_eq_true rfl) rfl rfl rfl ?_
    exact x_vret C E dX3_addVif_32 (fun g e => ⟨rfl, _, k + 1, by omega, e⟩)
theorem n_rd (hW : Wc w c) (B : h p = some (.inr (3, [.long 0, .int 0, .int 0, .long 0, .int 0, .int 0, .null, .int 0, .null, .int 0]))) : T w gw yX3_init cX3_init 1 none 1 (40 * 1) 1 11 [.ref p] (EQ h) (fun r g => r = none ∧ ∃ v, v ≠ p ∧ h v = none ∧ g = hs (hs h v (.inl (c 0, 11, .inl (fun _ => 0)))) p (.inr (3, rdL 0 0 0 0 0 0 v 0 .null 0))) := by
  refine TA.intro hW rfl (by decide +kernel) (Nat.le_of_ble_eq_true rfl) (fun z C Y E hn h1 hA => ?_)
  subst hA
  refine x_aload_n C dX3_init_0 rfl ?_
  refine x_objInit C wm_X3_3 dX3_init_1 (by rw [E.fr_]; decide) (by rw [E.lo_]; decide) ?_
  have s0 := hs_same B
  refine x_aload_n C dX3_init_4 rfl ?_
  refine x_lconst (v := 0) C dX3_init_5 (by decide) ?_
  refine e_put C Y kd_X3 0 (by decide) rfl wf_X3_9 dX3_init_6 B (Nat.le_of_ble_eq_true rfl) rfl rfl s0 ?_
  refine x_aload_n C dX3_init_9 rfl ?_
  refine x_iconst (v := 0) C dX3_init_10 (by decide) ?_
  refine e_put C Y kd_X3 1 (by decide) rfl wf_X3_15 dX3_init_11 B (Nat.le_of_ble_eq_true rfl) rfl rfl s0 ?_
  refine x_aload_n C dX3_init_14 rfl ?_
  refine x_iconst (v := 0) C dX3_init_15 (by decide) ?_
  refine e_put C Y kd_X3 2 (by decide) rfl wf_X3_19 dX3_init_16 B (Nat.le_of_ble_eq_true rfl) rfl rfl s0 ?_
  refine x_aload_n C dX3_init_19 rfl ?_
  refine x_lconst (v := 0) C dX3_init_20 (by decide) ?_
  refine e_put C Y kd_X3 3 (by decide) rfl wf_X3_22 dX3_init_21 B (Nat.le_of_ble_eq_true rfl) rfl rfl s0 ?_
  refine x_aload_n C dX3_init_24 rfl ?_
  refine x_iconst (v := 0) C dX3_init_25 (by decide) ?_
  refine e_put C Y kd_X3 4 (by decide) rfl wf_X3_25 dX3_init_26 B (Nat.le_of_ble_eq_true rfl) rfl rfl s0 ?_
  refine x_aload_n C dX3_init_29 rfl ?_
  refine x_iconst (v := 0) C dX3_init_30 (by decide) ?_
  refine e_put C Y kd_X3 5 (by decide) rfl wf_X3_28 dX3_init_31 B (Nat.le_of_ble_eq_true rfl) rfl rfl s0 ?_
  refine x_aload_n C dX3_init_34 rfl ?_
  refine x_bipush (v := 11) C dX3_init_35 (by decide) ?_
  skip
  refine e_newi (kc := 0) (ks := 0) (N := 11) C Y dX3_init_37 (by decide) (by decide) (by decide) (fun v hv => ?_)
  have n0 : v ≠ p := fun e => by rw [e, B] at hv; exact nomatch hv
  have B1 : hs h1 v (.inl (c 0, 11, .inl (fun _ => 0))) p = some (.inr (3, [.long 0, .int 0, .int 0, .long 0, .int 0, .int 0, .null, .int 0, .null, .int 0])) := by rw [hs_ne (Ne.symm n0)]; exact B
  refine e_putF C Y E.nm kd_X3 6 (by decide) rfl rfl wf_X3_31 dX3_init_39 B1 (Nat.le_of_ble_eq_true rfl) rfl rfl ?_
  refine x_aload_n C dX3_init_42 rfl ?_
  refine x_iconst (v := 0) C dX3_init_43 (by decide) ?_
  refine e_put C Y kd_X3 7 (by decide) rfl wf_X3_35 dX3_init_44 (hs_self ..) (Nat.le_of_ble_eq_true rfl) rfl rfl (hs_hs ..) ?_
  refine x_aload_n C dX3_init_47 rfl ?_
  refine x_null C dX3_init_48 ?_
  refine e_put C Y kd_X3 8 (by decide) rfl wf_X3_38 dX3_init_49 (hs_self ..) (Nat.le_of_ble_eq_true rfl) rfl rfl (hs_hs ..) ?_
  refine x_aload_n C dX3_init_52 rfl ?_
  refine x_iconst (v := 0) C dX3_init_53 (by decide) ?_
  refine e_put C Y kd_X3 9 (by decide) rfl wf_X3_41 dX3_init_54 (hs_self ..) (Nat.le_of_ble_eq_true rfl) rfl rfl (hs_hs ..) ?_
  exact x_vret C E dX3_init_57 (fun g e => ⟨rfl, v, n0, hv, e⟩)
end Rd
end
section
/-! What a decoder owns: its list, the readings, their rows; all else stays. -/
def RDc (κ : Nat → Nat) (e : va_E) : Prop := ∃ (va sg : Int64) (co fu ta un ln : Int32) (v vn : Nat) (lt : Value), e = .inr (3, rdL va co fu sg ta un v (nI vn) lt ln) ∧ κ v = 2 ∧ vn ≤ 11 ∧ (lt = .null ∨ ∃ t, lt = .ref t ∧ κ t = 3)
/-- kinds: 1 a Reading, 2 its row of VIFs, 3 a row of letters -/
def OKc (c : Nat → ClassId) (κ : Nat → Nat) (k : Nat) (o : Option va_E) : Prop := match k with
  | 0 => True
  | 1 => ∃ e, o = some e ∧ RDc κ e
  | 2 => ∃ f : Nat → Int32, o = some (.inl (c 0, 11, .inl f))
  | _ => ∃ (n : Nat) (f : Nat → Int32), n ≤ 300 ∧ o = some (.inl (c 0, n, .inl f))
/-- W: what is not the decoder's and stays as h0 had it -/
def DK (c : Nat → ClassId) (li ra de : Nat) (h0 : PH) (W : Nat → Prop) (κ : Nat → Nat) (h : PH) : Prop :=
  (∃ n, n ≤ 100 ∧ h li = some (.inr (4, [.ref ra, .int (nI n)]))) ∧ (∃ g, h ra = some (zR c g) ∧ ∀ j p, g j = some p → κ p = 1) ∧
  (∃ (fr : Value) (at_ en fa pl mo : Int32), h de = some (.inr (1, [.ref li, fr, .int at_, .int en, .int fa, .int pl, .int mo])) ∧ (mo = 0 ∨ mo = 1)) ∧
  (∀ q, OKc c κ (κ q) (h q)) ∧ (κ li = 0 ∧ κ ra = 0 ∧ κ de = 0 ∧ li ≠ ra ∧ li ≠ de ∧ ra ≠ de) ∧ (∀ q, W q → κ q = 0 ∧ q ≠ li ∧ q ≠ ra ∧ q ≠ de ∧ h0 q ≠ none ∧ h q = h0 q)
section DK
variable {c : Nat → ClassId} {li ra de : Nat} {h0 h : PH} {W : Nat → Prop} {κ : Nat → Nat}
theorem OKc.some {k : Nat} {o : Option va_E} (g : OKc c κ k o) (n : k ≠ 0) : o ≠ none := by
  match k, n, g with
  | 1, _, ⟨e, h, _⟩ => rw [h]; simp
  | 2, _, ⟨f, h⟩ => rw [h]; simp
  | k + 3, _, ⟨n, f, _, h⟩ => rw [h]; simp
theorem DK.fresh (D : DK c li ra de h0 W κ h) {q : Nat} (hq : h q = none) : κ q = 0 := Decidable.byContradiction fun n => (D.2.2.2.1 q).some n hq
theorem RDc.mono {κ' : Nat → Nat} {e : va_E} (r : RDc κ e) (m : ∀ q, κ q ≠ 0 → κ' q = κ q) : RDc κ' e := by
  obtain ⟨va, sg, co, fu, ta, un, ln, v, vn, lt, e1, e2, e3, e4⟩ := r
  refine ⟨va, sg, co, fu, ta, un, ln, v, vn, lt, e1, by rw [m v (by omega)]; exact e2, e3, e4.imp id (fun ⟨t, t1, t2⟩ => ⟨t, t1, by rw [m t (by omega)]; exact t2⟩)⟩
theorem OKc.mono {κ' : Nat → Nat} {k : Nat} {o : Option va_E} (g : OKc c κ k o) (m : ∀ q, κ q ≠ 0 → κ' q = κ q) : OKc c κ' k o := by
  match k, g with
  | 0, _ => trivial
  | 1, ⟨e, h, r⟩ => exact ⟨e, h, r.mono m⟩
  | 2, g => exact g
  | k + 3, g => exact g
/-- a thing of a kind written anew -/
theorem DK.put (D : DK c li ra de h0 W κ h) {q : Nat} {e : va_E} (hk : κ q ≠ 0) (ok : OKc c κ (κ q) (some e)) : DK c li ra de h0 W κ (hs h q e) := by
  obtain ⟨D1, D2, D3, D4, ⟨l1, l2, l3, l4, l5, l6⟩, D6⟩ := D
  have nl : li ≠ q := fun e1 => hk (by rw [← e1]; exact l1)
  have nr : ra ≠ q := fun e1 => hk (by rw [← e1]; exact l2)
  have nd : de ≠ q := fun e1 => hk (by rw [← e1]; exact l3)
  refine ⟨by rw [hs_ne nl]; exact D1, by rw [hs_ne nr]; exact D2, by rw [hs_ne nd]; exact D3, fun x => ?_, ⟨l1, l2, l3, l4, l5, l6⟩, fun x hx => ?_⟩
  · by_cases e1 : x = q
    · subst e1; rw [hs_self]; exact ok
    · rw [hs_ne e1]; exact D4 x
  · obtain ⟨x1, x2, x3, x4, x5, x6⟩ := D6 x hx
    exact ⟨x1, x2, x3, x4, x5, by rw [hs_ne (fun e1 => hk (by rw [← e1]; exact x1))]; exact x6⟩
theorem DK.putD (D : DK c li ra de h0 W κ h) (fr : Value) (at_ en fa pl mo : Int32) (hm : mo = 0 ∨ mo = 1) : DK c li ra de h0 W κ (hs h de (.inr (1, [.ref li, fr, .int at_, .int en, .int fa, .int pl, .int mo]))) := by
  obtain ⟨D1, D2, D3, D4, ⟨l1, l2, l3, l4, l5, l6⟩, D6⟩ := D
  refine ⟨by rw [hs_ne l5]; exact D1, by rw [hs_ne l6]; exact D2, ⟨fr, at_, en, fa, pl, mo, hs_self .., hm⟩, fun x => ?_, ⟨l1, l2, l3, l4, l5, l6⟩, fun x hx => by
    obtain ⟨x1, x2, x3, x4, x5, x6⟩ := D6 x hx
    exact ⟨x1, x2, x3, x4, x5, by rw [hs_ne x4]; exact x6⟩⟩
  by_cases e1 : x = de
  · subst e1; rw [l3]; trivial
  · rw [hs_ne e1]; exact D4 x
theorem DK.putL (D : DK c li ra de h0 W κ h) {n : Nat} (hn : n ≤ 100) : DK c li ra de h0 W κ (hs h li (.inr (4, [.ref ra, .int (nI n)]))) := by
  obtain ⟨D1, D2, D3, D4, ⟨l1, l2, l3, l4, l5, l6⟩, D6⟩ := D
  refine ⟨⟨n, hn, hs_self ..⟩, by rw [hs_ne (Ne.symm l4)]; exact D2, by rw [hs_ne (Ne.symm l5)]; exact D3, fun x => ?_, ⟨l1, l2, l3, l4, l5, l6⟩, fun x hx => by
    obtain ⟨x1, x2, x3, x4, x5, x6⟩ := D6 x hx
    exact ⟨x1, x2, x3, x4, x5, by rw [hs_ne x2]; exact x6⟩⟩
  by_cases e1 : x = li
  · subst e1; rw [l1]; trivial
  · rw [hs_ne e1]; exact D4 x
theorem DK.putR (D : DK c li ra de h0 W κ h) {g : Nat → Option Nat} (hg : ∀ j p, g j = some p → κ p = 1) : DK c li ra de h0 W κ (hs h ra (zR c g)) := by
  obtain ⟨D1, D2, D3, D4, ⟨l1, l2, l3, l4, l5, l6⟩, D6⟩ := D
  refine ⟨by rw [hs_ne l4]; exact D1, ⟨g, hs_self .., hg⟩, by rw [hs_ne (Ne.symm l6)]; exact D3, fun x => ?_, ⟨l1, l2, l3, l4, l5, l6⟩, fun x hx => by
    obtain ⟨x1, x2, x3, x4, x5, x6⟩ := D6 x hx
    exact ⟨x1, x2, x3, x4, x5, by rw [hs_ne x3]; exact x6⟩⟩
  by_cases e1 : x = ra
  · subst e1; rw [l2]; trivial
  · rw [hs_ne e1]; exact D4 x
/-- a new thing of a kind -/
theorem DK.new (D : DK c li ra de h0 W κ h) {q k : Nat} {e : va_E} (hq : h q = none) (ok : OKc c (va_up κ q k) k (some e)) : DK c li ra de h0 W (va_up κ q k) (hs h q e) := by
  have k0 := D.fresh hq
  have m : ∀ x, κ x ≠ 0 → va_up κ q k x = κ x := fun x hx => va_up_ne _ _ (fun e1 => hx (by rw [e1]; exact k0))
  obtain ⟨⟨n, n1, n2⟩, ⟨g, g1, g2⟩, ⟨fr, at_, en, fa, pl, mo, m1, m2⟩, D4, ⟨l1, l2, l3, l4, l5, l6⟩, D6⟩ := D
  have nl : li ≠ q := fun e1 => by rw [e1, hq] at n2; exact nomatch n2
  have nr : ra ≠ q := fun e1 => by rw [e1, hq] at g1; exact nomatch g1
  have nd : de ≠ q := fun e1 => by rw [e1, hq] at m1; exact nomatch m1
  refine ⟨⟨n, n1, by rw [hs_ne nl]; exact n2⟩, ⟨g, by rw [hs_ne nr]; exact g1, fun j p hj => by rw [m p (by rw [g2 j p hj]; decide)]; exact g2 j p hj⟩, ⟨fr, at_, en, fa, pl, mo, by rw [hs_ne nd]; exact m1, m2⟩, fun x => ?_, ⟨by rw [va_up_ne _ _ nl]; exact l1, by rw [va_up_ne _ _ nr]; exact l2, by rw [va_up_ne _ _ nd]; exact l3, l4, l5, l6⟩, fun x hx => ?_⟩
  · by_cases e1 : x = q
    · subst e1; rw [hs_self, va_up_self]; exact ok
    · rw [hs_ne e1, va_up_ne _ _ e1]; exact (D4 x).mono m
  · obtain ⟨x1, x2, x3, x4, x5, x6⟩ := D6 x hx
    have e1 : x ≠ q := fun e1 => by
      rw [e1, hq] at x6
      rw [e1] at x5
      exact x5 x6.symm
    exact ⟨by rw [va_up_ne _ _ e1]; exact x1, x2, x3, x4, x5, by rw [hs_ne e1]; exact x6⟩
theorem DK.rd (D : DK c li ra de h0 W κ h) {p : Nat} (hp : κ p = 1) : ∃ e, h p = some e ∧ RDc κ e := by
  have := D.2.2.2.1 p
  rw [hp] at this
  exact this
theorem DK.vf (D : DK c li ra de h0 W κ h) {v : Nat} (hv : κ v = 2) : ∃ f : Nat → Int32, h v = some (.inl (c 0, 11, .inl f)) := by
  have := D.2.2.2.1 v
  rw [hv] at this
  exact this
theorem DK.lt (D : DK c li ra de h0 W κ h) {t : Nat} (ht : κ t = 3) : ∃ (n : Nat) (f : Nat → Int32), n ≤ 300 ∧ h t = some (.inl (c 0, n, .inl f)) := by
  have := D.2.2.2.1 t
  rw [ht] at this
  exact this
theorem DK.putRd (D : DK c li ra de h0 W κ h) {p : Nat} (hp : κ p = 1) {e : va_E} (r : RDc κ e) : DK c li ra de h0 W κ (hs h p e) := D.put (by omega) (by rw [hp]; exact ⟨e, rfl, r⟩)
theorem DK.putVf (D : DK c li ra de h0 W κ h) {v : Nat} (hv : κ v = 2) (f : Nat → Int32) : DK c li ra de h0 W κ (hs h v (.inl (c 0, 11, .inl f))) := D.put (by omega) (by rw [hv]; exact ⟨f, rfl⟩)
theorem DK.putLt (D : DK c li ra de h0 W κ h) {t n : Nat} (ht : κ t = 3) (hn : n ≤ 300) (f : Nat → Int32) : DK c li ra de h0 W κ (hs h t (.inl (c 0, n, .inl f))) := D.put (by omega) (by rw [ht]; exact ⟨n, f, hn, rfl⟩)
/-- a Row that is none of a decoder's things -/
theorem DK.row (D : DK c li ra de h0 W κ h) {b ba n : Nat} {f : Nat → Int32} (R : RW c h0 b ba f n) (o1 : W b) (o2 : W ba) : RW c h b ba f n := by
  obtain ⟨r1, r2, r3, r4⟩ := R
  exact ⟨r1, by rw [(D.2.2.2.2.2 b o1).2.2.2.2.2]; exact r2, by rw [(D.2.2.2.2.2 ba o2).2.2.2.2.2]; exact r3, r4⟩
end DK
end
