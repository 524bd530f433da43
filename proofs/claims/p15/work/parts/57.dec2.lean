/-! The instructions of the class, decoded. By program (wip/mkdec.py). -/
theorem dX2_init_0 : decode cX2_init 0 = .ok (.aload_n 0, 1) := by decide +kernel
theorem dX2_init_1 : decode cX2_init 1 = .ok (.invokespecial 3, 3) := by decide +kernel
theorem dX2_init_4 : decode cX2_init 4 = .ok (.aload_n 0, 1) := by decide +kernel
theorem dX2_init_5 : decode cX2_init 5 = .ok (.iconst 0, 1) := by decide +kernel
theorem dX2_init_6 : decode cX2_init 6 = .ok (.putfield 9, 3) := by decide +kernel
theorem dX2_init_9 : decode cX2_init 9 = .ok (.aload_n 0, 1) := by decide +kernel
theorem dX2_init_10 : decode cX2_init 10 = .ok (.iconst 3, 1) := by decide +kernel
theorem dX2_init_11 : decode cX2_init 11 = .ok (.bipush 60, 2) := by decide +kernel
theorem dX2_init_13 : decode cX2_init 13 = .ok (.multianewarray 15 2, 4) := by decide +kernel
theorem dX2_init_17 : decode cX2_init 17 = .ok (.putfield 17, 3) := by decide +kernel
theorem dX2_init_20 : decode cX2_init 20 = .ok (.aload_n 0, 1) := by decide +kernel
theorem dX2_init_21 : decode cX2_init 21 = .ok (.iconst 3, 1) := by decide +kernel
theorem dX2_init_22 : decode cX2_init 22 = .ok (.newarray .int, 2) := by decide +kernel
theorem dX2_init_24 : decode cX2_init 24 = .ok (.putfield 20, 3) := by decide +kernel
theorem dX2_init_27 : decode cX2_init 27 = .ok (.aload_n 0, 1) := by decide +kernel
theorem dX2_init_28 : decode cX2_init 28 = .ok (.iconst (-1), 1) := by decide +kernel
theorem dX2_init_29 : decode cX2_init 29 = .ok (.putfield 24, 3) := by decide +kernel
theorem dX2_init_32 : decode cX2_init 32 = .ok (.aload_n 0, 1) := by decide +kernel
theorem dX2_init_33 : decode cX2_init 33 = .ok (.iconst (-1), 1) := by decide +kernel
theorem dX2_init_34 : decode cX2_init 34 = .ok (.putfield 28, 3) := by decide +kernel
theorem dX2_init_37 : decode cX2_init 37 = .ok (.aload_n 0, 1) := by decide +kernel
theorem dX2_init_38 : decode cX2_init 38 = .ok (.iconst 0, 1) := by decide +kernel
theorem dX2_init_39 : decode cX2_init 39 = .ok (.putfield 31, 3) := by decide +kernel
theorem dX2_init_42 : decode cX2_init 42 = .ok (.aload_n 0, 1) := by decide +kernel
theorem dX2_init_43 : decode cX2_init 43 = .ok (.iload_n 1, 1) := by decide +kernel
theorem dX2_init_44 : decode cX2_init 44 = .ok (.putfield 34, 3) := by decide +kernel
theorem dX2_init_47 : decode cX2_init 47 = .ok (.aload_n 0, 1) := by decide +kernel
theorem dX2_init_48 : decode cX2_init 48 = .ok (.lload_n 2, 1) := by decide +kernel
theorem dX2_init_49 : decode cX2_init 49 = .ok (.putfield 37, 3) := by decide +kernel
theorem dX2_init_52 : decode cX2_init 52 = .ok (.return_, 1) := by decide +kernel
theorem dX2_hasAddress_0 : decode cX2_hasAddress 0 = .ok (.aload_n 0, 1) := by decide +kernel
theorem dX2_hasAddress_1 : decode cX2_hasAddress 1 = .ok (.getfield 37, 3) := by decide +kernel
theorem dX2_hasAddress_4 : decode cX2_hasAddress 4 = .ok (.lload_n 1, 1) := by decide +kernel
theorem dX2_hasAddress_5 : decode cX2_hasAddress 5 = .ok (.lcmp, 1) := by decide +kernel
theorem dX2_hasAddress_6 : decode cX2_hasAddress 6 = .ok (.ifCond .ne 7, 3) := by decide +kernel
theorem dX2_hasAddress_9 : decode cX2_hasAddress 9 = .ok (.iconst 1, 1) := by decide +kernel
theorem dX2_hasAddress_10 : decode cX2_hasAddress 10 = .ok (.goto 4, 3) := by decide +kernel
theorem dX2_hasAddress_13 : decode cX2_hasAddress 13 = .ok (.iconst 0, 1) := by decide +kernel
theorem dX2_hasAddress_14 : decode cX2_hasAddress 14 = .ok (.ireturn, 1) := by decide +kernel
theorem dX2_setPage_0 : decode cX2_setPage 0 = .ok (.iload_n 1, 1) := by decide +kernel
theorem dX2_setPage_1 : decode cX2_setPage 1 = .ok (.ifCond .lt 8, 3) := by decide +kernel
theorem dX2_setPage_4 : decode cX2_setPage 4 = .ok (.iload_n 1, 1) := by decide +kernel
theorem dX2_setPage_5 : decode cX2_setPage 5 = .ok (.iconst 3, 1) := by decide +kernel
theorem dX2_setPage_6 : decode cX2_setPage 6 = .ok (.if_icmp .lt 4, 3) := by decide +kernel
theorem dX2_setPage_9 : decode cX2_setPage 9 = .ok (.return_, 1) := by decide +kernel
theorem dX2_setPage_10 : decode cX2_setPage 10 = .ok (.aload_n 2, 1) := by decide +kernel
theorem dX2_setPage_11 : decode cX2_setPage 11 = .ok (.invokevirtual 41, 3) := by decide +kernel
theorem dX2_setPage_14 : decode cX2_setPage 14 = .ok (.bipush 60, 2) := by decide +kernel
theorem dX2_setPage_16 : decode cX2_setPage 16 = .ok (.invokestatic 47, 3) := by decide +kernel
theorem dX2_setPage_19 : decode cX2_setPage 19 = .ok (.istore_n 3, 1) := by decide +kernel
theorem dX2_setPage_20 : decode cX2_setPage 20 = .ok (.iconst 0, 1) := by decide +kernel
theorem dX2_setPage_21 : decode cX2_setPage 21 = .ok (.istore 4, 2) := by decide +kernel
theorem dX2_setPage_23 : decode cX2_setPage 23 = .ok (.iload 4, 2) := by decide +kernel
theorem dX2_setPage_25 : decode cX2_setPage 25 = .ok (.iload_n 3, 1) := by decide +kernel
theorem dX2_setPage_26 : decode cX2_setPage 26 = .ok (.if_icmp .ge 24, 3) := by decide +kernel
theorem dX2_setPage_29 : decode cX2_setPage 29 = .ok (.aload_n 0, 1) := by decide +kernel
theorem dX2_setPage_30 : decode cX2_setPage 30 = .ok (.getfield 17, 3) := by decide +kernel
theorem dX2_setPage_33 : decode cX2_setPage 33 = .ok (.iload_n 1, 1) := by decide +kernel
theorem dX2_setPage_34 : decode cX2_setPage 34 = .ok (.aaload, 1) := by decide +kernel
theorem dX2_setPage_35 : decode cX2_setPage 35 = .ok (.iload 4, 2) := by decide +kernel
theorem dX2_setPage_37 : decode cX2_setPage 37 = .ok (.aload_n 2, 1) := by decide +kernel
theorem dX2_setPage_38 : decode cX2_setPage 38 = .ok (.iload 4, 2) := by decide +kernel
theorem dX2_setPage_40 : decode cX2_setPage 40 = .ok (.invokevirtual 53, 3) := by decide +kernel
theorem dX2_setPage_43 : decode cX2_setPage 43 = .ok (.iastore, 1) := by decide +kernel
theorem dX2_setPage_44 : decode cX2_setPage 44 = .ok (.iinc 4 1, 3) := by decide +kernel
theorem dX2_setPage_47 : decode cX2_setPage 47 = .ok (.goto (-24), 3) := by decide +kernel
theorem dX2_setPage_50 : decode cX2_setPage 50 = .ok (.aload_n 0, 1) := by decide +kernel
theorem dX2_setPage_51 : decode cX2_setPage 51 = .ok (.getfield 20, 3) := by decide +kernel
theorem dX2_setPage_54 : decode cX2_setPage 54 = .ok (.iload_n 1, 1) := by decide +kernel
theorem dX2_setPage_55 : decode cX2_setPage 55 = .ok (.iload_n 3, 1) := by decide +kernel
theorem dX2_setPage_56 : decode cX2_setPage 56 = .ok (.iastore, 1) := by decide +kernel
theorem dX2_setPage_57 : decode cX2_setPage 57 = .ok (.return_, 1) := by decide +kernel
theorem dX2_pageNumber_0 : decode cX2_pageNumber 0 = .ok (.iconst 2, 1) := by decide +kernel
theorem dX2_pageNumber_1 : decode cX2_pageNumber 1 = .ok (.istore_n 1, 1) := by decide +kernel
theorem dX2_pageNumber_2 : decode cX2_pageNumber 2 = .ok (.iload_n 1, 1) := by decide +kernel
theorem dX2_pageNumber_3 : decode cX2_pageNumber 3 = .ok (.ifCond .le 22, 3) := by decide +kernel
theorem dX2_pageNumber_6 : decode cX2_pageNumber 6 = .ok (.aload_n 0, 1) := by decide +kernel
theorem dX2_pageNumber_7 : decode cX2_pageNumber 7 = .ok (.getfield 20, 3) := by decide +kernel
theorem dX2_pageNumber_10 : decode cX2_pageNumber 10 = .ok (.iload_n 1, 1) := by decide +kernel
theorem dX2_pageNumber_11 : decode cX2_pageNumber 11 = .ok (.iaload, 1) := by decide +kernel
theorem dX2_pageNumber_12 : decode cX2_pageNumber 12 = .ok (.ifCond .le 7, 3) := by decide +kernel
theorem dX2_pageNumber_15 : decode cX2_pageNumber 15 = .ok (.iload_n 1, 1) := by decide +kernel
theorem dX2_pageNumber_16 : decode cX2_pageNumber 16 = .ok (.iconst 1, 1) := by decide +kernel
theorem dX2_pageNumber_17 : decode cX2_pageNumber 17 = .ok (.iadd, 1) := by decide +kernel
theorem dX2_pageNumber_18 : decode cX2_pageNumber 18 = .ok (.ireturn, 1) := by decide +kernel
theorem dX2_pageNumber_19 : decode cX2_pageNumber 19 = .ok (.iinc 1 (-1), 3) := by decide +kernel
theorem dX2_pageNumber_22 : decode cX2_pageNumber 22 = .ok (.goto (-20), 3) := by decide +kernel
theorem dX2_pageNumber_25 : decode cX2_pageNumber 25 = .ok (.iconst 1, 1) := by decide +kernel
theorem dX2_pageNumber_26 : decode cX2_pageNumber 26 = .ok (.ireturn, 1) := by decide +kernel
theorem dX2_detail_0 : decode cX2_detail 0 = .ok (.iload_n 1, 1) := by decide +kernel
theorem dX2_detail_1 : decode cX2_detail 1 = .ok (.tableswitch 77 1 6 #[39, 44, 57, 62, 67, 72], 39) := by decide +kernel
theorem dX2_detail_40 : decode cX2_detail 40 = .ok (.aload_n 0, 1) := by decide +kernel
theorem dX2_detail_41 : decode cX2_detail 41 = .ok (.getfield 34, 3) := by decide +kernel
theorem dX2_detail_44 : decode cX2_detail 44 = .ok (.ireturn, 1) := by decide +kernel
theorem dX2_detail_45 : decode cX2_detail 45 = .ok (.aload_n 0, 1) := by decide +kernel
theorem dX2_detail_46 : decode cX2_detail 46 = .ok (.getfield 9, 3) := by decide +kernel
theorem dX2_detail_49 : decode cX2_detail 49 = .ok (.ifCond .eq 7, 3) := by decide +kernel
theorem dX2_detail_52 : decode cX2_detail 52 = .ok (.iconst 1, 1) := by decide +kernel
theorem dX2_detail_53 : decode cX2_detail 53 = .ok (.goto 4, 3) := by decide +kernel
theorem dX2_detail_56 : decode cX2_detail 56 = .ok (.iconst 0, 1) := by decide +kernel
theorem dX2_detail_57 : decode cX2_detail 57 = .ok (.ireturn, 1) := by decide +kernel
theorem dX2_detail_58 : decode cX2_detail 58 = .ok (.aload_n 0, 1) := by decide +kernel
theorem dX2_detail_59 : decode cX2_detail 59 = .ok (.invokevirtual 57, 3) := by decide +kernel
theorem dX2_detail_62 : decode cX2_detail 62 = .ok (.ireturn, 1) := by decide +kernel
theorem dX2_detail_63 : decode cX2_detail 63 = .ok (.aload_n 0, 1) := by decide +kernel
theorem dX2_detail_64 : decode cX2_detail 64 = .ok (.getfield 24, 3) := by decide +kernel
theorem dX2_detail_67 : decode cX2_detail 67 = .ok (.ireturn, 1) := by decide +kernel
theorem dX2_detail_68 : decode cX2_detail 68 = .ok (.aload_n 0, 1) := by decide +kernel
theorem dX2_detail_69 : decode cX2_detail 69 = .ok (.getfield 28, 3) := by decide +kernel
theorem dX2_detail_72 : decode cX2_detail 72 = .ok (.ireturn, 1) := by decide +kernel
theorem dX2_detail_73 : decode cX2_detail 73 = .ok (.aload_n 0, 1) := by decide +kernel
theorem dX2_detail_74 : decode cX2_detail 74 = .ok (.getfield 31, 3) := by decide +kernel
theorem dX2_detail_77 : decode cX2_detail 77 = .ok (.ireturn, 1) := by decide +kernel
theorem dX2_detail_78 : decode cX2_detail 78 = .ok (.iconst 1, 1) := by decide +kernel
theorem dX2_detail_79 : decode cX2_detail 79 = .ok (.ireturn, 1) := by decide +kernel
theorem dX2_isMeant_0 : decode cX2_isMeant 0 = .ok (.iload_n 1, 1) := by decide +kernel
theorem dX2_isMeant_1 : decode cX2_isMeant 1 = .ok (.sipush 250, 3) := by decide +kernel
theorem dX2_isMeant_4 : decode cX2_isMeant 4 = .ok (.if_icmp .gt 17, 3) := by decide +kernel
theorem dX2_isMeant_7 : decode cX2_isMeant 7 = .ok (.iload_n 1, 1) := by decide +kernel
theorem dX2_isMeant_8 : decode cX2_isMeant 8 = .ok (.aload_n 0, 1) := by decide +kernel
theorem dX2_isMeant_9 : decode cX2_isMeant 9 = .ok (.getfield 34, 3) := by decide +kernel
theorem dX2_isMeant_12 : decode cX2_isMeant 12 = .ok (.if_icmp .ne 7, 3) := by decide +kernel
theorem dX2_isMeant_15 : decode cX2_isMeant 15 = .ok (.iconst 1, 1) := by decide +kernel
theorem dX2_isMeant_16 : decode cX2_isMeant 16 = .ok (.goto 4, 3) := by decide +kernel
theorem dX2_isMeant_19 : decode cX2_isMeant 19 = .ok (.iconst 0, 1) := by decide +kernel
theorem dX2_isMeant_20 : decode cX2_isMeant 20 = .ok (.ireturn, 1) := by decide +kernel
theorem dX2_isMeant_21 : decode cX2_isMeant 21 = .ok (.iload_n 1, 1) := by decide +kernel
theorem dX2_isMeant_22 : decode cX2_isMeant 22 = .ok (.sipush 253, 3) := by decide +kernel
theorem dX2_isMeant_25 : decode cX2_isMeant 25 = .ok (.if_icmp .ne 10, 3) := by decide +kernel
theorem dX2_isMeant_28 : decode cX2_isMeant 28 = .ok (.aload_n 0, 1) := by decide +kernel
theorem dX2_isMeant_29 : decode cX2_isMeant 29 = .ok (.getfield 9, 3) := by decide +kernel
theorem dX2_isMeant_32 : decode cX2_isMeant 32 = .ok (.goto 15, 3) := by decide +kernel
theorem dX2_isMeant_35 : decode cX2_isMeant 35 = .ok (.iload_n 1, 1) := by decide +kernel
theorem dX2_isMeant_36 : decode cX2_isMeant 36 = .ok (.sipush 253, 3) := by decide +kernel
theorem dX2_isMeant_39 : decode cX2_isMeant 39 = .ok (.if_icmp .le 7, 3) := by decide +kernel
theorem dX2_isMeant_42 : decode cX2_isMeant 42 = .ok (.iconst 1, 1) := by decide +kernel
theorem dX2_isMeant_43 : decode cX2_isMeant 43 = .ok (.goto 4, 3) := by decide +kernel
theorem dX2_isMeant_46 : decode cX2_isMeant 46 = .ok (.iconst 0, 1) := by decide +kernel
theorem dX2_isMeant_47 : decode cX2_isMeant 47 = .ok (.ireturn, 1) := by decide +kernel
theorem dX2_looksAtMask_0 : decode cX2_looksAtMask 0 = .ok (.aload_n 0, 1) := by decide +kernel
theorem dX2_looksAtMask_1 : decode cX2_looksAtMask 1 = .ok (.lload_n 1, 1) := by decide +kernel
theorem dX2_looksAtMask_2 : decode cX2_looksAtMask 2 = .ok (.aload_n 0, 1) := by decide +kernel
theorem dX2_looksAtMask_3 : decode cX2_looksAtMask 3 = .ok (.getfield 37, 3) := by decide +kernel
theorem dX2_looksAtMask_6 : decode cX2_looksAtMask 6 = .ok (.lxor, 1) := by decide +kernel
theorem dX2_looksAtMask_7 : decode cX2_looksAtMask 7 = .ok (.lload_n 3, 1) := by decide +kernel
theorem dX2_looksAtMask_8 : decode cX2_looksAtMask 8 = .ok (.land, 1) := by decide +kernel
theorem dX2_looksAtMask_9 : decode cX2_looksAtMask 9 = .ok (.lconst 0, 1) := by decide +kernel
theorem dX2_looksAtMask_10 : decode cX2_looksAtMask 10 = .ok (.lcmp, 1) := by decide +kernel
theorem dX2_looksAtMask_11 : decode cX2_looksAtMask 11 = .ok (.ifCond .ne 7, 3) := by decide +kernel
theorem dX2_looksAtMask_14 : decode cX2_looksAtMask 14 = .ok (.iconst 1, 1) := by decide +kernel
theorem dX2_looksAtMask_15 : decode cX2_looksAtMask 15 = .ok (.goto 4, 3) := by decide +kernel
theorem dX2_looksAtMask_18 : decode cX2_looksAtMask 18 = .ok (.iconst 0, 1) := by decide +kernel
theorem dX2_looksAtMask_19 : decode cX2_looksAtMask 19 = .ok (.putfield 9, 3) := by decide +kernel
theorem dX2_looksAtMask_22 : decode cX2_looksAtMask 22 = .ok (.aload_n 0, 1) := by decide +kernel
theorem dX2_looksAtMask_23 : decode cX2_looksAtMask 23 = .ok (.getfield 9, 3) := by decide +kernel
theorem dX2_looksAtMask_26 : decode cX2_looksAtMask 26 = .ok (.ifCond .eq 8, 3) := by decide +kernel
theorem dX2_looksAtMask_29 : decode cX2_looksAtMask 29 = .ok (.aload 5, 2) := by decide +kernel
theorem dX2_looksAtMask_31 : decode cX2_looksAtMask 31 = .ok (.invokevirtual 60, 3) := by decide +kernel
theorem dX2_looksAtMask_34 : decode cX2_looksAtMask 34 = .ok (.aload_n 0, 1) := by decide +kernel
theorem dX2_looksAtMask_35 : decode cX2_looksAtMask 35 = .ok (.getfield 9, 3) := by decide +kernel
theorem dX2_looksAtMask_38 : decode cX2_looksAtMask 38 = .ok (.ireturn, 1) := by decide +kernel
theorem dX2_hearsShort_0 : decode cX2_hearsShort 0 = .ok (.iload_n 1, 1) := by decide +kernel
theorem dX2_hearsShort_1 : decode cX2_hearsShort 1 = .ok (.bipush 64, 2) := by decide +kernel
theorem dX2_hearsShort_3 : decode cX2_hearsShort 3 = .ok (.if_icmp .ne 36, 3) := by decide +kernel
theorem dX2_hearsShort_6 : decode cX2_hearsShort 6 = .ok (.aload_n 0, 1) := by decide +kernel
theorem dX2_hearsShort_7 : decode cX2_hearsShort 7 = .ok (.invokevirtual 63, 3) := by decide +kernel
theorem dX2_hearsShort_10 : decode cX2_hearsShort 10 = .ok (.aload_n 0, 1) := by decide +kernel
theorem dX2_hearsShort_11 : decode cX2_hearsShort 11 = .ok (.aload_n 0, 1) := by decide +kernel
theorem dX2_hearsShort_12 : decode cX2_hearsShort 12 = .ok (.getfield 9, 3) := by decide +kernel
theorem dX2_hearsShort_15 : decode cX2_hearsShort 15 = .ok (.ifCond .eq 14, 3) := by decide +kernel
theorem dX2_hearsShort_18 : decode cX2_hearsShort 18 = .ok (.iload_n 2, 1) := by decide +kernel
theorem dX2_hearsShort_19 : decode cX2_hearsShort 19 = .ok (.sipush 253, 3) := by decide +kernel
theorem dX2_hearsShort_22 : decode cX2_hearsShort 22 = .ok (.if_icmp .eq 7, 3) := by decide +kernel
theorem dX2_hearsShort_25 : decode cX2_hearsShort 25 = .ok (.iconst 1, 1) := by decide +kernel
theorem dX2_hearsShort_26 : decode cX2_hearsShort 26 = .ok (.goto 4, 3) := by decide +kernel
theorem dX2_hearsShort_29 : decode cX2_hearsShort 29 = .ok (.iconst 0, 1) := by decide +kernel
theorem dX2_hearsShort_30 : decode cX2_hearsShort 30 = .ok (.putfield 9, 3) := by decide +kernel
theorem dX2_hearsShort_33 : decode cX2_hearsShort 33 = .ok (.aload_n 3, 1) := by decide +kernel
theorem dX2_hearsShort_34 : decode cX2_hearsShort 34 = .ok (.invokevirtual 60, 3) := by decide +kernel
theorem dX2_hearsShort_37 : decode cX2_hearsShort 37 = .ok (.iconst 1, 1) := by decide +kernel
theorem dX2_hearsShort_38 : decode cX2_hearsShort 38 = .ok (.ireturn, 1) := by decide +kernel
theorem dX2_hearsShort_39 : decode cX2_hearsShort 39 = .ok (.iload_n 1, 1) := by decide +kernel
theorem dX2_hearsShort_40 : decode cX2_hearsShort 40 = .ok (.bipush 91, 2) := by decide +kernel
theorem dX2_hearsShort_42 : decode cX2_hearsShort 42 = .ok (.if_icmp .eq 9, 3) := by decide +kernel
theorem dX2_hearsShort_45 : decode cX2_hearsShort 45 = .ok (.iload_n 1, 1) := by decide +kernel
theorem dX2_hearsShort_46 : decode cX2_hearsShort 46 = .ok (.bipush 123, 2) := by decide +kernel
theorem dX2_hearsShort_48 : decode cX2_hearsShort 48 = .ok (.if_icmp .ne 47, 3) := by decide +kernel
theorem dX2_hearsShort_51 : decode cX2_hearsShort 51 = .ok (.iload_n 1, 1) := by decide +kernel
theorem dX2_hearsShort_52 : decode cX2_hearsShort 52 = .ok (.iconst 5, 1) := by decide +kernel
theorem dX2_hearsShort_53 : decode cX2_hearsShort 53 = .ok (.ishr, 1) := by decide +kernel
theorem dX2_hearsShort_54 : decode cX2_hearsShort 54 = .ok (.iconst 1, 1) := by decide +kernel
theorem dX2_hearsShort_55 : decode cX2_hearsShort 55 = .ok (.iand, 1) := by decide +kernel
theorem dX2_hearsShort_56 : decode cX2_hearsShort 56 = .ok (.istore 4, 2) := by decide +kernel
theorem dX2_hearsShort_58 : decode cX2_hearsShort 58 = .ok (.aload_n 0, 1) := by decide +kernel
theorem dX2_hearsShort_59 : decode cX2_hearsShort 59 = .ok (.aload_n 0, 1) := by decide +kernel
theorem dX2_hearsShort_60 : decode cX2_hearsShort 60 = .ok (.iload 4, 2) := by decide +kernel
theorem dX2_hearsShort_62 : decode cX2_hearsShort 62 = .ok (.invokevirtual 66, 3) := by decide +kernel
theorem dX2_hearsShort_65 : decode cX2_hearsShort 65 = .ok (.putfield 24, 3) := by decide +kernel
theorem dX2_hearsShort_68 : decode cX2_hearsShort 68 = .ok (.aload_n 0, 1) := by decide +kernel
theorem dX2_hearsShort_69 : decode cX2_hearsShort 69 = .ok (.iload 4, 2) := by decide +kernel
theorem dX2_hearsShort_71 : decode cX2_hearsShort 71 = .ok (.putfield 28, 3) := by decide +kernel
theorem dX2_hearsShort_74 : decode cX2_hearsShort 74 = .ok (.aload_n 0, 1) := by decide +kernel
theorem dX2_hearsShort_75 : decode cX2_hearsShort 75 = .ok (.aload_n 3, 1) := by decide +kernel
theorem dX2_hearsShort_76 : decode cX2_hearsShort 76 = .ok (.invokevirtual 69, 3) := by decide +kernel
theorem dX2_hearsShort_79 : decode cX2_hearsShort 79 = .ok (.aload_n 0, 1) := by decide +kernel
theorem dX2_hearsShort_80 : decode cX2_hearsShort 80 = .ok (.aload_n 0, 1) := by decide +kernel
theorem dX2_hearsShort_81 : decode cX2_hearsShort 81 = .ok (.getfield 31, 3) := by decide +kernel
theorem dX2_hearsShort_84 : decode cX2_hearsShort 84 = .ok (.iconst 1, 1) := by decide +kernel
theorem dX2_hearsShort_85 : decode cX2_hearsShort 85 = .ok (.iadd, 1) := by decide +kernel
theorem dX2_hearsShort_86 : decode cX2_hearsShort 86 = .ok (.sipush 255, 3) := by decide +kernel
theorem dX2_hearsShort_89 : decode cX2_hearsShort 89 = .ok (.iand, 1) := by decide +kernel
theorem dX2_hearsShort_90 : decode cX2_hearsShort 90 = .ok (.putfield 31, 3) := by decide +kernel
theorem dX2_hearsShort_93 : decode cX2_hearsShort 93 = .ok (.iconst 1, 1) := by decide +kernel
theorem dX2_hearsShort_94 : decode cX2_hearsShort 94 = .ok (.ireturn, 1) := by decide +kernel
theorem dX2_hearsShort_95 : decode cX2_hearsShort 95 = .ok (.iconst 0, 1) := by decide +kernel
theorem dX2_hearsShort_96 : decode cX2_hearsShort 96 = .ok (.ireturn, 1) := by decide +kernel
theorem dX2_hearsLong_0 : decode cX2_hearsLong 0 = .ok (.aload_n 1, 1) := by decide +kernel
theorem dX2_hearsLong_1 : decode cX2_hearsLong 1 = .ok (.bipush 6, 2) := by decide +kernel
theorem dX2_hearsLong_3 : decode cX2_hearsLong 3 = .ok (.invokevirtual 53, 3) := by decide +kernel
theorem dX2_hearsLong_6 : decode cX2_hearsLong 6 = .ok (.istore_n 3, 1) := by decide +kernel
theorem dX2_hearsLong_7 : decode cX2_hearsLong 7 = .ok (.iload_n 3, 1) := by decide +kernel
theorem dX2_hearsLong_8 : decode cX2_hearsLong 8 = .ok (.bipush 80, 2) := by decide +kernel
theorem dX2_hearsLong_10 : decode cX2_hearsLong 10 = .ok (.if_icmp .ne 20, 3) := by decide +kernel
theorem dX2_hearsLong_13 : decode cX2_hearsLong 13 = .ok (.aload_n 1, 1) := by decide +kernel
theorem dX2_hearsLong_14 : decode cX2_hearsLong 14 = .ok (.invokevirtual 73, 3) := by decide +kernel
theorem dX2_hearsLong_17 : decode cX2_hearsLong 17 = .ok (.ifCond .ne 13, 3) := by decide +kernel
theorem dX2_hearsLong_20 : decode cX2_hearsLong 20 = .ok (.aload_n 0, 1) := by decide +kernel
theorem dX2_hearsLong_21 : decode cX2_hearsLong 21 = .ok (.invokevirtual 63, 3) := by decide +kernel
theorem dX2_hearsLong_24 : decode cX2_hearsLong 24 = .ok (.aload_n 2, 1) := by decide +kernel
theorem dX2_hearsLong_25 : decode cX2_hearsLong 25 = .ok (.invokevirtual 60, 3) := by decide +kernel
theorem dX2_hearsLong_28 : decode cX2_hearsLong 28 = .ok (.iconst 1, 1) := by decide +kernel
theorem dX2_hearsLong_29 : decode cX2_hearsLong 29 = .ok (.ireturn, 1) := by decide +kernel
theorem dX2_hearsLong_30 : decode cX2_hearsLong 30 = .ok (.iload_n 3, 1) := by decide +kernel
theorem dX2_hearsLong_31 : decode cX2_hearsLong 31 = .ok (.bipush 81, 2) := by decide +kernel
theorem dX2_hearsLong_33 : decode cX2_hearsLong 33 = .ok (.if_icmp .ne 60, 3) := by decide +kernel
theorem dX2_hearsLong_36 : decode cX2_hearsLong 36 = .ok (.aload_n 1, 1) := by decide +kernel
theorem dX2_hearsLong_37 : decode cX2_hearsLong 37 = .ok (.invokevirtual 73, 3) := by decide +kernel
theorem dX2_hearsLong_40 : decode cX2_hearsLong 40 = .ok (.iconst 3, 1) := by decide +kernel
theorem dX2_hearsLong_41 : decode cX2_hearsLong 41 = .ok (.if_icmp .ne 52, 3) := by decide +kernel
theorem dX2_hearsLong_44 : decode cX2_hearsLong 44 = .ok (.aload_n 1, 1) := by decide +kernel
theorem dX2_hearsLong_45 : decode cX2_hearsLong 45 = .ok (.bipush 7, 2) := by decide +kernel
theorem dX2_hearsLong_47 : decode cX2_hearsLong 47 = .ok (.invokevirtual 53, 3) := by decide +kernel
theorem dX2_hearsLong_50 : decode cX2_hearsLong 50 = .ok (.iconst 1, 1) := by decide +kernel
theorem dX2_hearsLong_51 : decode cX2_hearsLong 51 = .ok (.if_icmp .ne 42, 3) := by decide +kernel
theorem dX2_hearsLong_54 : decode cX2_hearsLong 54 = .ok (.aload_n 1, 1) := by decide +kernel
theorem dX2_hearsLong_55 : decode cX2_hearsLong 55 = .ok (.bipush 8, 2) := by decide +kernel
theorem dX2_hearsLong_57 : decode cX2_hearsLong 57 = .ok (.invokevirtual 53, 3) := by decide +kernel
theorem dX2_hearsLong_60 : decode cX2_hearsLong 60 = .ok (.bipush 122, 2) := by decide +kernel
theorem dX2_hearsLong_62 : decode cX2_hearsLong 62 = .ok (.if_icmp .ne 31, 3) := by decide +kernel
theorem dX2_hearsLong_65 : decode cX2_hearsLong 65 = .ok (.aload_n 1, 1) := by decide +kernel
theorem dX2_hearsLong_66 : decode cX2_hearsLong 66 = .ok (.bipush 9, 2) := by decide +kernel
theorem dX2_hearsLong_68 : decode cX2_hearsLong 68 = .ok (.invokevirtual 53, 3) := by decide +kernel
theorem dX2_hearsLong_71 : decode cX2_hearsLong 71 = .ok (.sipush 250, 3) := by decide +kernel
theorem dX2_hearsLong_74 : decode cX2_hearsLong 74 = .ok (.if_icmp .gt 19, 3) := by decide +kernel
theorem dX2_hearsLong_77 : decode cX2_hearsLong 77 = .ok (.aload_n 0, 1) := by decide +kernel
theorem dX2_hearsLong_78 : decode cX2_hearsLong 78 = .ok (.aload_n 1, 1) := by decide +kernel
theorem dX2_hearsLong_79 : decode cX2_hearsLong 79 = .ok (.bipush 9, 2) := by decide +kernel
theorem dX2_hearsLong_81 : decode cX2_hearsLong 81 = .ok (.invokevirtual 53, 3) := by decide +kernel
theorem dX2_hearsLong_84 : decode cX2_hearsLong 84 = .ok (.putfield 34, 3) := by decide +kernel
theorem dX2_hearsLong_87 : decode cX2_hearsLong 87 = .ok (.aload_n 2, 1) := by decide +kernel
theorem dX2_hearsLong_88 : decode cX2_hearsLong 88 = .ok (.invokevirtual 60, 3) := by decide +kernel
theorem dX2_hearsLong_91 : decode cX2_hearsLong 91 = .ok (.iconst 1, 1) := by decide +kernel
theorem dX2_hearsLong_92 : decode cX2_hearsLong 92 = .ok (.ireturn, 1) := by decide +kernel
theorem dX2_hearsLong_93 : decode cX2_hearsLong 93 = .ok (.iconst 0, 1) := by decide +kernel
theorem dX2_hearsLong_94 : decode cX2_hearsLong 94 = .ok (.ireturn, 1) := by decide +kernel
theorem dX2_forget_0 : decode cX2_forget 0 = .ok (.aload_n 0, 1) := by decide +kernel
theorem dX2_forget_1 : decode cX2_forget 1 = .ok (.iconst (-1), 1) := by decide +kernel
theorem dX2_forget_2 : decode cX2_forget 2 = .ok (.putfield 24, 3) := by decide +kernel
theorem dX2_forget_5 : decode cX2_forget 5 = .ok (.aload_n 0, 1) := by decide +kernel
theorem dX2_forget_6 : decode cX2_forget 6 = .ok (.iconst (-1), 1) := by decide +kernel
theorem dX2_forget_7 : decode cX2_forget 7 = .ok (.putfield 28, 3) := by decide +kernel
theorem dX2_forget_10 : decode cX2_forget 10 = .ok (.return_, 1) := by decide +kernel
theorem dX2_pageToTell_0 : decode cX2_pageToTell 0 = .ok (.aload_n 0, 1) := by decide +kernel
theorem dX2_pageToTell_1 : decode cX2_pageToTell 1 = .ok (.getfield 28, 3) := by decide +kernel
theorem dX2_pageToTell_4 : decode cX2_pageToTell 4 = .ok (.iconst (-1), 1) := by decide +kernel
theorem dX2_pageToTell_5 : decode cX2_pageToTell 5 = .ok (.if_icmp .ne 7, 3) := by decide +kernel
theorem dX2_pageToTell_8 : decode cX2_pageToTell 8 = .ok (.iconst 0, 1) := by decide +kernel
theorem dX2_pageToTell_9 : decode cX2_pageToTell 9 = .ok (.goto 24, 3) := by decide +kernel
theorem dX2_pageToTell_12 : decode cX2_pageToTell 12 = .ok (.aload_n 0, 1) := by decide +kernel
theorem dX2_pageToTell_13 : decode cX2_pageToTell 13 = .ok (.getfield 28, 3) := by decide +kernel
theorem dX2_pageToTell_16 : decode cX2_pageToTell 16 = .ok (.iload_n 1, 1) := by decide +kernel
theorem dX2_pageToTell_17 : decode cX2_pageToTell 17 = .ok (.if_icmp .ne 10, 3) := by decide +kernel
theorem dX2_pageToTell_20 : decode cX2_pageToTell 20 = .ok (.aload_n 0, 1) := by decide +kernel
theorem dX2_pageToTell_21 : decode cX2_pageToTell 21 = .ok (.getfield 24, 3) := by decide +kernel
theorem dX2_pageToTell_24 : decode cX2_pageToTell 24 = .ok (.goto 9, 3) := by decide +kernel
theorem dX2_pageToTell_27 : decode cX2_pageToTell 27 = .ok (.aload_n 0, 1) := by decide +kernel
theorem dX2_pageToTell_28 : decode cX2_pageToTell 28 = .ok (.getfield 24, 3) := by decide +kernel
theorem dX2_pageToTell_31 : decode cX2_pageToTell 31 = .ok (.iconst 1, 1) := by decide +kernel
theorem dX2_pageToTell_32 : decode cX2_pageToTell 32 = .ok (.iadd, 1) := by decide +kernel
theorem dX2_pageToTell_33 : decode cX2_pageToTell 33 = .ok (.istore_n 2, 1) := by decide +kernel
theorem dX2_pageToTell_34 : decode cX2_pageToTell 34 = .ok (.iload_n 2, 1) := by decide +kernel
theorem dX2_pageToTell_35 : decode cX2_pageToTell 35 = .ok (.aload_n 0, 1) := by decide +kernel
theorem dX2_pageToTell_36 : decode cX2_pageToTell 36 = .ok (.invokevirtual 57, 3) := by decide +kernel
theorem dX2_pageToTell_39 : decode cX2_pageToTell 39 = .ok (.if_icmp .ge 7, 3) := by decide +kernel
theorem dX2_pageToTell_42 : decode cX2_pageToTell 42 = .ok (.iload_n 2, 1) := by decide +kernel
theorem dX2_pageToTell_43 : decode cX2_pageToTell 43 = .ok (.goto 4, 3) := by decide +kernel
theorem dX2_pageToTell_46 : decode cX2_pageToTell 46 = .ok (.iconst 0, 1) := by decide +kernel
theorem dX2_pageToTell_47 : decode cX2_pageToTell 47 = .ok (.ireturn, 1) := by decide +kernel
theorem dX2_writeAnswer_0 : decode cX2_writeAnswer 0 = .ok (.aload_n 0, 1) := by decide +kernel
theorem dX2_writeAnswer_1 : decode cX2_writeAnswer 1 = .ok (.getfield 24, 3) := by decide +kernel
theorem dX2_writeAnswer_4 : decode cX2_writeAnswer 4 = .ok (.ifCond .lt 18, 3) := by decide +kernel
theorem dX2_writeAnswer_7 : decode cX2_writeAnswer 7 = .ok (.aload_n 0, 1) := by decide +kernel
theorem dX2_writeAnswer_8 : decode cX2_writeAnswer 8 = .ok (.getfield 24, 3) := by decide +kernel
theorem dX2_writeAnswer_11 : decode cX2_writeAnswer 11 = .ok (.iconst 3, 1) := by decide +kernel
theorem dX2_writeAnswer_12 : decode cX2_writeAnswer 12 = .ok (.if_icmp .ge 10, 3) := by decide +kernel
theorem dX2_writeAnswer_15 : decode cX2_writeAnswer 15 = .ok (.aload_n 0, 1) := by decide +kernel
theorem dX2_writeAnswer_16 : decode cX2_writeAnswer 16 = .ok (.getfield 24, 3) := by decide +kernel
theorem dX2_writeAnswer_19 : decode cX2_writeAnswer 19 = .ok (.goto 4, 3) := by decide +kernel
theorem dX2_writeAnswer_22 : decode cX2_writeAnswer 22 = .ok (.iconst 0, 1) := by decide +kernel
theorem dX2_writeAnswer_23 : decode cX2_writeAnswer 23 = .ok (.istore_n 2, 1) := by decide +kernel
theorem dX2_writeAnswer_24 : decode cX2_writeAnswer 24 = .ok (.iload_n 2, 1) := by decide +kernel
theorem dX2_writeAnswer_25 : decode cX2_writeAnswer 25 = .ok (.iconst 1, 1) := by decide +kernel
theorem dX2_writeAnswer_26 : decode cX2_writeAnswer 26 = .ok (.iadd, 1) := by decide +kernel
theorem dX2_writeAnswer_27 : decode cX2_writeAnswer 27 = .ok (.aload_n 0, 1) := by decide +kernel
theorem dX2_writeAnswer_28 : decode cX2_writeAnswer 28 = .ok (.invokevirtual 57, 3) := by decide +kernel
theorem dX2_writeAnswer_31 : decode cX2_writeAnswer 31 = .ok (.if_icmp .ge 7, 3) := by decide +kernel
theorem dX2_writeAnswer_34 : decode cX2_writeAnswer 34 = .ok (.iconst 1, 1) := by decide +kernel
theorem dX2_writeAnswer_35 : decode cX2_writeAnswer 35 = .ok (.goto 4, 3) := by decide +kernel
theorem dX2_writeAnswer_38 : decode cX2_writeAnswer 38 = .ok (.iconst 0, 1) := by decide +kernel
theorem dX2_writeAnswer_39 : decode cX2_writeAnswer 39 = .ok (.istore_n 3, 1) := by decide +kernel
theorem dX2_writeAnswer_40 : decode cX2_writeAnswer 40 = .ok (.bipush 15, 2) := by decide +kernel
theorem dX2_writeAnswer_42 : decode cX2_writeAnswer 42 = .ok (.aload_n 0, 1) := by decide +kernel
theorem dX2_writeAnswer_43 : decode cX2_writeAnswer 43 = .ok (.getfield 20, 3) := by decide +kernel
theorem dX2_writeAnswer_46 : decode cX2_writeAnswer 46 = .ok (.iload_n 2, 1) := by decide +kernel
theorem dX2_writeAnswer_47 : decode cX2_writeAnswer 47 = .ok (.iaload, 1) := by decide +kernel
theorem dX2_writeAnswer_48 : decode cX2_writeAnswer 48 = .ok (.iadd, 1) := by decide +kernel
theorem dX2_writeAnswer_49 : decode cX2_writeAnswer 49 = .ok (.iload_n 3, 1) := by decide +kernel
theorem dX2_writeAnswer_50 : decode cX2_writeAnswer 50 = .ok (.ifCond .eq 7, 3) := by decide +kernel
theorem dX2_writeAnswer_53 : decode cX2_writeAnswer 53 = .ok (.iconst 1, 1) := by decide +kernel
theorem dX2_writeAnswer_54 : decode cX2_writeAnswer 54 = .ok (.goto 4, 3) := by decide +kernel
theorem dX2_writeAnswer_57 : decode cX2_writeAnswer 57 = .ok (.iconst 0, 1) := by decide +kernel
theorem dX2_writeAnswer_58 : decode cX2_writeAnswer 58 = .ok (.iadd, 1) := by decide +kernel
theorem dX2_writeAnswer_59 : decode cX2_writeAnswer 59 = .ok (.istore 4, 2) := by decide +kernel
theorem dX2_writeAnswer_61 : decode cX2_writeAnswer 61 = .ok (.aload_n 1, 1) := by decide +kernel
theorem dX2_writeAnswer_62 : decode cX2_writeAnswer 62 = .ok (.iconst 0, 1) := by decide +kernel
theorem dX2_writeAnswer_63 : decode cX2_writeAnswer 63 = .ok (.invokevirtual 76, 3) := by decide +kernel
theorem dX2_writeAnswer_66 : decode cX2_writeAnswer 66 = .ok (.aload_n 1, 1) := by decide +kernel
theorem dX2_writeAnswer_67 : decode cX2_writeAnswer 67 = .ok (.bipush 104, 2) := by decide +kernel
theorem dX2_writeAnswer_69 : decode cX2_writeAnswer 69 = .ok (.invokevirtual 80, 3) := by decide +kernel
theorem dX2_writeAnswer_72 : decode cX2_writeAnswer 72 = .ok (.aload_n 1, 1) := by decide +kernel
theorem dX2_writeAnswer_73 : decode cX2_writeAnswer 73 = .ok (.iload 4, 2) := by decide +kernel
theorem dX2_writeAnswer_75 : decode cX2_writeAnswer 75 = .ok (.invokevirtual 80, 3) := by decide +kernel
theorem dX2_writeAnswer_78 : decode cX2_writeAnswer 78 = .ok (.aload_n 1, 1) := by decide +kernel
theorem dX2_writeAnswer_79 : decode cX2_writeAnswer 79 = .ok (.iload 4, 2) := by decide +kernel
theorem dX2_writeAnswer_81 : decode cX2_writeAnswer 81 = .ok (.invokevirtual 80, 3) := by decide +kernel
theorem dX2_writeAnswer_84 : decode cX2_writeAnswer 84 = .ok (.aload_n 1, 1) := by decide +kernel
theorem dX2_writeAnswer_85 : decode cX2_writeAnswer 85 = .ok (.bipush 104, 2) := by decide +kernel
theorem dX2_writeAnswer_87 : decode cX2_writeAnswer 87 = .ok (.invokevirtual 80, 3) := by decide +kernel
theorem dX2_writeAnswer_90 : decode cX2_writeAnswer 90 = .ok (.aload_n 1, 1) := by decide +kernel
theorem dX2_writeAnswer_91 : decode cX2_writeAnswer 91 = .ok (.bipush 8, 2) := by decide +kernel
theorem dX2_writeAnswer_93 : decode cX2_writeAnswer 93 = .ok (.invokevirtual 80, 3) := by decide +kernel
theorem dX2_writeAnswer_96 : decode cX2_writeAnswer 96 = .ok (.aload_n 1, 1) := by decide +kernel
theorem dX2_writeAnswer_97 : decode cX2_writeAnswer 97 = .ok (.aload_n 0, 1) := by decide +kernel
theorem dX2_writeAnswer_98 : decode cX2_writeAnswer 98 = .ok (.getfield 34, 3) := by decide +kernel
theorem dX2_writeAnswer_101 : decode cX2_writeAnswer 101 = .ok (.invokevirtual 80, 3) := by decide +kernel
theorem dX2_writeAnswer_104 : decode cX2_writeAnswer 104 = .ok (.aload_n 1, 1) := by decide +kernel
theorem dX2_writeAnswer_105 : decode cX2_writeAnswer 105 = .ok (.bipush 114, 2) := by decide +kernel
theorem dX2_writeAnswer_107 : decode cX2_writeAnswer 107 = .ok (.invokevirtual 80, 3) := by decide +kernel
theorem dX2_writeAnswer_110 : decode cX2_writeAnswer 110 = .ok (.aload_n 1, 1) := by decide +kernel
theorem dX2_writeAnswer_111 : decode cX2_writeAnswer 111 = .ok (.aload_n 0, 1) := by decide +kernel
theorem dX2_writeAnswer_112 : decode cX2_writeAnswer 112 = .ok (.getfield 37, 3) := by decide +kernel
theorem dX2_writeAnswer_115 : decode cX2_writeAnswer 115 = .ok (.invokevirtual 83, 3) := by decide +kernel
theorem dX2_writeAnswer_118 : decode cX2_writeAnswer 118 = .ok (.aload_n 1, 1) := by decide +kernel
theorem dX2_writeAnswer_119 : decode cX2_writeAnswer 119 = .ok (.aload_n 0, 1) := by decide +kernel
theorem dX2_writeAnswer_120 : decode cX2_writeAnswer 120 = .ok (.getfield 31, 3) := by decide +kernel
theorem dX2_writeAnswer_123 : decode cX2_writeAnswer 123 = .ok (.invokevirtual 80, 3) := by decide +kernel
theorem dX2_writeAnswer_126 : decode cX2_writeAnswer 126 = .ok (.iconst 0, 1) := by decide +kernel
theorem dX2_writeAnswer_127 : decode cX2_writeAnswer 127 = .ok (.istore 5, 2) := by decide +kernel
theorem dX2_writeAnswer_129 : decode cX2_writeAnswer 129 = .ok (.iload 5, 2) := by decide +kernel
theorem dX2_writeAnswer_131 : decode cX2_writeAnswer 131 = .ok (.iconst 3, 1) := by decide +kernel
theorem dX2_writeAnswer_132 : decode cX2_writeAnswer 132 = .ok (.if_icmp .ge 14, 3) := by decide +kernel
theorem dX2_writeAnswer_135 : decode cX2_writeAnswer 135 = .ok (.aload_n 1, 1) := by decide +kernel
theorem dX2_writeAnswer_136 : decode cX2_writeAnswer 136 = .ok (.iconst 0, 1) := by decide +kernel
theorem dX2_writeAnswer_137 : decode cX2_writeAnswer 137 = .ok (.invokevirtual 80, 3) := by decide +kernel
theorem dX2_writeAnswer_140 : decode cX2_writeAnswer 140 = .ok (.iinc 5 1, 3) := by decide +kernel
theorem dX2_writeAnswer_143 : decode cX2_writeAnswer 143 = .ok (.goto (-14), 3) := by decide +kernel
theorem dX2_writeAnswer_146 : decode cX2_writeAnswer 146 = .ok (.iconst 0, 1) := by decide +kernel
theorem dX2_writeAnswer_147 : decode cX2_writeAnswer 147 = .ok (.istore 5, 2) := by decide +kernel
theorem dX2_writeAnswer_149 : decode cX2_writeAnswer 149 = .ok (.iload 5, 2) := by decide +kernel
theorem dX2_writeAnswer_151 : decode cX2_writeAnswer 151 = .ok (.aload_n 0, 1) := by decide +kernel
theorem dX2_writeAnswer_152 : decode cX2_writeAnswer 152 = .ok (.getfield 20, 3) := by decide +kernel
theorem dX2_writeAnswer_155 : decode cX2_writeAnswer 155 = .ok (.iload_n 2, 1) := by decide +kernel
theorem dX2_writeAnswer_156 : decode cX2_writeAnswer 156 = .ok (.iaload, 1) := by decide +kernel
theorem dX2_writeAnswer_157 : decode cX2_writeAnswer 157 = .ok (.if_icmp .ge 29, 3) := by decide +kernel
theorem dX2_writeAnswer_160 : decode cX2_writeAnswer 160 = .ok (.iload 5, 2) := by decide +kernel
theorem dX2_writeAnswer_162 : decode cX2_writeAnswer 162 = .ok (.bipush 60, 2) := by decide +kernel
theorem dX2_writeAnswer_164 : decode cX2_writeAnswer 164 = .ok (.if_icmp .ge 22, 3) := by decide +kernel
theorem dX2_writeAnswer_167 : decode cX2_writeAnswer 167 = .ok (.aload_n 1, 1) := by decide +kernel
theorem dX2_writeAnswer_168 : decode cX2_writeAnswer 168 = .ok (.aload_n 0, 1) := by decide +kernel
theorem dX2_writeAnswer_169 : decode cX2_writeAnswer 169 = .ok (.getfield 17, 3) := by decide +kernel
theorem dX2_writeAnswer_172 : decode cX2_writeAnswer 172 = .ok (.iload_n 2, 1) := by decide +kernel
theorem dX2_writeAnswer_173 : decode cX2_writeAnswer 173 = .ok (.aaload, 1) := by decide +kernel
theorem dX2_writeAnswer_174 : decode cX2_writeAnswer 174 = .ok (.iload 5, 2) := by decide +kernel
theorem dX2_writeAnswer_176 : decode cX2_writeAnswer 176 = .ok (.iaload, 1) := by decide +kernel
theorem dX2_writeAnswer_177 : decode cX2_writeAnswer 177 = .ok (.invokevirtual 80, 3) := by decide +kernel
theorem dX2_writeAnswer_180 : decode cX2_writeAnswer 180 = .ok (.iinc 5 1, 3) := by decide +kernel
theorem dX2_writeAnswer_183 : decode cX2_writeAnswer 183 = .ok (.goto (-34), 3) := by decide +kernel
theorem dX2_writeAnswer_186 : decode cX2_writeAnswer 186 = .ok (.iload_n 3, 1) := by decide +kernel
theorem dX2_writeAnswer_187 : decode cX2_writeAnswer 187 = .ok (.ifCond .eq 9, 3) := by decide +kernel
theorem dX2_writeAnswer_190 : decode cX2_writeAnswer 190 = .ok (.aload_n 1, 1) := by decide +kernel
theorem dX2_writeAnswer_191 : decode cX2_writeAnswer 191 = .ok (.bipush 31, 2) := by decide +kernel
theorem dX2_writeAnswer_193 : decode cX2_writeAnswer 193 = .ok (.invokevirtual 80, 3) := by decide +kernel
theorem dX2_writeAnswer_196 : decode cX2_writeAnswer 196 = .ok (.aload_n 1, 1) := by decide +kernel
theorem dX2_writeAnswer_197 : decode cX2_writeAnswer 197 = .ok (.aload_n 1, 1) := by decide +kernel
theorem dX2_writeAnswer_198 : decode cX2_writeAnswer 198 = .ok (.iconst 4, 1) := by decide +kernel
theorem dX2_writeAnswer_199 : decode cX2_writeAnswer 199 = .ok (.aload_n 1, 1) := by decide +kernel
theorem dX2_writeAnswer_200 : decode cX2_writeAnswer 200 = .ok (.invokevirtual 41, 3) := by decide +kernel
theorem dX2_writeAnswer_203 : decode cX2_writeAnswer 203 = .ok (.invokevirtual 87, 3) := by decide +kernel
theorem dX2_writeAnswer_206 : decode cX2_writeAnswer 206 = .ok (.invokevirtual 80, 3) := by decide +kernel
theorem dX2_writeAnswer_209 : decode cX2_writeAnswer 209 = .ok (.aload_n 1, 1) := by decide +kernel
theorem dX2_writeAnswer_210 : decode cX2_writeAnswer 210 = .ok (.bipush 22, 2) := by decide +kernel
theorem dX2_writeAnswer_212 : decode cX2_writeAnswer 212 = .ok (.invokevirtual 80, 3) := by decide +kernel
theorem dX2_writeAnswer_215 : decode cX2_writeAnswer 215 = .ok (.return_, 1) := by decide +kernel
