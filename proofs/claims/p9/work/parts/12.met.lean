section
/-! The instructions of the class, decoded. By program (wip/mkdec.py). -/
theorem dX2_init_0 : decode cX2_init 0 = .ok (.aload_n 0, 1) := by decide +kernel
theorem dX2_init_1 : decode cX2_init 1 = .ok (.invokespecial 3, 3) := by decide +kernel
theorem dX2_init_4 : decode cX2_init 4 = .ok (.aload_n 0, 1) := by decide +kernel
theorem dX2_init_5 : decode cX2_init 5 = .ok (.iconst 0, 1) := by decide +kernel
theorem dX2_init_6 : decode cX2_init 6 = .ok (.putfield 9, 3) := by decide +kernel
theorem dX2_init_9 : decode cX2_init 9 = .ok (.aload_n 0, 1) := by decide +kernel
theorem dX2_init_10 : decode cX2_init 10 = .ok (.iconst 3, 1) := by decide +kernel
theorem dX2_init_11 : decode cX2_init 11 = .ok (.bipush 60, 2) := by decide +kernel
theorem dX2_init_13 : decode cX2_init 13 = .ok (.multianewarray 15 2, 4) := by decide +kernel
theorem dX2_init_17 : decode cX2_init 17 = .ok (.putfield 17, 3) := by decide +kernel
theorem dX2_init_20 : decode cX2_init 20 = .ok (.aload_n 0, 1) := by decide +kernel
theorem dX2_init_21 : decode cX2_init 21 = .ok (.iconst 3, 1) := by decide +kernel
theorem dX2_init_22 : decode cX2_init 22 = .ok (.newarray .int, 2) := by decide +kernel
theorem dX2_init_24 : decode cX2_init 24 = .ok (.putfield 20, 3) := by decide +kernel
theorem dX2_init_27 : decode cX2_init 27 = .ok (.aload_n 0, 1) := by decide +kernel
theorem dX2_init_28 : decode cX2_init 28 = .ok (.iconst (-1), 1) := by decide +kernel
theorem dX2_init_29 : decode cX2_init 29 = .ok (.putfield 24, 3) := by decide +kernel
theorem dX2_init_32 : decode cX2_init 32 = .ok (.aload_n 0, 1) := by decide +kernel
theorem dX2_init_33 : decode cX2_init 33 = .ok (.iconst (-1), 1) := by decide +kernel
theorem dX2_init_34 : decode cX2_init 34 = .ok (.putfield 28, 3) := by decide +kernel
theorem dX2_init_37 : decode cX2_init 37 = .ok (.aload_n 0, 1) := by decide +kernel
theorem dX2_init_38 : decode cX2_init 38 = .ok (.iconst 0, 1) := by decide +kernel
theorem dX2_init_39 : decode cX2_init 39 = .ok (.putfield 31, 3) := by decide +kernel
theorem dX2_init_42 : decode cX2_init 42 = .ok (.aload_n 0, 1) := by decide +kernel
theorem dX2_init_43 : decode cX2_init 43 = .ok (.iload_n 1, 1) := by decide +kernel
theorem dX2_init_44 : decode cX2_init 44 = .ok (.putfield 34, 3) := by decide +kernel
theorem dX2_init_47 : decode cX2_init 47 = .ok (.aload_n 0, 1) := by decide +kernel
theorem dX2_init_48 : decode cX2_init 48 = .ok (.lload_n 2, 1) := by decide +kernel
theorem dX2_init_49 : decode cX2_init 49 = .ok (.putfield 37, 3) := by decide +kernel
theorem dX2_init_52 : decode cX2_init 52 = .ok (.return_, 1) := by decide +kernel
theorem dX2_hasAddress_0 : decode cX2_hasAddress 0 = .ok (.aload_n 0, 1) := by decide +kernel
theorem dX2_hasAddress_1 : decode cX2_hasAddress 1 = .ok (.getfield 37, 3) := by decide +kernel
theorem dX2_hasAddress_4 : decode cX2_hasAddress 4 = .ok (.lload_n 1, 1) := by decide +kernel
theorem dX2_hasAddress_5 : decode cX2_hasAddress 5 = .ok (.lcmp, 1) := by decide +kernel
theorem dX2_hasAddress_6 : decode cX2_hasAddress 6 = .ok (.ifCond .ne 7, 3) := by decide +kernel
theorem dX2_hasAddress_9 : decode cX2_hasAddress 9 = .ok (.iconst 1, 1) := by decide +kernel
theorem dX2_hasAddress_10 : decode cX2_hasAddress 10 = .ok (.goto 4, 3) := by decide +kernel
theorem dX2_hasAddress_13 : decode cX2_hasAddress 13 = .ok (.iconst 0, 1) := by decide +kernel
theorem dX2_hasAddress_14 : decode cX2_hasAddress 14 = .ok (.ireturn, 1) := by decide +kernel
theorem dX2_setPage_0 : decode cX2_setPage 0 = .ok (.iload_n 1, 1) := by decide +kernel
theorem dX2_setPage_1 : decode cX2_setPage 1 = .ok (.ifCond .lt 8, 3) := by decide +kernel
theorem dX2_setPage_4 : decode cX2_setPage 4 = .ok (.iload_n 1, 1) := by decide +kernel
theorem dX2_setPage_5 : decode cX2_setPage 5 = .ok (.iconst 3, 1) := by decide +kernel
theorem dX2_setPage_6 : decode cX2_setPage 6 = .ok (.if_icmp .lt 4, 3) := by decide +kernel
theorem dX2_setPage_9 : decode cX2_setPage 9 = .ok (.return_, 1) := by decide +kernel
theorem dX2_setPage_10 : decode cX2_setPage 10 = .ok (.aload_n 2, 1) := by decide +kernel
theorem dX2_setPage_11 : decode cX2_setPage 11 = .ok (.invokevirtual 41, 3) := by decide +kernel
theorem dX2_setPage_14 : decode cX2_setPage 14 = .ok (.bipush 60, 2) := by decide +kernel
theorem dX2_setPage_16 : decode cX2_setPage 16 = .ok (.invokestatic 47, 3) := by decide +kernel
theorem dX2_setPage_19 : decode cX2_setPage 19 = .ok (.istore_n 3, 1) := by decide +kernel
theorem dX2_setPage_20 : decode cX2_setPage 20 = .ok (.iconst 0, 1) := by decide +kernel
theorem dX2_setPage_21 : decode cX2_setPage 21 = .ok (.istore 4, 2) := by decide +kernel
theorem dX2_setPage_23 : decode cX2_setPage 23 = .ok (.iload 4, 2) := by decide +kernel
theorem dX2_setPage_25 : decode cX2_setPage 25 = .ok (.iload_n 3, 1) := by decide +kernel
theorem dX2_setPage_26 : decode cX2_setPage 26 = .ok (.if_icmp .ge 24, 3) := by decide +kernel
theorem dX2_setPage_29 : decode cX2_setPage 29 = .ok (.aload_n 0, 1) := by decide +kernel
theorem dX2_setPage_30 : decode cX2_setPage 30 = .ok (.getfield 17, 3) := by decide +kernel
theorem dX2_setPage_33 : decode cX2_setPage 33 = .ok (.iload_n 1, 1) := by decide +kernel
theorem dX2_setPage_34 : decode cX2_setPage 34 = .ok (.aaload, 1) := by decide +kernel
theorem dX2_setPage_35 : decode cX2_setPage 35 = .ok (.iload 4, 2) := by decide +kernel
theorem dX2_setPage_37 : decode cX2_setPage 37 = .ok (.aload_n 2, 1) := by decide +kernel
theorem dX2_setPage_38 : decode cX2_setPage 38 = .ok (.iload 4, 2) := by decide +kernel
theorem dX2_setPage_40 : decode cX2_setPage 40 = .ok (.invokevirtual 53, 3) := by decide +kernel
theorem dX2_setPage_43 : decode cX2_setPage 43 = .ok (.iastore, 1) := by decide +kernel
theorem dX2_setPage_44 : decode cX2_setPage 44 = .ok (.iinc 4 1, 3) := by decide +kernel
theorem dX2_setPage_47 : decode cX2_setPage 47 = .ok (.goto (-24), 3) := by decide +kernel
theorem dX2_setPage_50 : decode cX2_setPage 50 = .ok (.aload_n 0, 1) := by decide +kernel
theorem dX2_setPage_51 : decode cX2_setPage 51 = .ok (.getfield 20, 3) := by decide +kernel
theorem dX2_setPage_54 : decode cX2_setPage 54 = .ok (.iload_n 1, 1) := by decide +kernel
theorem dX2_setPage_55 : decode cX2_setPage 55 = .ok (.iload_n 3, 1) := by decide +kernel
theorem dX2_setPage_56 : decode cX2_setPage 56 = .ok (.iastore, 1) := by decide +kernel
theorem dX2_setPage_57 : decode cX2_setPage 57 = .ok (.return_, 1) := by decide +kernel
theorem dX2_pageNumber_0 : decode cX2_pageNumber 0 = .ok (.iconst 2, 1) := by decide +kernel
theorem dX2_pageNumber_1 : decode cX2_pageNumber 1 = .ok (.istore_n 1, 1) := by decide +kernel
theorem dX2_pageNumber_2 : decode cX2_pageNumber 2 = .ok (.iload_n 1, 1) := by decide +kernel
theorem dX2_pageNumber_3 : decode cX2_pageNumber 3 = .ok (.ifCond .le 22, 3) := by decide +kernel
theorem dX2_pageNumber_6 : decode cX2_pageNumber 6 = .ok (.aload_n 0, 1) := by decide +kernel
theorem dX2_pageNumber_7 : decode cX2_pageNumber 7 = .ok (.getfield 20, 3) := by decide +kernel
theorem dX2_pageNumber_10 : decode cX2_pageNumber 10 = .ok (.iload_n 1, 1) := by decide +kernel
theorem dX2_pageNumber_11 : decode cX2_pageNumber 11 = .ok (.iaload, 1) := by decide +kernel
theorem dX2_pageNumber_12 : decode cX2_pageNumber 12 = .ok (.ifCond .le 7, 3) := by decide +kernel
theorem dX2_pageNumber_15 : decode cX2_pageNumber 15 = .ok (.iload_n 1, 1) := by decide +kernel
theorem dX2_pageNumber_16 : decode cX2_pageNumber 16 = .ok (.iconst 1, 1) := by decide +kernel
theorem dX2_pageNumber_17 : decode cX2_pageNumber 17 = .ok (.iadd, 1) := by decide +kernel
theorem dX2_pageNumber_18 : decode cX2_pageNumber 18 = .ok (.ireturn, 1) := by decide +kernel
theorem dX2_pageNumber_19 : decode cX2_pageNumber 19 = .ok (.iinc 1 (-1), 3) := by decide +kernel
theorem dX2_pageNumber_22 : decode cX2_pageNumber 22 = .ok (.goto (-20), 3) := by decide +kernel
theorem dX2_pageNumber_25 : decode cX2_pageNumber 25 = .ok (.iconst 1, 1) := by decide +kernel
theorem dX2_pageNumber_26 : decode cX2_pageNumber 26 = .ok (.ireturn, 1) := by decide +kernel
theorem dX2_detail_0 : decode cX2_detail 0 = .ok (.iload_n 1, 1) := by decide +kernel
theorem dX2_detail_1 : decode cX2_detail 1 = .ok (.tableswitch 77 1 6 #[39, 44, 57, 62, 67, 72], 39) := by decide +kernel
theorem dX2_detail_40 : decode cX2_detail 40 = .ok (.aload_n 0, 1) := by decide +kernel
theorem dX2_detail_41 : decode cX2_detail 41 = .ok (.getfield 34, 3) := by decide +kernel
theorem dX2_detail_44 : decode cX2_detail 44 = .ok (.ireturn, 1) := by decide +kernel
theorem dX2_detail_45 : decode cX2_detail 45 = .ok (.aload_n 0, 1) := by decide +kernel
theorem dX2_detail_46 : decode cX2_detail 46 = .ok (.getfield 9, 3) := by decide +kernel
theorem dX2_detail_49 : decode cX2_detail 49 = .ok (.ifCond .eq 7, 3) := by decide +kernel
theorem dX2_detail_52 : decode cX2_detail 52 = .ok (.iconst 1, 1) := by decide +kernel
theorem dX2_detail_53 : decode cX2_detail 53 = .ok (.goto 4, 3) := by decide +kernel
theorem dX2_detail_56 : decode cX2_detail 56 = .ok (.iconst 0, 1) := by decide +kernel
theorem dX2_detail_57 : decode cX2_detail 57 = .ok (.ireturn, 1) := by decide +kernel
theorem dX2_detail_58 : decode cX2_detail 58 = .ok (.aload_n 0, 1) := by decide +kernel
theorem dX2_detail_59 : decode cX2_detail 59 = .ok (.invokevirtual 57, 3) := by decide +kernel
theorem dX2_detail_62 : decode cX2_detail 62 = .ok (.ireturn, 1) := by decide +kernel
theorem dX2_detail_63 : decode cX2_detail 63 = .ok (.aload_n 0, 1) := by decide +kernel
theorem dX2_detail_64 : decode cX2_detail 64 = .ok (.getfield 24, 3) := by decide +kernel
theorem dX2_detail_67 : decode cX2_detail 67 = .ok (.ireturn, 1) := by decide +kernel
theorem dX2_detail_68 : decode cX2_detail 68 = .ok (.aload_n 0, 1) := by decide +kernel
theorem dX2_detail_69 : decode cX2_detail 69 = .ok (.getfield 28, 3) := by decide +kernel
theorem dX2_detail_72 : decode cX2_detail 72 = .ok (.ireturn, 1) := by decide +kernel
theorem dX2_detail_73 : decode cX2_detail 73 = .ok (.aload_n 0, 1) := by decide +kernel
theorem dX2_detail_74 : decode cX2_detail 74 = .ok (.getfield 31, 3) := by decide +kernel
theorem dX2_detail_77 : decode cX2_detail 77 = .ok (.ireturn, 1) := by decide +kernel
theorem dX2_detail_78 : decode cX2_detail 78 = .ok (.iconst 1, 1) := by decide +kernel
theorem dX2_detail_79 : decode cX2_detail 79 = .ok (.ireturn, 1) := by decide +kernel
theorem dX2_isMeant_0 : decode cX2_isMeant 0 = .ok (.iload_n 1, 1) := by decide +kernel
theorem dX2_isMeant_1 : decode cX2_isMeant 1 = .ok (.sipush 250, 3) := by decide +kernel
theorem dX2_isMeant_4 : decode cX2_isMeant 4 = .ok (.if_icmp .gt 17, 3) := by decide +kernel
theorem dX2_isMeant_7 : decode cX2_isMeant 7 = .ok (.iload_n 1, 1) := by decide +kernel
theorem dX2_isMeant_8 : decode cX2_isMeant 8 = .ok (.aload_n 0, 1) := by decide +kernel
theorem dX2_isMeant_9 : decode cX2_isMeant 9 = .ok (.getfield 34, 3) := by decide +kernel
theorem dX2_isMeant_12 : decode cX2_isMeant 12 = .ok (.if_icmp .ne 7, 3) := by decide +kernel
theorem dX2_isMeant_15 : decode cX2_isMeant 15 = .ok (.iconst 1, 1) := by decide +kernel
theorem dX2_isMeant_16 : decode cX2_isMeant 16 = .ok (.goto 4, 3) := by decide +kernel
theorem dX2_isMeant_19 : decode cX2_isMeant 19 = .ok (.iconst 0, 1) := by decide +kernel
theorem dX2_isMeant_20 : decode cX2_isMeant 20 = .ok (.ireturn, 1) := by decide +kernel
theorem dX2_isMeant_21 : decode cX2_isMeant 21 = .ok (.iload_n 1, 1) := by decide +kernel
theorem dX2_isMeant_22 : decode cX2_isMeant 22 = .ok (.sipush 253, 3) := by decide +kernel
theorem dX2_isMeant_25 : decode cX2_isMeant 25 = .ok (.if_icmp .ne 10, 3) := by decide +kernel
theorem dX2_isMeant_28 : decode cX2_isMeant 28 = .ok (.aload_n 0, 1) := by decide +kernel
theorem dX2_isMeant_29 : decode cX2_isMeant 29 = .ok (.getfield 9, 3) := by decide +kernel
theorem dX2_isMeant_32 : decode cX2_isMeant 32 = .ok (.goto 15, 3) := by decide +kernel
theorem dX2_isMeant_35 : decode cX2_isMeant 35 = .ok (.iload_n 1, 1) := by decide +kernel
theorem dX2_isMeant_36 : decode cX2_isMeant 36 = .ok (.sipush 253, 3) := by decide +kernel
theorem dX2_isMeant_39 : decode cX2_isMeant 39 = .ok (.if_icmp .le 7, 3) := by decide +kernel
theorem dX2_isMeant_42 : decode cX2_isMeant 42 = .ok (.iconst 1, 1) := by decide +kernel
theorem dX2_isMeant_43 : decode cX2_isMeant 43 = .ok (.goto 4, 3) := by decide +kernel
theorem dX2_isMeant_46 : decode cX2_isMeant 46 = .ok (.iconst 0, 1) := by decide +kernel
theorem dX2_isMeant_47 : decode cX2_isMeant 47 = .ok (.ireturn, 1) := by decide +kernel
theorem dX2_looksAtMask_0 : decode cX2_looksAtMask 0 = .ok (.aload_n 0, 1) := by decide +kernel
theorem dX2_looksAtMask_1 : decode cX2_looksAtMask 1 = .ok (.lload_n 1, 1) := by decide +kernel
theorem dX2_looksAtMask_2 : decode cX2_looksAtMask 2 = .ok (.aload_n 0, 1) := by decide +kernel
theorem dX2_looksAtMask_3 : decode cX2_looksAtMask 3 = .ok (.getfield 37, 3) := by decide +kernel
theorem dX2_looksAtMask_6 : decode cX2_looksAtMask 6 = .ok (.lxor, 1) := by decide +kernel
theorem dX2_looksAtMask_7 : decode cX2_looksAtMask 7 = .ok (.lload_n 3, 1) := by decide +kernel
theorem dX2_looksAtMask_8 : decode cX2_looksAtMask 8 = .ok (.land, 1) := by decide +kernel
theorem dX2_looksAtMask_9 : decode cX2_looksAtMask 9 = .ok (.lconst 0, 1) := by decide +kernel
theorem dX2_looksAtMask_10 : decode cX2_looksAtMask 10 = .ok (.lcmp, 1) := by decide +kernel
theorem dX2_looksAtMask_11 : decode cX2_looksAtMask 11 = .ok (.ifCond .ne 7, 3) := by decide +kernel
theorem dX2_looksAtMask_14 : decode cX2_looksAtMask 14 = .ok (.iconst 1, 1) := by decide +kernel
theorem dX2_looksAtMask_15 : decode cX2_looksAtMask 15 = .ok (.goto 4, 3) := by decide +kernel
theorem dX2_looksAtMask_18 : decode cX2_looksAtMask 18 = .ok (.iconst 0, 1) := by decide +kernel
theorem dX2_looksAtMask_19 : decode cX2_looksAtMask 19 = .ok (.putfield 9, 3) := by decide +kernel
theorem dX2_looksAtMask_22 : decode cX2_looksAtMask 22 = .ok (.aload_n 0, 1) := by decide +kernel
theorem dX2_looksAtMask_23 : decode cX2_looksAtMask 23 = .ok (.getfield 9, 3) := by decide +kernel
theorem dX2_looksAtMask_26 : decode cX2_looksAtMask 26 = .ok (.ifCond .eq 8, 3) := by decide +kernel
theorem dX2_looksAtMask_29 : decode cX2_looksAtMask 29 = .ok (.aload 5, 2) := by decide +kernel
theorem dX2_looksAtMask_31 : decode cX2_looksAtMask 31 = .ok (.invokevirtual 60, 3) := by decide +kernel
theorem dX2_looksAtMask_34 : decode cX2_looksAtMask 34 = .ok (.aload_n 0, 1) := by decide +kernel
theorem dX2_looksAtMask_35 : decode cX2_looksAtMask 35 = .ok (.getfield 9, 3) := by decide +kernel
theorem dX2_looksAtMask_38 : decode cX2_looksAtMask 38 = .ok (.ireturn, 1) := by decide +kernel
theorem dX2_hearsShort_0 : decode cX2_hearsShort 0 = .ok (.iload_n 1, 1) := by decide +kernel
theorem dX2_hearsShort_1 : decode cX2_hearsShort 1 = .ok (.bipush 64, 2) := by decide +kernel
theorem dX2_hearsShort_3 : decode cX2_hearsShort 3 = .ok (.if_icmp .ne 36, 3) := by decide +kernel
theorem dX2_hearsShort_6 : decode cX2_hearsShort 6 = .ok (.aload_n 0, 1) := by decide +kernel
theorem dX2_hearsShort_7 : decode cX2_hearsShort 7 = .ok (.invokevirtual 63, 3) := by decide +kernel
theorem dX2_hearsShort_10 : decode cX2_hearsShort 10 = .ok (.aload_n 0, 1) := by decide +kernel
theorem dX2_hearsShort_11 : decode cX2_hearsShort 11 = .ok (.aload_n 0, 1) := by decide +kernel
theorem dX2_hearsShort_12 : decode cX2_hearsShort 12 = .ok (.getfield 9, 3) := by decide +kernel
theorem dX2_hearsShort_15 : decode cX2_hearsShort 15 = .ok (.ifCond .eq 14, 3) := by decide +kernel
theorem dX2_hearsShort_18 : decode cX2_hearsShort 18 = .ok (.iload_n 2, 1) := by decide +kernel
theorem dX2_hearsShort_19 : decode cX2_hearsShort 19 = .ok (.sipush 253, 3) := by decide +kernel
theorem dX2_hearsShort_22 : decode cX2_hearsShort 22 = .ok (.if_icmp .eq 7, 3) := by decide +kernel
theorem dX2_hearsShort_25 : decode cX2_hearsShort 25 = .ok (.iconst 1, 1) := by decide +kernel
theorem dX2_hearsShort_26 : decode cX2_hearsShort 26 = .ok (.goto 4, 3) := by decide +kernel
theorem dX2_hearsShort_29 : decode cX2_hearsShort 29 = .ok (.iconst 0, 1) := by decide +kernel
theorem dX2_hearsShort_30 : decode cX2_hearsShort 30 = .ok (.putfield 9, 3) := by decide +kernel
theorem dX2_hearsShort_33 : decode cX2_hearsShort 33 = .ok (.aload_n 3, 1) := by decide +kernel
theorem dX2_hearsShort_34 : decode cX2_hearsShort 34 = .ok (.invokevirtual 60, 3) := by decide +kernel
theorem dX2_hearsShort_37 : decode cX2_hearsShort 37 = .ok (.iconst 1, 1) := by decide +kernel
theorem dX2_hearsShort_38 : decode cX2_hearsShort 38 = .ok (.ireturn, 1) := by decide +kernel
theorem dX2_hearsShort_39 : decode cX2_hearsShort 39 = .ok (.iload_n 1, 1) := by decide +kernel
theorem dX2_hearsShort_40 : decode cX2_hearsShort 40 = .ok (.bipush 91, 2) := by decide +kernel
theorem dX2_hearsShort_42 : decode cX2_hearsShort 42 = .ok (.if_icmp .eq 9, 3) := by decide +kernel
theorem dX2_hearsShort_45 : decode cX2_hearsShort 45 = .ok (.iload_n 1, 1) := by decide +kernel
theorem dX2_hearsShort_46 : decode cX2_hearsShort 46 = .ok (.bipush 123, 2) := by decide +kernel
theorem dX2_hearsShort_48 : decode cX2_hearsShort 48 = .ok (.if_icmp .ne 47, 3) := by decide +kernel
theorem dX2_hearsShort_51 : decode cX2_hearsShort 51 = .ok (.iload_n 1, 1) := by decide +kernel
theorem dX2_hearsShort_52 : decode cX2_hearsShort 52 = .ok (.iconst 5, 1) := by decide +kernel
theorem dX2_hearsShort_53 : decode cX2_hearsShort 53 = .ok (.ishr, 1) := by decide +kernel
theorem dX2_hearsShort_54 : decode cX2_hearsShort 54 = .ok (.iconst 1, 1) := by decide +kernel
theorem dX2_hearsShort_55 : decode cX2_hearsShort 55 = .ok (.iand, 1) := by decide +kernel
theorem dX2_hearsShort_56 : decode cX2_hearsShort 56 = .ok (.istore 4, 2) := by decide +kernel
theorem dX2_hearsShort_58 : decode cX2_hearsShort 58 = .ok (.aload_n 0, 1) := by decide +kernel
theorem dX2_hearsShort_59 : decode cX2_hearsShort 59 = .ok (.aload_n 0, 1) := by decide +kernel
theorem dX2_hearsShort_60 : decode cX2_hearsShort 60 = .ok (.iload 4, 2) := by decide +kernel
theorem dX2_hearsShort_62 : decode cX2_hearsShort 62 = .ok (.invokevirtual 66, 3) := by decide +kernel
theorem dX2_hearsShort_65 : decode cX2_hearsShort 65 = .ok (.putfield 24, 3) := by decide +kernel
theorem dX2_hearsShort_68 : decode cX2_hearsShort 68 = .ok (.aload_n 0, 1) := by decide +kernel
theorem dX2_hearsShort_69 : decode cX2_hearsShort 69 = .ok (.iload 4, 2) := by decide +kernel
theorem dX2_hearsShort_71 : decode cX2_hearsShort 71 = .ok (.putfield 28, 3) := by decide +kernel
theorem dX2_hearsShort_74 : decode cX2_hearsShort 74 = .ok (.aload_n 0, 1) := by decide +kernel
theorem dX2_hearsShort_75 : decode cX2_hearsShort 75 = .ok (.aload_n 3, 1) := by decide +kernel
theorem dX2_hearsShort_76 : decode cX2_hearsShort 76 = .ok (.invokevirtual 69, 3) := by decide +kernel
theorem dX2_hearsShort_79 : decode cX2_hearsShort 79 = .ok (.aload_n 0, 1) := by decide +kernel
theorem dX2_hearsShort_80 : decode cX2_hearsShort 80 = .ok (.aload_n 0, 1) := by decide +kernel
theorem dX2_hearsShort_81 : decode cX2_hearsShort 81 = .ok (.getfield 31, 3) := by decide +kernel
theorem dX2_hearsShort_84 : decode cX2_hearsShort 84 = .ok (.iconst 1, 1) := by decide +kernel
theorem dX2_hearsShort_85 : decode cX2_hearsShort 85 = .ok (.iadd, 1) := by decide +kernel
theorem dX2_hearsShort_86 : decode cX2_hearsShort 86 = .ok (.sipush 255, 3) := by decide +kernel
theorem dX2_hearsShort_89 : decode cX2_hearsShort 89 = .ok (.iand, 1) := by decide +kernel
theorem dX2_hearsShort_90 : decode cX2_hearsShort 90 = .ok (.putfield 31, 3) := by decide +kernel
theorem dX2_hearsShort_93 : decode cX2_hearsShort 93 = .ok (.iconst 1, 1) := by decide +kernel
theorem dX2_hearsShort_94 : decode cX2_hearsShort 94 = .ok (.ireturn, 1) := by decide +kernel
theorem dX2_hearsShort_95 : decode cX2_hearsShort 95 = .ok (.iconst 0, 1) := by decide +kernel
theorem dX2_hearsShort_96 : decode cX2_hearsShort 96 = .ok (.ireturn, 1) := by decide +kernel
theorem dX2_hearsLong_0 : decode cX2_hearsLong 0 = .ok (.aload_n 1, 1) := by decide +kernel
theorem dX2_hearsLong_1 : decode cX2_hearsLong 1 = .ok (.bipush 6, 2) := by decide +kernel
theorem dX2_hearsLong_3 : decode cX2_hearsLong 3 = .ok (.invokevirtual 53, 3) := by decide +kernel
theorem dX2_hearsLong_6 : decode cX2_hearsLong 6 = .ok (.istore_n 3, 1) := by decide +kernel
theorem dX2_hearsLong_7 : decode cX2_hearsLong 7 = .ok (.iload_n 3, 1) := by decide +kernel
theorem dX2_hearsLong_8 : decode cX2_hearsLong 8 = .ok (.bipush 80, 2) := by decide +kernel
theorem dX2_hearsLong_10 : decode cX2_hearsLong 10 = .ok (.if_icmp .ne 20, 3) := by decide +kernel
theorem dX2_hearsLong_13 : decode cX2_hearsLong 13 = .ok (.aload_n 1, 1) := by decide +kernel
theorem dX2_hearsLong_14 : decode cX2_hearsLong 14 = .ok (.invokevirtual 73, 3) := by decide +kernel
theorem dX2_hearsLong_17 : decode cX2_hearsLong 17 = .ok (.ifCond .ne 13, 3) := by decide +kernel
theorem dX2_hearsLong_20 : decode cX2_hearsLong 20 = .ok (.aload_n 0, 1) := by decide +kernel
theorem dX2_hearsLong_21 : decode cX2_hearsLong 21 = .ok (.invokevirtual 63, 3) := by decide +kernel
theorem dX2_hearsLong_24 : decode cX2_hearsLong 24 = .ok (.aload_n 2, 1) := by decide +kernel
theorem dX2_hearsLong_25 : decode cX2_hearsLong 25 = .ok (.invokevirtual 60, 3) := by decide +kernel
theorem dX2_hearsLong_28 : decode cX2_hearsLong 28 = .ok (.iconst 1, 1) := by decide +kernel
theorem dX2_hearsLong_29 : decode cX2_hearsLong 29 = .ok (.ireturn, 1) := by decide +kernel
theorem dX2_hearsLong_30 : decode cX2_hearsLong 30 = .ok (.iload_n 3, 1) := by decide +kernel
theorem dX2_hearsLong_31 : decode cX2_hearsLong 31 = .ok (.bipush 81, 2) := by decide +kernel
theorem dX2_hearsLong_33 : decode cX2_hearsLong 33 = .ok (.if_icmp .ne 60, 3) := by decide +kernel
theorem dX2_hearsLong_36 : decode cX2_hearsLong 36 = .ok (.aload_n 1, 1) := by decide +kernel
theorem dX2_hearsLong_37 : decode cX2_hearsLong 37 = .ok (.invokevirtual 73, 3) := by decide +kernel
theorem dX2_hearsLong_40 : decode cX2_hearsLong 40 = .ok (.iconst 3, 1) := by decide +kernel
theorem dX2_hearsLong_41 : decode cX2_hearsLong 41 = .ok (.if_icmp .ne 52, 3) := by decide +kernel
theorem dX2_hearsLong_44 : decode cX2_hearsLong 44 = .ok (.aload_n 1, 1) := by decide +kernel
theorem dX2_hearsLong_45 : decode cX2_hearsLong 45 = .ok (.bipush 7, 2) := by decide +kernel
theorem dX2_hearsLong_47 : decode cX2_hearsLong 47 = .ok (.invokevirtual 53, 3) := by decide +kernel
theorem dX2_hearsLong_50 : decode cX2_hearsLong 50 = .ok (.iconst 1, 1) := by decide +kernel
theorem dX2_hearsLong_51 : decode cX2_hearsLong 51 = .ok (.if_icmp .ne 42, 3) := by decide +kernel
theorem dX2_hearsLong_54 : decode cX2_hearsLong 54 = .ok (.aload_n 1, 1) := by decide +kernel
theorem dX2_hearsLong_55 : decode cX2_hearsLong 55 = .ok (.bipush 8, 2) := by decide +kernel
theorem dX2_hearsLong_57 : decode cX2_hearsLong 57 = .ok (.invokevirtual 53, 3) := by decide +kernel
theorem dX2_hearsLong_60 : decode cX2_hearsLong 60 = .ok (.bipush 122, 2) := by decide +kernel
theorem dX2_hearsLong_62 : decode cX2_hearsLong 62 = .ok (.if_icmp .ne 31, 3) := by decide +kernel
theorem dX2_hearsLong_65 : decode cX2_hearsLong 65 = .ok (.aload_n 1, 1) := by decide +kernel
theorem dX2_hearsLong_66 : decode cX2_hearsLong 66 = .ok (.bipush 9, 2) := by decide +kernel
theorem dX2_hearsLong_68 : decode cX2_hearsLong 68 = .ok (.invokevirtual 53, 3) := by decide +kernel
theorem dX2_hearsLong_71 : decode cX2_hearsLong 71 = .ok (.sipush 250, 3) := by decide +kernel
theorem dX2_hearsLong_74 : decode cX2_hearsLong 74 = .ok (.if_icmp .gt 19, 3) := by decide +kernel
theorem dX2_hearsLong_77 : decode cX2_hearsLong 77 = .ok (.aload_n 0, 1) := by decide +kernel
theorem dX2_hearsLong_78 : decode cX2_hearsLong 78 = .ok (.aload_n 1, 1) := by decide +kernel
theorem dX2_hearsLong_79 : decode cX2_hearsLong 79 = .ok (.bipush 9, 2) := by decide +kernel
theorem dX2_hearsLong_81 : decode cX2_hearsLong 81 = .ok (.invokevirtual 53, 3) := by decide +kernel
theorem dX2_hearsLong_84 : decode cX2_hearsLong 84 = .ok (.putfield 34, 3) := by decide +kernel
theorem dX2_hearsLong_87 : decode cX2_hearsLong 87 = .ok (.aload_n 2, 1) := by decide +kernel
theorem dX2_hearsLong_88 : decode cX2_hearsLong 88 = .ok (.invokevirtual 60, 3) := by decide +kernel
theorem dX2_hearsLong_91 : decode cX2_hearsLong 91 = .ok (.iconst 1, 1) := by decide +kernel
theorem dX2_hearsLong_92 : decode cX2_hearsLong 92 = .ok (.ireturn, 1) := by decide +kernel
theorem dX2_hearsLong_93 : decode cX2_hearsLong 93 = .ok (.iconst 0, 1) := by decide +kernel
theorem dX2_hearsLong_94 : decode cX2_hearsLong 94 = .ok (.ireturn, 1) := by decide +kernel
theorem dX2_forget_0 : decode cX2_forget 0 = .ok (.aload_n 0, 1) := by decide +kernel
theorem dX2_forget_1 : decode cX2_forget 1 = .ok (.iconst (-1), 1) := by decide +kernel
theorem dX2_forget_2 : decode cX2_forget 2 = .ok (.putfield 24, 3) := by decide +kernel
theorem dX2_forget_5 : decode cX2_forget 5 = .ok (.aload_n 0, 1) := by decide +kernel
theorem dX2_forget_6 : decode cX2_forget 6 = .ok (.iconst (-1), 1) := by decide +kernel
theorem dX2_forget_7 : decode cX2_forget 7 = .ok (.putfield 28, 3) := by decide +kernel
theorem dX2_forget_10 : decode cX2_forget 10 = .ok (.return_, 1) := by decide +kernel
theorem dX2_pageToTell_0 : decode cX2_pageToTell 0 = .ok (.aload_n 0, 1) := by decide +kernel
theorem dX2_pageToTell_1 : decode cX2_pageToTell 1 = .ok (.getfield 28, 3) := by decide +kernel
theorem dX2_pageToTell_4 : decode cX2_pageToTell 4 = .ok (.iconst (-1), 1) := by decide +kernel
theorem dX2_pageToTell_5 : decode cX2_pageToTell 5 = .ok (.if_icmp .ne 7, 3) := by decide +kernel
theorem dX2_pageToTell_8 : decode cX2_pageToTell 8 = .ok (.iconst 0, 1) := by decide +kernel
theorem dX2_pageToTell_9 : decode cX2_pageToTell 9 = .ok (.goto 24, 3) := by decide +kernel
theorem dX2_pageToTell_12 : decode cX2_pageToTell 12 = .ok (.aload_n 0, 1) := by decide +kernel
theorem dX2_pageToTell_13 : decode cX2_pageToTell 13 = .ok (.getfield 28, 3) := by decide +kernel
theorem dX2_pageToTell_16 : decode cX2_pageToTell 16 = .ok (.iload_n 1, 1) := by decide +kernel
theorem dX2_pageToTell_17 : decode cX2_pageToTell 17 = .ok (.if_icmp .ne 10, 3) := by decide +kernel
theorem dX2_pageToTell_20 : decode cX2_pageToTell 20 = .ok (.aload_n 0, 1) := by decide +kernel
theorem dX2_pageToTell_21 : decode cX2_pageToTell 21 = .ok (.getfield 24, 3) := by decide +kernel
theorem dX2_pageToTell_24 : decode cX2_pageToTell 24 = .ok (.goto 9, 3) := by decide +kernel
theorem dX2_pageToTell_27 : decode cX2_pageToTell 27 = .ok (.aload_n 0, 1) := by decide +kernel
theorem dX2_pageToTell_28 : decode cX2_pageToTell 28 = .ok (.getfield 24, 3) := by decide +kernel
theorem dX2_pageToTell_31 : decode cX2_pageToTell 31 = .ok (.iconst 1, 1) := by decide +kernel
theorem dX2_pageToTell_32 : decode cX2_pageToTell 32 = .ok (.iadd, 1) := by decide +kernel
theorem dX2_pageToTell_33 : decode cX2_pageToTell 33 = .ok (.istore_n 2, 1) := by decide +kernel
theorem dX2_pageToTell_34 : decode cX2_pageToTell 34 = .ok (.iload_n 2, 1) := by decide +kernel
theorem dX2_pageToTell_35 : decode cX2_pageToTell 35 = .ok (.aload_n 0, 1) := by decide +kernel
theorem dX2_pageToTell_36 : decode cX2_pageToTell 36 = .ok (.invokevirtual 57, 3) := by decide +kernel
theorem dX2_pageToTell_39 : decode cX2_pageToTell 39 = .ok (.if_icmp .ge 7, 3) := by decide +kernel
theorem dX2_pageToTell_42 : decode cX2_pageToTell 42 = .ok (.iload_n 2, 1) := by decide +kernel
theorem dX2_pageToTell_43 : decode cX2_pageToTell 43 = .ok (.goto 4, 3) := by decide +kernel
theorem dX2_pageToTell_46 : decode cX2_pageToTell 46 = .ok (.iconst 0, 1) := by decide +kernel
theorem dX2_pageToTell_47 : decode cX2_pageToTell 47 = .ok (.ireturn, 1) := by decide +kernel
theorem dX2_writeAnswer_0 : decode cX2_writeAnswer 0 = .ok (.aload_n 0, 1) := by decide +kernel
theorem dX2_writeAnswer_1 : decode cX2_writeAnswer 1 = .ok (.getfield 24, 3) := by decide +kernel
theorem dX2_writeAnswer_4 : decode cX2_writeAnswer 4 = .ok (.ifCond .lt 18, 3) := by decide +kernel
theorem dX2_writeAnswer_7 : decode cX2_writeAnswer 7 = .ok (.aload_n 0, 1) := by decide +kernel
theorem dX2_writeAnswer_8 : decode cX2_writeAnswer 8 = .ok (.getfield 24, 3) := by decide +kernel
theorem dX2_writeAnswer_11 : decode cX2_writeAnswer 11 = .ok (.iconst 3, 1) := by decide +kernel
theorem dX2_writeAnswer_12 : decode cX2_writeAnswer 12 = .ok (.if_icmp .ge 10, 3) := by decide +kernel
theorem dX2_writeAnswer_15 : decode cX2_writeAnswer 15 = .ok (.aload_n 0, 1) := by decide +kernel
theorem dX2_writeAnswer_16 : decode cX2_writeAnswer 16 = .ok (.getfield 24, 3) := by decide +kernel
theorem dX2_writeAnswer_19 : decode cX2_writeAnswer 19 = .ok (.goto 4, 3) := by decide +kernel
theorem dX2_writeAnswer_22 : decode cX2_writeAnswer 22 = .ok (.iconst 0, 1) := by decide +kernel
theorem dX2_writeAnswer_23 : decode cX2_writeAnswer 23 = .ok (.istore_n 2, 1) := by decide +kernel
theorem dX2_writeAnswer_24 : decode cX2_writeAnswer 24 = .ok (.iload_n 2, 1) := by decide +kernel
theorem dX2_writeAnswer_25 : decode cX2_writeAnswer 25 = .ok (.iconst 1, 1) := by decide +kernel
theorem dX2_writeAnswer_26 : decode cX2_writeAnswer 26 = .ok (.iadd, 1) := by decide +kernel
theorem dX2_writeAnswer_27 : decode cX2_writeAnswer 27 = .ok (.aload_n 0, 1) := by decide +kernel
theorem dX2_writeAnswer_28 : decode cX2_writeAnswer 28 = .ok (.invokevirtual 57, 3) := by decide +kernel
theorem dX2_writeAnswer_31 : decode cX2_writeAnswer 31 = .ok (.if_icmp .ge 7, 3) := by decide +kernel
theorem dX2_writeAnswer_34 : decode cX2_writeAnswer 34 = .ok (.iconst 1, 1) := by decide +kernel
theorem dX2_writeAnswer_35 : decode cX2_writeAnswer 35 = .ok (.goto 4, 3) := by decide +kernel
theorem dX2_writeAnswer_38 : decode cX2_writeAnswer 38 = .ok (.iconst 0, 1) := by decide +kernel
theorem dX2_writeAnswer_39 : decode cX2_writeAnswer 39 = .ok (.istore_n 3, 1) := by decide +kernel
theorem dX2_writeAnswer_40 : decode cX2_writeAnswer 40 = .ok (.bipush 15, 2) := by decide +kernel
theorem dX2_writeAnswer_42 : decode cX2_writeAnswer 42 = .ok (.aload_n 0, 1) := by decide +kernel
theorem dX2_writeAnswer_43 : decode cX2_writeAnswer 43 = .ok (.getfield 20, 3) := by decide +kernel
theorem dX2_writeAnswer_46 : decode cX2_writeAnswer 46 = .ok (.iload_n 2, 1) := by decide +kernel
theorem dX2_writeAnswer_47 : decode cX2_writeAnswer 47 = .ok (.iaload, 1) := by decide +kernel
theorem dX2_writeAnswer_48 : decode cX2_writeAnswer 48 = .ok (.iadd, 1) := by decide +kernel
theorem dX2_writeAnswer_49 : decode cX2_writeAnswer 49 = .ok (.iload_n 3, 1) := by decide +kernel
theorem dX2_writeAnswer_50 : decode cX2_writeAnswer 50 = .ok (.ifCond .eq 7, 3) := by decide +kernel
theorem dX2_writeAnswer_53 : decode cX2_writeAnswer 53 = .ok (.iconst 1, 1) := by decide +kernel
theorem dX2_writeAnswer_54 : decode cX2_writeAnswer 54 = .ok (.goto 4, 3) := by decide +kernel
theorem dX2_writeAnswer_57 : decode cX2_writeAnswer 57 = .ok (.iconst 0, 1) := by decide +kernel
theorem dX2_writeAnswer_58 : decode cX2_writeAnswer 58 = .ok (.iadd, 1) := by decide +kernel
theorem dX2_writeAnswer_59 : decode cX2_writeAnswer 59 = .ok (.istore 4, 2) := by decide +kernel
theorem dX2_writeAnswer_61 : decode cX2_writeAnswer 61 = .ok (.aload_n 1, 1) := by decide +kernel
theorem dX2_writeAnswer_62 : decode cX2_writeAnswer 62 = .ok (.iconst 0, 1) := by decide +kernel
theorem dX2_writeAnswer_63 : decode cX2_writeAnswer 63 = .ok (.invokevirtual 76, 3) := by decide +kernel
theorem dX2_writeAnswer_66 : decode cX2_writeAnswer 66 = .ok (.aload_n 1, 1) := by decide +kernel
theorem dX2_writeAnswer_67 : decode cX2_writeAnswer 67 = .ok (.bipush 104, 2) := by decide +kernel
theorem dX2_writeAnswer_69 : decode cX2_writeAnswer 69 = .ok (.invokevirtual 80, 3) := by decide +kernel
theorem dX2_writeAnswer_72 : decode cX2_writeAnswer 72 = .ok (.aload_n 1, 1) := by decide +kernel
theorem dX2_writeAnswer_73 : decode cX2_writeAnswer 73 = .ok (.iload 4, 2) := by decide +kernel
theorem dX2_writeAnswer_75 : decode cX2_writeAnswer 75 = .ok (.invokevirtual 80, 3) := by decide +kernel
theorem dX2_writeAnswer_78 : decode cX2_writeAnswer 78 = .ok (.aload_n 1, 1) := by decide +kernel
theorem dX2_writeAnswer_79 : decode cX2_writeAnswer 79 = .ok (.iload 4, 2) := by decide +kernel
theorem dX2_writeAnswer_81 : decode cX2_writeAnswer 81 = .ok (.invokevirtual 80, 3) := by decide +kernel
theorem dX2_writeAnswer_84 : decode cX2_writeAnswer 84 = .ok (.aload_n 1, 1) := by decide +kernel
theorem dX2_writeAnswer_85 : decode cX2_writeAnswer 85 = .ok (.bipush 104, 2) := by decide +kernel
theorem dX2_writeAnswer_87 : decode cX2_writeAnswer 87 = .ok (.invokevirtual 80, 3) := by decide +kernel
theorem dX2_writeAnswer_90 : decode cX2_writeAnswer 90 = .ok (.aload_n 1, 1) := by decide +kernel
theorem dX2_writeAnswer_91 : decode cX2_writeAnswer 91 = .ok (.bipush 8, 2) := by decide +kernel
theorem dX2_writeAnswer_93 : decode cX2_writeAnswer 93 = .ok (.invokevirtual 80, 3) := by decide +kernel
theorem dX2_writeAnswer_96 : decode cX2_writeAnswer 96 = .ok (.aload_n 1, 1) := by decide +kernel
theorem dX2_writeAnswer_97 : decode cX2_writeAnswer 97 = .ok (.aload_n 0, 1) := by decide +kernel
theorem dX2_writeAnswer_98 : decode cX2_writeAnswer 98 = .ok (.getfield 34, 3) := by decide +kernel
theorem dX2_writeAnswer_101 : decode cX2_writeAnswer 101 = .ok (.invokevirtual 80, 3) := by decide +kernel
theorem dX2_writeAnswer_104 : decode cX2_writeAnswer 104 = .ok (.aload_n 1, 1) := by decide +kernel
theorem dX2_writeAnswer_105 : decode cX2_writeAnswer 105 = .ok (.bipush 114, 2) := by decide +kernel
theorem dX2_writeAnswer_107 : decode cX2_writeAnswer 107 = .ok (.invokevirtual 80, 3) := by decide +kernel
theorem dX2_writeAnswer_110 : decode cX2_writeAnswer 110 = .ok (.aload_n 1, 1) := by decide +kernel
theorem dX2_writeAnswer_111 : decode cX2_writeAnswer 111 = .ok (.aload_n 0, 1) := by decide +kernel
theorem dX2_writeAnswer_112 : decode cX2_writeAnswer 112 = .ok (.getfield 37, 3) := by decide +kernel
theorem dX2_writeAnswer_115 : decode cX2_writeAnswer 115 = .ok (.invokevirtual 83, 3) := by decide +kernel
theorem dX2_writeAnswer_118 : decode cX2_writeAnswer 118 = .ok (.aload_n 1, 1) := by decide +kernel
theorem dX2_writeAnswer_119 : decode cX2_writeAnswer 119 = .ok (.aload_n 0, 1) := by decide +kernel
theorem dX2_writeAnswer_120 : decode cX2_writeAnswer 120 = .ok (.getfield 31, 3) := by decide +kernel
theorem dX2_writeAnswer_123 : decode cX2_writeAnswer 123 = .ok (.invokevirtual 80, 3) := by decide +kernel
theorem dX2_writeAnswer_126 : decode cX2_writeAnswer 126 = .ok (.iconst 0, 1) := by decide +kernel
theorem dX2_writeAnswer_127 : decode cX2_writeAnswer 127 = .ok (.istore 5, 2) := by decide +kernel
theorem dX2_writeAnswer_129 : decode cX2_writeAnswer 129 = .ok (.iload 5, 2) := by decide +kernel
theorem dX2_writeAnswer_131 : decode cX2_writeAnswer 131 = .ok (.iconst 3, 1) := by decide +kernel
theorem dX2_writeAnswer_132 : decode cX2_writeAnswer 132 = .ok (.if_icmp .ge 14, 3) := by decide +kernel
theorem dX2_writeAnswer_135 : decode cX2_writeAnswer 135 = .ok (.aload_n 1, 1) := by decide +kernel
theorem dX2_writeAnswer_136 : decode cX2_writeAnswer 136 = .ok (.iconst 0, 1) := by decide +kernel
theorem dX2_writeAnswer_137 : decode cX2_writeAnswer 137 = .ok (.invokevirtual 80, 3) := by decide +kernel
theorem dX2_writeAnswer_140 : decode cX2_writeAnswer 140 = .ok (.iinc 5 1, 3) := by decide +kernel
theorem dX2_writeAnswer_143 : decode cX2_writeAnswer 143 = .ok (.goto (-14), 3) := by decide +kernel
theorem dX2_writeAnswer_146 : decode cX2_writeAnswer 146 = .ok (.iconst 0, 1) := by decide +kernel
theorem dX2_writeAnswer_147 : decode cX2_writeAnswer 147 = .ok (.istore 5, 2) := by decide +kernel
theorem dX2_writeAnswer_149 : decode cX2_writeAnswer 149 = .ok (.iload 5, 2) := by decide +kernel
theorem dX2_writeAnswer_151 : decode cX2_writeAnswer 151 = .ok (.aload_n 0, 1) := by decide +kernel
theorem dX2_writeAnswer_152 : decode cX2_writeAnswer 152 = .ok (.getfield 20, 3) := by decide +kernel
theorem dX2_writeAnswer_155 : decode cX2_writeAnswer 155 = .ok (.iload_n 2, 1) := by decide +kernel
theorem dX2_writeAnswer_156 : decode cX2_writeAnswer 156 = .ok (.iaload, 1) := by decide +kernel
theorem dX2_writeAnswer_157 : decode cX2_writeAnswer 157 = .ok (.if_icmp .ge 29, 3) := by decide +kernel
theorem dX2_writeAnswer_160 : decode cX2_writeAnswer 160 = .ok (.iload 5, 2) := by decide +kernel
theorem dX2_writeAnswer_162 : decode cX2_writeAnswer 162 = .ok (.bipush 60, 2) := by decide +kernel
theorem dX2_writeAnswer_164 : decode cX2_writeAnswer 164 = .ok (.if_icmp .ge 22, 3) := by decide +kernel
theorem dX2_writeAnswer_167 : decode cX2_writeAnswer 167 = .ok (.aload_n 1, 1) := by decide +kernel
theorem dX2_writeAnswer_168 : decode cX2_writeAnswer 168 = .ok (.aload_n 0, 1) := by decide +kernel
theorem dX2_writeAnswer_169 : decode cX2_writeAnswer 169 = .ok (.getfield 17, 3) := by decide +kernel
theorem dX2_writeAnswer_172 : decode cX2_writeAnswer 172 = .ok (.iload_n 2, 1) := by decide +kernel
theorem dX2_writeAnswer_173 : decode cX2_writeAnswer 173 = .ok (.aaload, 1) := by decide +kernel
theorem dX2_writeAnswer_174 : decode cX2_writeAnswer 174 = .ok (.iload 5, 2) := by decide +kernel
theorem dX2_writeAnswer_176 : decode cX2_writeAnswer 176 = .ok (.iaload, 1) := by decide +kernel
theorem dX2_writeAnswer_177 : decode cX2_writeAnswer 177 = .ok (.invokevirtual 80, 3) := by decide +kernel
theorem dX2_writeAnswer_180 : decode cX2_writeAnswer 180 = .ok (.iinc 5 1, 3) := by decide +kernel
theorem dX2_writeAnswer_183 : decode cX2_writeAnswer 183 = .ok (.goto (-34), 3) := by decide +kernel
theorem dX2_writeAnswer_186 : decode cX2_writeAnswer 186 = .ok (.iload_n 3, 1) := by decide +kernel
theorem dX2_writeAnswer_187 : decode cX2_writeAnswer 187 = .ok (.ifCond .eq 9, 3) := by decide +kernel
theorem dX2_writeAnswer_190 : decode cX2_writeAnswer 190 = .ok (.aload_n 1, 1) := by decide +kernel
theorem dX2_writeAnswer_191 : decode cX2_writeAnswer 191 = .ok (.bipush 31, 2) := by decide +kernel
theorem dX2_writeAnswer_193 : decode cX2_writeAnswer 193 = .ok (.invokevirtual 80, 3) := by decide +kernel
theorem dX2_writeAnswer_196 : decode cX2_writeAnswer 196 = .ok (.aload_n 1, 1) := by decide +kernel
theorem dX2_writeAnswer_197 : decode cX2_writeAnswer 197 = .ok (.aload_n 1, 1) := by decide +kernel
theorem dX2_writeAnswer_198 : decode cX2_writeAnswer 198 = .ok (.iconst 4, 1) := by decide +kernel
theorem dX2_writeAnswer_199 : decode cX2_writeAnswer 199 = .ok (.aload_n 1, 1) := by decide +kernel
theorem dX2_writeAnswer_200 : decode cX2_writeAnswer 200 = .ok (.invokevirtual 41, 3) := by decide +kernel
theorem dX2_writeAnswer_203 : decode cX2_writeAnswer 203 = .ok (.invokevirtual 87, 3) := by decide +kernel
theorem dX2_writeAnswer_206 : decode cX2_writeAnswer 206 = .ok (.invokevirtual 80, 3) := by decide +kernel
theorem dX2_writeAnswer_209 : decode cX2_writeAnswer 209 = .ok (.aload_n 1, 1) := by decide +kernel
theorem dX2_writeAnswer_210 : decode cX2_writeAnswer 210 = .ok (.bipush 22, 2) := by decide +kernel
theorem dX2_writeAnswer_212 : decode cX2_writeAnswer 212 = .ok (.invokevirtual 80, 3) := by decide +kernel
theorem dX2_writeAnswer_215 : decode cX2_writeAnswer 215 = .ok (.return_, 1) := by decide +kernel
end
section
/-! The class: Meter, its small methods. -/
/-- the fields of a Meter: address, primary, selected, where its pages and their sizes lie, page told, bit, access -/
abbrev mF (ad : Int64) (pr se : Int32) (pg sz : Nat) (pt bt ac : Int32) : va_E := .inr (2, [.long ad, .int pr, .int se, .ref pg, .ref sz, .int pt, .int bt, .int ac])
theorem lcmp_ne {x y : Int64} : ¬ lg_cmp x y = 0 ↔ ¬ x = y := by
  unfold lg_cmp
  by_cases e : x = y
  · subst e; simp
  · simp only [e, not_false_eq_true, iff_true]
    split
    · decide
    · split
      · rename_i h; simp_all
      · decide
section Met
variable {w : Wd} {c : Nat → ClassId} {h : PH} {m pg sz : Nat} {ad : Int64} {pr se pt bt ac : Int32}
theorem t_forget (hW : Wc w c) (R : h m = some (mF ad pr se pg sz pt bt ac)) : TC w yX2_forget cX2_forget 1 none 0 [.ref m] h none (hs h m (mF ad pr se pg sz (-1) (-1) ac)) := by
  refine TC.intro hW rfl (by decide +kernel) (Nat.le_of_ble_eq_true rfl) (fun z C Y E hn => ?_)
  have R1 : hs h m (mF ad pr se pg sz (-1) bt ac) m = some (mF ad pr se pg sz (-1) bt ac) := hs_self ..
  refine x_aload_n C dX2_forget_0 rfl ?_
  refine x_iconst (v := (-1)) C dX2_forget_1 (by decide) ?_
  refine e_put C Y kd_X2 5 (by decide) rfl wf_X2_24 dX2_forget_2 R (Nat.le_of_ble_eq_true rfl) rfl rfl rfl ?_
  refine x_aload_n C dX2_forget_5 rfl ?_
  refine x_iconst (v := (-1)) C dX2_forget_6 (by decide) ?_
  refine e_put C Y kd_X2 6 (by decide) rfl wf_X2_28 dX2_forget_7 R1 (Nat.le_of_ble_eq_true rfl) rfl rfl rfl ?_
  refine e_vret C E dX2_forget_10 ?_ ?_
  all_goals first | exact hs_hs _ _ _ _ | exact rfl
abbrev mMeant (pr se a : Int32) : Prop := if a ≤ 250 then a = pr else if a = 253 then se = 1 else 253 < a
theorem t_isMeant (hW : Wc w c) (R : h m = some (mF ad pr se pg sz pt bt ac)) (hse : se = 0 ∨ se = 1) (a : Int32) : TC w yX2_isMeant cX2_isMeant 2 (some .boolean) 0 [.ref m, .int a] h (some (.int (bI (mMeant pr se a)))) h := by
  refine TC.intro hW rfl (by decide +kernel) (Nat.le_of_ble_eq_true rfl) (fun z C Y E hn => ?_)
  have hz : narrow .boolean (.int se) = .int se := by rcases hse with e | e <;> (rw [e]; rfl)
  by_cases g : a ≤ 250
  · have e1 : mMeant pr se a ↔ a = pr := by unfold mMeant; rw [if_pos g]
    refine x_iload_n C dX2_isMeant_0 rfl ?_
    refine x_sipush (v := 250) C dX2_isMeant_1 (by decide) ?_
    refine x_icmp_gt (tgt := 21) C dX2_isMeant_4 (by decide) (fun c4 => absurd c4 (Int32.not_lt.mpr g)) (fun c4 => ?_)
    refine x_iload_n C dX2_isMeant_7 rfl ?_
    refine x_aload_n C dX2_isMeant_8 rfl ?_
    refine e_get C Y kd_X2 1 (by decide) wf_X2_34 dX2_isMeant_9 R rfl ?_
    refine x_icmp_ne (tgt := 19) C dX2_isMeant_12 (by decide) (fun c12 => ?_) (fun c12 => ?_)
    · skip
      refine x_iconst (v := 0) C dX2_isMeant_19 (by decide) ?_
      refine e_zret C E dX2_isMeant_20 (by decide) ?_ ?_
      all_goals first | exact bI_vt (e1.mpr c12) | exact bI_vf (fun q => c12 (e1.mp q)) | exact rfl
    · skip
      refine x_iconst (v := 1) C dX2_isMeant_15 (by decide) ?_
      refine x_goto (tgt := 20) C dX2_isMeant_16 (by decide) ?_
      refine e_zret C E dX2_isMeant_20 (by decide) ?_ ?_
      all_goals first | exact bI_vt (e1.mpr c12) | exact bI_vf (fun q => c12 (e1.mp q)) | exact rfl
  · by_cases g2 : a = 253
    · have e1 : mMeant pr se a ↔ se = 1 := by unfold mMeant; rw [if_neg g, if_pos g2]
      have e2 : some (Value.int se) = some (Value.int (bI (mMeant pr se a))) := by
        rcases hse with e | e
        · rw [e]; exact bI_vf (fun q => by have := e1.mp (by rw [e]; exact q); rw [e] at this; exact absurd this (by decide))
        · rw [bI_t (e1.mpr e), e]
      refine x_iload_n C dX2_isMeant_0 rfl ?_
      refine x_sipush (v := 250) C dX2_isMeant_1 (by decide) ?_
      refine x_icmp_gt (tgt := 21) C dX2_isMeant_4 (by decide) (fun c4 => ?_) (fun c4 => absurd c4 (not_not_intro (Int32.not_le.mp g)))
      refine x_iload_n C dX2_isMeant_21 rfl ?_
      refine x_sipush (v := 253) C dX2_isMeant_22 (by decide) ?_
      refine x_icmp_ne (tgt := 35) C dX2_isMeant_25 (by decide) (fun c25 => absurd c25 (not_not_intro g2)) (fun c25 => ?_)
      refine x_aload_n C dX2_isMeant_28 rfl ?_
      refine e_get C Y kd_X2 2 (by decide) wf_X2_9 dX2_isMeant_29 R rfl ?_
      refine x_goto (tgt := 47) C dX2_isMeant_32 (by decide) ?_
      refine e_zret C E dX2_isMeant_47 hz ?_ ?_
      all_goals first | exact e2 | exact rfl
    · have e1 : mMeant pr se a ↔ 253 < a := by unfold mMeant; rw [if_neg g, if_neg g2]
      refine x_iload_n C dX2_isMeant_0 rfl ?_
      refine x_sipush (v := 250) C dX2_isMeant_1 (by decide) ?_
      refine x_icmp_gt (tgt := 21) C dX2_isMeant_4 (by decide) (fun c4 => ?_) (fun c4 => absurd c4 (not_not_intro (Int32.not_le.mp g)))
      refine x_iload_n C dX2_isMeant_21 rfl ?_
      refine x_sipush (v := 253) C dX2_isMeant_22 (by decide) ?_
      refine x_icmp_ne (tgt := 35) C dX2_isMeant_25 (by decide) (fun c25 => ?_) (fun c25 => absurd c25 g2)
      refine x_iload_n C dX2_isMeant_35 rfl ?_
      refine x_sipush (v := 253) C dX2_isMeant_36 (by decide) ?_
      refine x_icmp_le (tgt := 46) C dX2_isMeant_39 (by decide) (fun c39 => ?_) (fun c39 => ?_)
      · skip
        refine x_iconst (v := 0) C dX2_isMeant_46 (by decide) ?_
        refine e_zret C E dX2_isMeant_47 (by decide) ?_ ?_
        all_goals first | exact bI_vt (e1.mpr (Int32.not_le.mp c39)) | exact bI_vf (fun q => absurd (e1.mp q) (Int32.not_lt.mpr c39)) | exact rfl
      · skip
        refine x_iconst (v := 1) C dX2_isMeant_42 (by decide) ?_
        refine x_goto (tgt := 47) C dX2_isMeant_43 (by decide) ?_
        refine e_zret C E dX2_isMeant_47 (by decide) ?_ ?_
        all_goals first | exact bI_vt (e1.mpr (Int32.not_le.mp c39)) | exact bI_vf (fun q => absurd (e1.mp q) (Int32.not_lt.mpr c39)) | exact rfl
theorem t_hasAddress (hW : Wc w c) (R : h m = some (mF ad pr se pg sz pt bt ac)) (a : Int64) : TC w yX2_hasAddress cX2_hasAddress 3 (some .boolean) 0 [.ref m, .long a] h (some (.int (bI (ad = a)))) h := by
  refine TC.intro hW rfl (by decide +kernel) (Nat.le_of_ble_eq_true rfl) (fun z C Y E hn => ?_)
  refine x_aload_n C dX2_hasAddress_0 rfl ?_
  refine e_get C Y kd_X2 0 (by decide) wf_X2_37 dX2_hasAddress_1 R rfl ?_
  refine x_lload_n C dX2_hasAddress_4 rfl ?_
  refine x_lcmp C dX2_hasAddress_5 ?_
  refine x_if_ne (tgt := 13) C dX2_hasAddress_6 (by decide) (fun c6 => ?_) (fun c6 => ?_)
  · skip
    refine x_iconst (v := 0) C dX2_hasAddress_13 (by decide) ?_
    refine e_zret C E dX2_hasAddress_14 (by decide) ?_ ?_
    all_goals first | exact bI_vf (lcmp_ne.mp c6) | exact bI_vt (Decidable.of_not_not (fun q => absurd c6 (lcmp_ne.mpr q))) | exact rfl
  · skip
    refine x_iconst (v := 1) C dX2_hasAddress_9 (by decide) ?_
    refine x_goto (tgt := 14) C dX2_hasAddress_10 (by decide) ?_
    refine e_zret C E dX2_hasAddress_14 (by decide) ?_ ?_
    all_goals first | exact bI_vf (lcmp_ne.mp c6) | exact bI_vt (Decidable.of_not_not (fun q => absurd c6 (lcmp_ne.mpr q))) | exact rfl
/-- how many pages there are, by their sizes -/
def mPages (s : Nat → Int32) : Int32 := if 0 < s 2 then 3 else if 0 < s 1 then 2 else 1
theorem t_pageNumber (hW : Wc w c) (R : h m = some (mF ad pr se pg sz pt bt ac)) {s : Nat → Int32} (Rs : h sz = some (.inl (c 0, 3, .inl s))) : TC w yX2_pageNumber cX2_pageNumber 2 (some .int) 0 [.ref m] h (some (.int (mPages s))) h := by
  refine TC.intro hW rfl (by decide +kernel) (Nat.le_of_ble_eq_true rfl) (fun z C Y E hn => ?_)
  have T0 : mPages s = 1 → X z 0 0 (EQ h) 2 [some (.ref m), some (.int 0)] [] := fun g => by
    refine x_iload_n C dX2_pageNumber_2 rfl ?_
    refine x_if_le (tgt := 25) C dX2_pageNumber_3 (by decide) (fun c3 => ?_) (fun c3 => absurd c3 (by decide))
    refine x_iconst (v := 1) C dX2_pageNumber_25 (by decide) ?_
    refine e_iret C E dX2_pageNumber_26 ?_ ?_
    all_goals first | rw [g] | exact rfl
  have T1 : ¬ 0 < s 2 → X z 0 0 (EQ h) 2 [some (.ref m), some (.int 1)] [] := fun g => by
    refine x_iload_n C dX2_pageNumber_2 rfl ?_
    refine x_if_le (tgt := 25) C dX2_pageNumber_3 (by decide) (fun c3 => absurd c3 (by decide)) (fun c3 => ?_)
    refine x_aload_n C dX2_pageNumber_6 rfl ?_
    refine e_get C Y kd_X2 4 (by decide) wf_X2_20 dX2_pageNumber_7 R rfl ?_
    refine x_iload_n C dX2_pageNumber_10 rfl ?_
    refine e_ild C Y dX2_pageNumber_11 Rs (vp_in_nI (show 1 < 3 by decide) (by decide)) ?_
    refine x_if_le (tgt := 19) C dX2_pageNumber_12 (by decide) (fun c12 => ?_) (fun c12 => ?_)
    · skip
      refine o_iincE (v := 0) (L' := [some _, some _]) C dX2_pageNumber_19 rfl (by decide) (by rw [hn]; decide) rfl ?_
      refine x_goto (tgt := 2) C dX2_pageNumber_22 (by decide) ?_
      exact T0 (by unfold mPages; rw [if_neg g, if_neg (show ¬ 0 < s 1 from Int32.not_lt.mpr c12)])
    · skip
      refine x_iload_n C dX2_pageNumber_15 rfl ?_
      refine x_iconst (v := 1) C dX2_pageNumber_16 (by decide) ?_
      refine x_iadd C dX2_pageNumber_17 ?_
      refine e_iret C E dX2_pageNumber_18 ?_ ?_
      all_goals first | (unfold mPages; rw [if_neg g, if_pos (show 0 < s 1 from Int32.not_le.mp c12)]; rfl) | exact rfl
  refine x_iconst (v := 2) C dX2_pageNumber_0 (by decide) ?_
  refine o_istore_nE (L' := [some _, some _]) C dX2_pageNumber_1 (by rw [hn]; decide) rfl ?_
  skip
  refine x_iload_n C dX2_pageNumber_2 rfl ?_
  refine x_if_le (tgt := 25) C dX2_pageNumber_3 (by decide) (fun c3 => absurd c3 (by decide)) (fun c3 => ?_)
  refine x_aload_n C dX2_pageNumber_6 rfl ?_
  refine e_get C Y kd_X2 4 (by decide) wf_X2_20 dX2_pageNumber_7 R rfl ?_
  refine x_iload_n C dX2_pageNumber_10 rfl ?_
  refine e_ild C Y dX2_pageNumber_11 Rs (vp_in_nI (show 2 < 3 by decide) (by decide)) ?_
  refine x_if_le (tgt := 19) C dX2_pageNumber_12 (by decide) (fun c12 => ?_) (fun c12 => ?_)
  · skip
    refine o_iincE (v := 1) (L' := [some _, some _]) C dX2_pageNumber_19 rfl (by decide) (by rw [hn]; decide) rfl ?_
    refine x_goto (tgt := 2) C dX2_pageNumber_22 (by decide) ?_
    exact T1 (Int32.not_lt.mpr c12)
  · skip
    refine x_iload_n C dX2_pageNumber_15 rfl ?_
    refine x_iconst (v := 1) C dX2_pageNumber_16 (by decide) ?_
    refine x_iadd C dX2_pageNumber_17 ?_
    refine e_iret C E dX2_pageNumber_18 ?_ ?_
    all_goals first | (unfold mPages; rw [if_pos (show 0 < s 2 from Int32.not_le.mp c12)]; rfl) | exact rfl
end Met
end
section
/-! The class: Meter, the mask and the page to tell. -/
section Met
variable {w : Wd} {c : Nat → ClassId} {h : PH} {m pg sz : Nat} {ad : Int64} {pr se pt bt ac : Int32}
def mPg0 (pt bt nb : Int32) : Int32 := if bt = -1 then 0 else if bt = nb then pt else pt + 1
theorem t_pageToTell (hW : Wc w c) (R : h m = some (mF ad pr se pg sz pt bt ac)) {s : Nat → Int32} (Rs : h sz = some (.inl (c 0, 3, .inl s))) (nb : Int32) : TC w yX2_pageToTell cX2_pageToTell 3 (some .int) 1 [.ref m, .int nb] h (some (.int (if mPg0 pt bt nb < mPages s then mPg0 pt bt nb else 0))) h := by
  refine TC.intro hW rfl (by decide +kernel) (Nat.le_of_ble_eq_true rfl) (fun z C Y E hn => ?_)
  have hp := t_pageNumber hW R Rs
  have T33 : ∀ i, i = mPg0 pt bt nb → X z 0 0 (EQ h) 33 [some (.ref m), some (.int nb), none] [.int i] := by
    intro i e
    rw [← e] at E
    refine o_istore_nE (L' := [some _, some _, some _]) C dX2_pageToTell_33 (by rw [hn]; decide) rfl ?_
    refine x_iload_n C dX2_pageToTell_34 rfl ?_
    refine x_aload_n C dX2_pageToTell_35 rfl ?_
    refine e_callV C Y hW E (hp) md_X2_pageNumber wi_X2_pageNumber ws_X2_pageNumber wm_X2_57 dX2_pageToTell_36 rfl (by decide) (by decide) R rfl rfl (by simp [Value.category]) ?_
    refine x_icmp_ge (tgt := 46) C dX2_pageToTell_39 (by decide) (fun c39 => ?_) (fun c39 => ?_)
    · skip
      refine x_iconst (v := 0) C dX2_pageToTell_46 (by decide) ?_
      refine e_iret C E dX2_pageToTell_47 ?_ ?_
      all_goals first | (rw [if_neg (Int32.not_lt.mpr c39)]) | (rw [if_pos (Int32.not_le.mp c39)]) | exact rfl
    · skip
      refine x_iload_n C dX2_pageToTell_42 rfl ?_
      refine x_goto (tgt := 47) C dX2_pageToTell_43 (by decide) ?_
      refine e_iret C E dX2_pageToTell_47 ?_ ?_
      all_goals first | (rw [if_neg (Int32.not_lt.mpr c39)]) | (rw [if_pos (Int32.not_le.mp c39)]) | exact rfl
  refine x_aload_n C dX2_pageToTell_0 rfl ?_
  refine e_get C Y kd_X2 6 (by decide) wf_X2_28 dX2_pageToTell_1 R rfl ?_
  refine x_iconst (v := (-1)) C dX2_pageToTell_4 (by decide) ?_
  refine x_icmp_ne (tgt := 12) C dX2_pageToTell_5 (by decide) (fun c5 => ?_) (fun c5 => ?_)
  · skip
    refine x_aload_n C dX2_pageToTell_12 rfl ?_
    refine e_get C Y kd_X2 6 (by decide) wf_X2_28 dX2_pageToTell_13 R rfl ?_
    refine x_iload_n C dX2_pageToTell_16 rfl ?_
    refine x_icmp_ne (tgt := 27) C dX2_pageToTell_17 (by decide) (fun c17 => ?_) (fun c17 => ?_)
    · skip
      refine x_aload_n C dX2_pageToTell_27 rfl ?_
      refine e_get C Y kd_X2 5 (by decide) wf_X2_24 dX2_pageToTell_28 R rfl ?_
      refine x_iconst (v := 1) C dX2_pageToTell_31 (by decide) ?_
      refine x_iadd C dX2_pageToTell_32 ?_
      exact T33 _ (by unfold mPg0; first | (rw [if_neg c5, if_neg c17]) | (rw [if_neg c5, if_pos c17]) | (rw [if_pos c5]))
    · skip
      refine x_aload_n C dX2_pageToTell_20 rfl ?_
      refine e_get C Y kd_X2 5 (by decide) wf_X2_24 dX2_pageToTell_21 R rfl ?_
      refine x_goto (tgt := 33) C dX2_pageToTell_24 (by decide) ?_
      exact T33 _ (by unfold mPg0; first | (rw [if_neg c5, if_neg c17]) | (rw [if_neg c5, if_pos c17]) | (rw [if_pos c5]))
  · skip
    refine x_iconst (v := 0) C dX2_pageToTell_8 (by decide) ?_
    refine x_goto (tgt := 33) C dX2_pageToTell_9 (by decide) ?_
    exact T33 _ (by unfold mPg0; first | (rw [if_neg c5, if_neg c17]) | (rw [if_neg c5, if_pos c17]) | (rw [if_pos c5]))
theorem t_looks_t (hW : Wc w c) (R : h m = some (mF ad pr se pg sz pt bt ac)) {p q n : Nat} {f : Nat → Int32} (Q : RW c h p q f n) (a1 : p ≠ m) (a2 : q ≠ m) (mk cd : Int64) (g : (mk ^^^ ad) &&& cd = 0) : TC w yX2_looksAtMask cX2_looksAtMask 6 (some .boolean) 2 [.ref m, .long mk, .long cd, .ref p] h (some (.int 1)) (rowh c (hs h m (mF ad pr 1 pg sz pt bt ac)) p q (upd f 0 229) 1) := by
  refine TC.intro hW rfl (by decide +kernel) (Nat.le_of_ble_eq_true rfl) (fun z C Y E hn => ?_)
  have R1 : hs h m (mF ad pr 1 pg sz pt bt ac) m = some (mF ad pr 1 pg sz pt bt ac) := hs_self ..
  have Q1 : RW c (hs h m (mF ad pr 1 pg sz pt bt ac)) p q f n := ⟨Q.1, (hs_ne a1).trans Q.2.1, (hs_ne a2).trans Q.2.2.1, Q.2.2.2⟩
  have hb := r_becomeSingle hW Q1
  have R2 : rowh c (hs h m (mF ad pr 1 pg sz pt bt ac)) p q (upd f 0 229) 1 m = some (mF ad pr 1 pg sz pt bt ac) := (rw_ne (Ne.symm a1) (Ne.symm a2)).trans R1
  refine x_aload_n C dX2_looksAtMask_0 rfl ?_
  refine x_lload_n C dX2_looksAtMask_1 rfl ?_
  refine x_aload_n C dX2_looksAtMask_2 rfl ?_
  refine e_get C Y kd_X2 0 (by decide) wf_X2_37 dX2_looksAtMask_3 R rfl ?_
  refine x_lxor C dX2_looksAtMask_6 ?_
  refine x_lload_n C dX2_looksAtMask_7 rfl ?_
  refine x_land C dX2_looksAtMask_8 ?_
  refine x_lconst (v := 0) C dX2_looksAtMask_9 (by decide) ?_
  refine x_lcmp C dX2_looksAtMask_10 ?_
  refine x_if_ne (tgt := 18) C dX2_looksAtMask_11 (by decide) (fun c11 => absurd c11 (fun q => absurd (lcmp_ne.mp q) (not_not_intro g))) (fun c11 => ?_)
  refine x_iconst (v := 1) C dX2_looksAtMask_14 (by decide) ?_
  refine x_goto (tgt := 19) C dX2_looksAtMask_15 (by decide) ?_
  refine e_put C Y kd_X2 2 (by decide) rfl wf_X2_9 dX2_looksAtMask_19 R (Nat.le_of_ble_eq_true rfl) rfl rfl rfl ?_
  refine x_aload_n C dX2_looksAtMask_22 rfl ?_
  refine e_get C Y kd_X2 2 (by decide) wf_X2_9 dX2_looksAtMask_23 R1 rfl ?_
  refine x_if_eq (tgt := 34) C dX2_looksAtMask_26 (by decide) (fun c26 => absurd c26 (by decide)) (fun c26 => ?_)
  refine x_aload C dX2_looksAtMask_29 rfl ?_
  refine e_callV C Y hW E (hb) md_X5_becomeSingle wi_X5_becomeSingle ws_X5_becomeSingle wm_X2_60 dX2_looksAtMask_31 rfl (by decide) (by decide) Q1.2.1 rfl rfl (by simp [Value.category]) ?_
  refine x_aload_n C dX2_looksAtMask_34 rfl ?_
  refine e_get C Y kd_X2 2 (by decide) wf_X2_9 dX2_looksAtMask_35 R2 rfl ?_
  refine e_zret C E dX2_looksAtMask_38 (by decide) ?_ ?_
  all_goals rfl
theorem t_looks_f (hW : Wc w c) (R : h m = some (mF ad pr se pg sz pt bt ac)) (p : Nat) (mk cd : Int64) (g : ¬ (mk ^^^ ad) &&& cd = 0) : TC w yX2_looksAtMask cX2_looksAtMask 6 (some .boolean) 2 [.ref m, .long mk, .long cd, .ref p] h (some (.int 0)) (hs h m (mF ad pr 0 pg sz pt bt ac)) := by
  refine TC.intro hW rfl (by decide +kernel) (Nat.le_of_ble_eq_true rfl) (fun z C Y E hn => ?_)
  have R1 : hs h m (mF ad pr 0 pg sz pt bt ac) m = some (mF ad pr 0 pg sz pt bt ac) := hs_self ..
  refine x_aload_n C dX2_looksAtMask_0 rfl ?_
  refine x_lload_n C dX2_looksAtMask_1 rfl ?_
  refine x_aload_n C dX2_looksAtMask_2 rfl ?_
  refine e_get C Y kd_X2 0 (by decide) wf_X2_37 dX2_looksAtMask_3 R rfl ?_
  refine x_lxor C dX2_looksAtMask_6 ?_
  refine x_lload_n C dX2_looksAtMask_7 rfl ?_
  refine x_land C dX2_looksAtMask_8 ?_
  refine x_lconst (v := 0) C dX2_looksAtMask_9 (by decide) ?_
  refine x_lcmp C dX2_looksAtMask_10 ?_
  refine x_if_ne (tgt := 18) C dX2_looksAtMask_11 (by decide) (fun c11 => ?_) (fun c11 => absurd c11 (lcmp_ne.mpr g))
  refine x_iconst (v := 0) C dX2_looksAtMask_18 (by decide) ?_
  refine e_put C Y kd_X2 2 (by decide) rfl wf_X2_9 dX2_looksAtMask_19 R (Nat.le_of_ble_eq_true rfl) rfl rfl rfl ?_
  refine x_aload_n C dX2_looksAtMask_22 rfl ?_
  refine e_get C Y kd_X2 2 (by decide) wf_X2_9 dX2_looksAtMask_23 R1 rfl ?_
  refine x_if_eq (tgt := 34) C dX2_looksAtMask_26 (by decide) (fun c26 => ?_) (fun c26 => absurd c26 (not_not_intro rfl))
  refine x_aload_n C dX2_looksAtMask_34 rfl ?_
  refine e_get C Y kd_X2 2 (by decide) wf_X2_9 dX2_looksAtMask_35 R1 rfl ?_
  refine e_zret C E dX2_looksAtMask_38 (by decide) ?_ ?_
  all_goals rfl
end Met
end
section
/-! The class: Meter, long frames. -/
section Met
variable {w : Wd} {c : Nat → ClassId} {h : PH} {m pg sz : Nat} {ad : Int64} {pr se pt bt ac : Int32} {p q n p1 q1 n1 : Nat} {f f1 : Nat → Int32}
abbrev lgA (f : Nat → Int32) (n : Nat) : Prop := rAt f n 6 = 80 ∧ nI n - 6 - 3 = 0
abbrev lgB (f : Nat → Int32) (n : Nat) : Prop := rAt f n 6 = 81 ∧ nI n - 6 - 3 = 3 ∧ rAt f n 7 = 1 ∧ rAt f n 8 = 122 ∧ rAt f n 9 ≤ 250
theorem t_long_a (hW : Wc w c) (R : h m = some (mF ad pr se pg sz pt bt ac)) (Q : RW c h p q f n) (a1 : p ≠ m) (a2 : q ≠ m) (Q1 : RW c h p1 q1 f1 n1) (g : lgA f1 n1) : TC w yX2_hearsLong cX2_hearsLong 4 (some .boolean) 2 [.ref m, .ref p1, .ref p] h (some (.int 1)) (rowh c (hs h m (mF ad pr se pg sz (-1) (-1) ac)) p q (upd f 0 229) 1) := by
  refine TC.intro hW rfl (by decide +kernel) (Nat.le_of_ble_eq_true rfl) (fun z C Y E hn => ?_)
  have hf := t_forget hW R
  have Q2 : RW c (hs h m (mF ad pr se pg sz (-1) (-1) ac)) p q f n := ⟨Q.1, (hs_ne a1).trans Q.2.1, (hs_ne a2).trans Q.2.2.1, Q.2.2.2⟩
  have hb := r_becomeSingle hW Q2
  refine x_aload_n C dX2_hearsLong_0 rfl ?_
  refine x_bipush (v := 6) C dX2_hearsLong_1 (by decide) ?_
  refine e_callV C Y hW E (r_at hW Q1 6) md_X5_at wi_X5_at ws_X5_at wm_X2_53 dX2_hearsLong_3 rfl (by decide) (by decide) Q1.2.1 rfl rfl (by simp [Value.category]) ?_
  refine o_istore_nE (L' := [some _, some _, some _, some _]) C dX2_hearsLong_6 (by rw [hn]; decide) rfl ?_
  refine x_iload_n C dX2_hearsLong_7 rfl ?_
  refine x_bipush (v := 80) C dX2_hearsLong_8 (by decide) ?_
  refine x_icmp_ne (tgt := 30) C dX2_hearsLong_10 (by decide) (fun c10 => absurd c10 (not_not_intro g.1)) (fun c10 => ?_)
  refine x_aload_n C dX2_hearsLong_13 rfl ?_
  refine e_callV C Y hW E (r_dataSize hW Q1) md_X5_dataSize wi_X5_dataSize ws_X5_dataSize wm_X2_73 dX2_hearsLong_14 rfl (by decide) (by decide) Q1.2.1 rfl rfl (by simp [Value.category]) ?_
  refine x_if_ne (tgt := 30) C dX2_hearsLong_17 (by decide) (fun c17 => absurd c17 (not_not_intro g.2)) (fun c17 => ?_)
  refine x_aload_n C dX2_hearsLong_20 rfl ?_
  refine e_callV C Y hW E (hf) md_X2_forget wi_X2_forget ws_X2_forget wm_X2_63 dX2_hearsLong_21 rfl (by decide) (by decide) R rfl rfl (by simp [Value.category]) ?_
  refine x_aload_n C dX2_hearsLong_24 rfl ?_
  refine e_callV C Y hW E (hb) md_X5_becomeSingle wi_X5_becomeSingle ws_X5_becomeSingle wm_X2_60 dX2_hearsLong_25 rfl (by decide) (by decide) Q2.2.1 rfl rfl (by simp [Value.category]) ?_
  refine x_iconst (v := 1) C dX2_hearsLong_28 (by decide) ?_
  refine e_zret C E dX2_hearsLong_29 (by decide) ?_ ?_
  all_goals rfl
theorem t_long_b (hW : Wc w c) (R : h m = some (mF ad pr se pg sz pt bt ac)) (Q : RW c h p q f n) (a1 : p ≠ m) (a2 : q ≠ m) (Q1 : RW c h p1 q1 f1 n1) (g : lgB f1 n1) : TC w yX2_hearsLong cX2_hearsLong 4 (some .boolean) 2 [.ref m, .ref p1, .ref p] h (some (.int 1)) (rowh c (hs h m (mF ad (rAt f1 n1 9) se pg sz pt bt ac)) p q (upd f 0 229) 1) := by
  refine TC.intro hW rfl (by decide +kernel) (Nat.le_of_ble_eq_true rfl) (fun z C Y E hn => ?_)
  have Q2 : RW c (hs h m (mF ad (rAt f1 n1 9) se pg sz pt bt ac)) p q f n := ⟨Q.1, (hs_ne a1).trans Q.2.1, (hs_ne a2).trans Q.2.2.1, Q.2.2.2⟩
  have hb := r_becomeSingle hW Q2
  have n80 : ¬ rAt f1 n1 6 = 80 := by rw [g.1]; decide
  refine x_aload_n C dX2_hearsLong_0 rfl ?_
  refine x_bipush (v := 6) C dX2_hearsLong_1 (by decide) ?_
  refine e_callV C Y hW E (r_at hW Q1 6) md_X5_at wi_X5_at ws_X5_at wm_X2_53 dX2_hearsLong_3 rfl (by decide) (by decide) Q1.2.1 rfl rfl (by simp [Value.category]) ?_
  refine o_istore_nE (L' := [some _, some _, some _, some _]) C dX2_hearsLong_6 (by rw [hn]; decide) rfl ?_
  refine x_iload_n C dX2_hearsLong_7 rfl ?_
  refine x_bipush (v := 80) C dX2_hearsLong_8 (by decide) ?_
  refine x_icmp_ne (tgt := 30) C dX2_hearsLong_10 (by decide) (fun c10 => ?_) (fun c10 => absurd c10 n80)
  refine x_iload_n C dX2_hearsLong_30 rfl ?_
  refine x_bipush (v := 81) C dX2_hearsLong_31 (by decide) ?_
  refine x_icmp_ne (tgt := 93) C dX2_hearsLong_33 (by decide) (fun c33 => absurd c33 (not_not_intro g.1)) (fun c33 => ?_)
  refine x_aload_n C dX2_hearsLong_36 rfl ?_
  refine e_callV C Y hW E (r_dataSize hW Q1) md_X5_dataSize wi_X5_dataSize ws_X5_dataSize wm_X2_73 dX2_hearsLong_37 rfl (by decide) (by decide) Q1.2.1 rfl rfl (by simp [Value.category]) ?_
  refine x_iconst (v := 3) C dX2_hearsLong_40 (by decide) ?_
  refine x_icmp_ne (tgt := 93) C dX2_hearsLong_41 (by decide) (fun c41 => absurd c41 (not_not_intro g.2.1)) (fun c41 => ?_)
  refine x_aload_n C dX2_hearsLong_44 rfl ?_
  refine x_bipush (v := 7) C dX2_hearsLong_45 (by decide) ?_
  refine e_callV C Y hW E (r_at hW Q1 7) md_X5_at wi_X5_at ws_X5_at wm_X2_53 dX2_hearsLong_47 rfl (by decide) (by decide) Q1.2.1 rfl rfl (by simp [Value.category]) ?_
  refine x_iconst (v := 1) C dX2_hearsLong_50 (by decide) ?_
  refine x_icmp_ne (tgt := 93) C dX2_hearsLong_51 (by decide) (fun c51 => absurd c51 (not_not_intro g.2.2.1)) (fun c51 => ?_)
  refine x_aload_n C dX2_hearsLong_54 rfl ?_
  refine x_bipush (v := 8) C dX2_hearsLong_55 (by decide) ?_
  refine e_callV C Y hW E (r_at hW Q1 8) md_X5_at wi_X5_at ws_X5_at wm_X2_53 dX2_hearsLong_57 rfl (by decide) (by decide) Q1.2.1 rfl rfl (by simp [Value.category]) ?_
  refine x_bipush (v := 122) C dX2_hearsLong_60 (by decide) ?_
  refine x_icmp_ne (tgt := 93) C dX2_hearsLong_62 (by decide) (fun c62 => absurd c62 (not_not_intro g.2.2.2.1)) (fun c62 => ?_)
  refine x_aload_n C dX2_hearsLong_65 rfl ?_
  refine x_bipush (v := 9) C dX2_hearsLong_66 (by decide) ?_
  refine e_callV C Y hW E (r_at hW Q1 9) md_X5_at wi_X5_at ws_X5_at wm_X2_53 dX2_hearsLong_68 rfl (by decide) (by decide) Q1.2.1 rfl rfl (by simp [Value.category]) ?_
  refine x_sipush (v := 250) C dX2_hearsLong_71 (by decide) ?_
  refine x_icmp_gt (tgt := 93) C dX2_hearsLong_74 (by decide) (fun c74 => absurd c74 (Int32.not_lt.mpr g.2.2.2.2)) (fun c74 => ?_)
  refine x_aload_n C dX2_hearsLong_77 rfl ?_
  refine x_aload_n C dX2_hearsLong_78 rfl ?_
  refine x_bipush (v := 9) C dX2_hearsLong_79 (by decide) ?_
  refine e_callV C Y hW E (r_at hW Q1 9) md_X5_at wi_X5_at ws_X5_at wm_X2_53 dX2_hearsLong_81 rfl (by decide) (by decide) Q1.2.1 rfl rfl (by simp [Value.category]) ?_
  refine e_put C Y kd_X2 1 (by decide) rfl wf_X2_34 dX2_hearsLong_84 R (Nat.le_of_ble_eq_true rfl) rfl rfl rfl ?_
  refine x_aload_n C dX2_hearsLong_87 rfl ?_
  refine e_callV C Y hW E (hb) md_X5_becomeSingle wi_X5_becomeSingle ws_X5_becomeSingle wm_X2_60 dX2_hearsLong_88 rfl (by decide) (by decide) Q2.2.1 rfl rfl (by simp [Value.category]) ?_
  refine x_iconst (v := 1) C dX2_hearsLong_91 (by decide) ?_
  refine e_zret C E dX2_hearsLong_92 (by decide) ?_ ?_
  all_goals rfl
theorem t_long_c (hW : Wc w c) (R : h m = some (mF ad pr se pg sz pt bt ac)) (Q1 : RW c h p1 q1 f1 n1) (gA : ¬ lgA f1 n1) (gB : ¬ lgB f1 n1) (p : Nat) : TC w yX2_hearsLong cX2_hearsLong 4 (some .boolean) 2 [.ref m, .ref p1, .ref p] h (some (.int 0)) h := by
  refine TC.intro hW rfl (by decide +kernel) (Nat.le_of_ble_eq_true rfl) (fun z C Y E hn => ?_)
  have T93 : X z 0 0 (EQ h) 93 [some (.ref m), some (.ref p1), some (.ref p), some (.int (rAt f1 n1 6))] [] := by
    refine x_iconst (v := 0) C dX2_hearsLong_93 (by decide) ?_
    refine e_zret C E dX2_hearsLong_94 (by decide) ?_ ?_
    all_goals rfl
  have T30 : X z 0 0 (EQ h) 30 [some (.ref m), some (.ref p1), some (.ref p), some (.int (rAt f1 n1 6))] [] := by
    refine x_iload_n C dX2_hearsLong_30 rfl ?_
    refine x_bipush (v := 81) C dX2_hearsLong_31 (by decide) ?_
    refine x_icmp_ne (tgt := 93) C dX2_hearsLong_33 (by decide) (fun c33 => ?_) (fun c33 => ?_)
    · skip
      exact T93
    · skip
      refine x_aload_n C dX2_hearsLong_36 rfl ?_
      refine e_callV C Y hW E (r_dataSize hW Q1) md_X5_dataSize wi_X5_dataSize ws_X5_dataSize wm_X2_73 dX2_hearsLong_37 rfl (by decide) (by decide) Q1.2.1 rfl rfl (by simp [Value.category]) ?_
      refine x_iconst (v := 3) C dX2_hearsLong_40 (by decide) ?_
      refine x_icmp_ne (tgt := 93) C dX2_hearsLong_41 (by decide) (fun c41 => ?_) (fun c41 => ?_)
      · skip
        exact T93
      · skip
        refine x_aload_n C dX2_hearsLong_44 rfl ?_
        refine x_bipush (v := 7) C dX2_hearsLong_45 (by decide) ?_
        refine e_callV C Y hW E (r_at hW Q1 7) md_X5_at wi_X5_at ws_X5_at wm_X2_53 dX2_hearsLong_47 rfl (by decide) (by decide) Q1.2.1 rfl rfl (by simp [Value.category]) ?_
        refine x_iconst (v := 1) C dX2_hearsLong_50 (by decide) ?_
        refine x_icmp_ne (tgt := 93) C dX2_hearsLong_51 (by decide) (fun c51 => ?_) (fun c51 => ?_)
        · skip
          exact T93
        · skip
          refine x_aload_n C dX2_hearsLong_54 rfl ?_
          refine x_bipush (v := 8) C dX2_hearsLong_55 (by decide) ?_
          refine e_callV C Y hW E (r_at hW Q1 8) md_X5_at wi_X5_at ws_X5_at wm_X2_53 dX2_hearsLong_57 rfl (by decide) (by decide) Q1.2.1 rfl rfl (by simp [Value.category]) ?_
          refine x_bipush (v := 122) C dX2_hearsLong_60 (by decide) ?_
          refine x_icmp_ne (tgt := 93) C dX2_hearsLong_62 (by decide) (fun c62 => ?_) (fun c62 => ?_)
          · skip
            exact T93
          · skip
            refine x_aload_n C dX2_hearsLong_65 rfl ?_
            refine x_bipush (v := 9) C dX2_hearsLong_66 (by decide) ?_
            refine e_callV C Y hW E (r_at hW Q1 9) md_X5_at wi_X5_at ws_X5_at wm_X2_53 dX2_hearsLong_68 rfl (by decide) (by decide) Q1.2.1 rfl rfl (by simp [Value.category]) ?_
            refine x_sipush (v := 250) C dX2_hearsLong_71 (by decide) ?_
            refine x_icmp_gt (tgt := 93) C dX2_hearsLong_74 (by decide) (fun c74 => ?_) (fun c74 => ?_)
            · skip
              exact T93
            · skip
              exact absurd ⟨c33, c41, c51, c62, Int32.not_lt.mp c74⟩ gB
  refine x_aload_n C dX2_hearsLong_0 rfl ?_
  refine x_bipush (v := 6) C dX2_hearsLong_1 (by decide) ?_
  refine e_callV C Y hW E (r_at hW Q1 6) md_X5_at wi_X5_at ws_X5_at wm_X2_53 dX2_hearsLong_3 rfl (by decide) (by decide) Q1.2.1 rfl rfl (by simp [Value.category]) ?_
  refine o_istore_nE (L' := [some _, some _, some _, some _]) C dX2_hearsLong_6 (by rw [hn]; decide) rfl ?_
  refine x_iload_n C dX2_hearsLong_7 rfl ?_
  refine x_bipush (v := 80) C dX2_hearsLong_8 (by decide) ?_
  refine x_icmp_ne (tgt := 30) C dX2_hearsLong_10 (by decide) (fun c10 => ?_) (fun c10 => ?_)
  · skip
    exact T30
  · skip
    refine x_aload_n C dX2_hearsLong_13 rfl ?_
    refine e_callV C Y hW E (r_dataSize hW Q1) md_X5_dataSize wi_X5_dataSize ws_X5_dataSize wm_X2_73 dX2_hearsLong_14 rfl (by decide) (by decide) Q1.2.1 rfl rfl (by simp [Value.category]) ?_
    refine x_if_ne (tgt := 30) C dX2_hearsLong_17 (by decide) (fun c17 => ?_) (fun c17 => ?_)
    · skip
      exact T30
    · skip
      exact absurd ⟨c10, c17⟩ gA
end Met
end
section
/-! The class: Meter, short frames that ask for nothing. -/
section Met
variable {w : Wd} {c : Nat → ClassId} {h : PH} {m pg sz : Nat} {ad : Int64} {pr se pt bt ac : Int32} {p q n : Nat} {f : Nat → Int32}
theorem t_short_r (hW : Wc w c) (R : h m = some (mF ad pr se pg sz pt bt ac)) (hse : se = 0 ∨ se = 1) (Q : RW c h p q f n) (a1 : p ≠ m) (a2 : q ≠ m) (a : Int32) : TC w yX2_hearsShort cX2_hearsShort 5 (some .boolean) 2 [.ref m, .int 64, .int a, .ref p] h (some (.int 1)) (rowh c (hs h m (mF ad pr (if a = 253 then 0 else se) pg sz (-1) (-1) ac)) p q (upd f 0 229) 1) := by
  refine TC.intro hW rfl (by decide +kernel) (Nat.le_of_ble_eq_true rfl) (fun z C Y E hn => ?_)
  have hf := t_forget hW R
  have R1 : hs h m (mF ad pr se pg sz (-1) (-1) ac) m = some (mF ad pr se pg sz (-1) (-1) ac) := hs_self ..
  have T33 : ∀ v, v = (if a = 253 then 0 else se) → X z 0 0 (EQ (hs h m (mF ad pr v pg sz (-1) (-1) ac))) 33 [some (.ref m), some (.int 64), some (.int a), some (.ref p), none] [] := by
    intro v e
    rw [← e] at E
    have Q2 : RW c (hs h m (mF ad pr v pg sz (-1) (-1) ac)) p q f n := ⟨Q.1, (hs_ne a1).trans Q.2.1, (hs_ne a2).trans Q.2.2.1, Q.2.2.2⟩
    have hb := r_becomeSingle hW Q2
    refine x_aload_n C dX2_hearsShort_33 rfl ?_
    refine e_callV C Y hW E (hb) md_X5_becomeSingle wi_X5_becomeSingle ws_X5_becomeSingle wm_X2_60 dX2_hearsShort_34 rfl (by decide) (by decide) Q2.2.1 rfl rfl (by simp [Value.category]) ?_
    refine x_iconst (v := 1) C dX2_hearsShort_37 (by decide) ?_
    refine e_zret C E dX2_hearsShort_38 (by decide) ?_ ?_
    all_goals rfl
  refine x_iload_n C dX2_hearsShort_0 rfl ?_
  refine x_bipush (v := 64) C dX2_hearsShort_1 (by decide) ?_
  refine x_icmp_ne (tgt := 39) C dX2_hearsShort_3 (by decide) (fun c3 => absurd c3 (not_not_intro rfl)) (fun c3 => ?_)
  refine x_aload_n C dX2_hearsShort_6 rfl ?_
  refine e_callV C Y hW E (hf) md_X2_forget wi_X2_forget ws_X2_forget wm_X2_63 dX2_hearsShort_7 rfl (by decide) (by decide) R rfl rfl (by simp [Value.category]) ?_
  refine x_aload_n C dX2_hearsShort_10 rfl ?_
  refine x_aload_n C dX2_hearsShort_11 rfl ?_
  refine e_get C Y kd_X2 2 (by decide) wf_X2_9 dX2_hearsShort_12 R1 rfl ?_
  refine x_if_eq (tgt := 29) C dX2_hearsShort_15 (by decide) (fun c15 => ?_) (fun c15 => ?_)
  · skip
    refine x_iconst (v := 0) C dX2_hearsShort_29 (by decide) ?_
    refine e_put C Y kd_X2 2 (by decide) rfl wf_X2_9 dX2_hearsShort_30 R1 (Nat.le_of_ble_eq_true rfl) rfl rfl (hs_hs _ _ _ _) ?_
    exact T33 _ (by rcases hse with e | e <;> simp_all)
  · skip
    refine x_iload_n C dX2_hearsShort_18 rfl ?_
    refine x_sipush (v := 253) C dX2_hearsShort_19 (by decide) ?_
    refine x_icmp_eq (tgt := 29) C dX2_hearsShort_22 (by decide) (fun c22 => ?_) (fun c22 => ?_)
    · skip
      refine x_iconst (v := 0) C dX2_hearsShort_29 (by decide) ?_
      refine e_put C Y kd_X2 2 (by decide) rfl wf_X2_9 dX2_hearsShort_30 R1 (Nat.le_of_ble_eq_true rfl) rfl rfl (hs_hs _ _ _ _) ?_
      exact T33 _ (by rcases hse with e | e <;> simp_all)
    · skip
      refine x_iconst (v := 1) C dX2_hearsShort_25 (by decide) ?_
      refine x_goto (tgt := 30) C dX2_hearsShort_26 (by decide) ?_
      refine e_put C Y kd_X2 2 (by decide) rfl wf_X2_9 dX2_hearsShort_30 R1 (Nat.le_of_ble_eq_true rfl) rfl rfl (hs_hs _ _ _ _) ?_
      exact T33 _ (by rcases hse with e | e <;> simp_all)
theorem t_short_n (hW : Wc w c) (k a : Int32) (g1 : ¬ k = 64) (g2 : ¬ k = 91) (g3 : ¬ k = 123) (m p : Nat) : TC w yX2_hearsShort cX2_hearsShort 5 (some .boolean) 2 [.ref m, .int k, .int a, .ref p] h (some (.int 0)) h := by
  refine TC.intro hW rfl (by decide +kernel) (Nat.le_of_ble_eq_true rfl) (fun z C Y E hn => ?_)
  refine x_iload_n C dX2_hearsShort_0 rfl ?_
  refine x_bipush (v := 64) C dX2_hearsShort_1 (by decide) ?_
  refine x_icmp_ne (tgt := 39) C dX2_hearsShort_3 (by decide) (fun c3 => ?_) (fun c3 => absurd c3 g1)
  refine x_iload_n C dX2_hearsShort_39 rfl ?_
  refine x_bipush (v := 91) C dX2_hearsShort_40 (by decide) ?_
  refine x_icmp_eq (tgt := 51) C dX2_hearsShort_42 (by decide) (fun c42 => absurd c42 g2) (fun c42 => ?_)
  refine x_iload_n C dX2_hearsShort_45 rfl ?_
  refine x_bipush (v := 123) C dX2_hearsShort_46 (by decide) ?_
  refine x_icmp_ne (tgt := 95) C dX2_hearsShort_48 (by decide) (fun c48 => ?_) (fun c48 => absurd c48 g3)
  refine x_iconst (v := 0) C dX2_hearsShort_95 (by decide) ?_
  refine e_zret C E dX2_hearsShort_96 (by decide) ?_ ?_
  all_goals rfl
end Met
end
section
/-! A row for arrays of int arrays. -/
section Rows
variable {z : Fx} {own : String} {cc : ByteArray} {Ts : List Cond} {kc ks pc : Nat} {A : PH → Prop} {L : List (Option Value)} {st : List Value} {h : PH}
theorem x_aald2 (C : Cx z own cc Ts) {t0 : Nat} {cA : ClassId} (ht : z.tys[t0]? = some (cA, .array .int)) (d : decode cc pc = .ok (.aaload, 1)) {a n : Nat} {f : Nat → Option Nat} {i : Int32} (g : ∀ h, A h → h a = some (.inl (cA, n, .inr (.inr (.inr (.inr f)))))) (gi : vp_in i n)
    (kk : X z kc ks A (pc + 1) L (va_rf (f i.toNatClampNeg) :: st)) : X z kc ks A pc L (.int i :: .ref a :: st) := by
  intro H locs ls cells slots ⟨h, hA, LP, f0, q1, q2, q3⟩ hS hl c1 c2
  obtain ⟨q0, hq0⟩ := hp_get (D := z.D) (cl := z.cl) (base := z.base) (H := H) q1 (g h hA)
  have hlt : i.toNatClampNeg < n := Nat.not_le.mp fun q => gi (Or.inr q)
  exact W.aald (v := va_rf (f i.toNatClampNeg)) (ty := .array .int) C.x C.b (q2 q0 _ hq0) ((C.K.2 t0 _ ht).1 n (fun j => va_rf (f j))) rfl (fun q => by cases q) (by show ¬ (i < 0 ∨ (arrV _ _ _).slots.size ≤ _); rw [arrV_size]; exact gi) (by show (arrV _ _ _).slots[_]? = _; rw [arrV_read _ _ hlt]) rfl rfl d (kk H locs ls cells slots ⟨h, hA, LP, f0, q1, q2, q3⟩ hS hl c1 c2)
theorem e_ald2 (C : Cx z own cc gw) {t0 : Nat} {cA : ClassId} (ht : z.tys[t0]? = some (cA, .array .int)) (d : decode cc pc = .ok (.aaload, 1)) {a n b j : Nat} {f : Nat → Option Nat} {i : Int32} (g : h a = some (.inl (cA, n, .inr (.inr (.inr (.inr f)))))) (hi : i = nI j) (hj : j < n) (hn : n < 2 ^ 31) (hb : f j = some b)
    (kk : X z kc ks (EQ h) (pc + 1) L (.ref b :: st)) : X z kc ks (EQ h) pc L (.int i :: .ref a :: st) := by
  subst hi
  refine x_aald2 C ht d (fun q e => by rw [e]; exact g) (vp_in_nI hj hn) ?_
  rw [nI_clamp (by omega), hb]
  exact kk
end Rows
end
