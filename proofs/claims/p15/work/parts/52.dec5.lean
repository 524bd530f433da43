/-! The instructions of the class, decoded. By program (wip/mkdec.py). -/
theorem dX5_init_0 : decode cX5_init 0 = .ok (.aload_n 0, 1) := by decide +kernel
theorem dX5_init_1 : decode cX5_init 1 = .ok (.invokespecial 3, 3) := by decide +kernel
theorem dX5_init_4 : decode cX5_init 4 = .ok (.aload_n 0, 1) := by decide +kernel
theorem dX5_init_5 : decode cX5_init 5 = .ok (.sipush 300, 3) := by decide +kernel
theorem dX5_init_8 : decode cX5_init 8 = .ok (.newarray .int, 2) := by decide +kernel
theorem dX5_init_10 : decode cX5_init 10 = .ok (.putfield 9, 3) := by decide +kernel
theorem dX5_init_13 : decode cX5_init 13 = .ok (.aload_n 0, 1) := by decide +kernel
theorem dX5_init_14 : decode cX5_init 14 = .ok (.iconst 0, 1) := by decide +kernel
theorem dX5_init_15 : decode cX5_init 15 = .ok (.putfield 15, 3) := by decide +kernel
theorem dX5_init_18 : decode cX5_init 18 = .ok (.return_, 1) := by decide +kernel
theorem dX5_size_0 : decode cX5_size 0 = .ok (.aload_n 0, 1) := by decide +kernel
theorem dX5_size_1 : decode cX5_size 1 = .ok (.getfield 15, 3) := by decide +kernel
theorem dX5_size_4 : decode cX5_size 4 = .ok (.ireturn, 1) := by decide +kernel
theorem dX5_at_0 : decode cX5_at 0 = .ok (.iload_n 1, 1) := by decide +kernel
theorem dX5_at_1 : decode cX5_at 1 = .ok (.ifCond .lt 20, 3) := by decide +kernel
theorem dX5_at_4 : decode cX5_at 4 = .ok (.iload_n 1, 1) := by decide +kernel
theorem dX5_at_5 : decode cX5_at 5 = .ok (.aload_n 0, 1) := by decide +kernel
theorem dX5_at_6 : decode cX5_at 6 = .ok (.getfield 15, 3) := by decide +kernel
theorem dX5_at_9 : decode cX5_at 9 = .ok (.if_icmp .ge 12, 3) := by decide +kernel
theorem dX5_at_12 : decode cX5_at 12 = .ok (.aload_n 0, 1) := by decide +kernel
theorem dX5_at_13 : decode cX5_at 13 = .ok (.getfield 9, 3) := by decide +kernel
theorem dX5_at_16 : decode cX5_at 16 = .ok (.iload_n 1, 1) := by decide +kernel
theorem dX5_at_17 : decode cX5_at 17 = .ok (.iaload, 1) := by decide +kernel
theorem dX5_at_18 : decode cX5_at 18 = .ok (.goto 4, 3) := by decide +kernel
theorem dX5_at_21 : decode cX5_at 21 = .ok (.iconst (-1), 1) := by decide +kernel
theorem dX5_at_22 : decode cX5_at 22 = .ok (.ireturn, 1) := by decide +kernel
theorem dX5_add_0 : decode cX5_add 0 = .ok (.aload_n 0, 1) := by decide +kernel
theorem dX5_add_1 : decode cX5_add 1 = .ok (.getfield 15, 3) := by decide +kernel
theorem dX5_add_4 : decode cX5_add 4 = .ok (.sipush 300, 3) := by decide +kernel
theorem dX5_add_7 : decode cX5_add 7 = .ok (.if_icmp .ge 27, 3) := by decide +kernel
theorem dX5_add_10 : decode cX5_add 10 = .ok (.aload_n 0, 1) := by decide +kernel
theorem dX5_add_11 : decode cX5_add 11 = .ok (.getfield 9, 3) := by decide +kernel
theorem dX5_add_14 : decode cX5_add 14 = .ok (.aload_n 0, 1) := by decide +kernel
theorem dX5_add_15 : decode cX5_add 15 = .ok (.getfield 15, 3) := by decide +kernel
theorem dX5_add_18 : decode cX5_add 18 = .ok (.iload_n 1, 1) := by decide +kernel
theorem dX5_add_19 : decode cX5_add 19 = .ok (.sipush 255, 3) := by decide +kernel
theorem dX5_add_22 : decode cX5_add 22 = .ok (.iand, 1) := by decide +kernel
theorem dX5_add_23 : decode cX5_add 23 = .ok (.iastore, 1) := by decide +kernel
theorem dX5_add_24 : decode cX5_add 24 = .ok (.aload_n 0, 1) := by decide +kernel
theorem dX5_add_25 : decode cX5_add 25 = .ok (.dup, 1) := by decide +kernel
theorem dX5_add_26 : decode cX5_add 26 = .ok (.getfield 15, 3) := by decide +kernel
theorem dX5_add_29 : decode cX5_add 29 = .ok (.iconst 1, 1) := by decide +kernel
theorem dX5_add_30 : decode cX5_add 30 = .ok (.iadd, 1) := by decide +kernel
theorem dX5_add_31 : decode cX5_add 31 = .ok (.putfield 15, 3) := by decide +kernel
theorem dX5_add_34 : decode cX5_add 34 = .ok (.return_, 1) := by decide +kernel
theorem dX5_cutTo_0 : decode cX5_cutTo 0 = .ok (.iload_n 1, 1) := by decide +kernel
theorem dX5_cutTo_1 : decode cX5_cutTo 1 = .ok (.ifCond .lt 16, 3) := by decide +kernel
theorem dX5_cutTo_4 : decode cX5_cutTo 4 = .ok (.iload_n 1, 1) := by decide +kernel
theorem dX5_cutTo_5 : decode cX5_cutTo 5 = .ok (.aload_n 0, 1) := by decide +kernel
theorem dX5_cutTo_6 : decode cX5_cutTo 6 = .ok (.getfield 15, 3) := by decide +kernel
theorem dX5_cutTo_9 : decode cX5_cutTo 9 = .ok (.if_icmp .ge 8, 3) := by decide +kernel
theorem dX5_cutTo_12 : decode cX5_cutTo 12 = .ok (.aload_n 0, 1) := by decide +kernel
theorem dX5_cutTo_13 : decode cX5_cutTo 13 = .ok (.iload_n 1, 1) := by decide +kernel
theorem dX5_cutTo_14 : decode cX5_cutTo 14 = .ok (.putfield 15, 3) := by decide +kernel
theorem dX5_cutTo_17 : decode cX5_cutTo 17 = .ok (.return_, 1) := by decide +kernel
theorem dX5_become_0 : decode cX5_become 0 = .ok (.aload_n 0, 1) := by decide +kernel
theorem dX5_become_1 : decode cX5_become 1 = .ok (.iconst 0, 1) := by decide +kernel
theorem dX5_become_2 : decode cX5_become 2 = .ok (.putfield 15, 3) := by decide +kernel
theorem dX5_become_5 : decode cX5_become 5 = .ok (.iconst 0, 1) := by decide +kernel
theorem dX5_become_6 : decode cX5_become 6 = .ok (.istore_n 2, 1) := by decide +kernel
theorem dX5_become_7 : decode cX5_become 7 = .ok (.iload_n 2, 1) := by decide +kernel
theorem dX5_become_8 : decode cX5_become 8 = .ok (.aload_n 1, 1) := by decide +kernel
theorem dX5_become_9 : decode cX5_become 9 = .ok (.getfield 15, 3) := by decide +kernel
theorem dX5_become_12 : decode cX5_become 12 = .ok (.if_icmp .ge 19, 3) := by decide +kernel
theorem dX5_become_15 : decode cX5_become 15 = .ok (.aload_n 0, 1) := by decide +kernel
theorem dX5_become_16 : decode cX5_become 16 = .ok (.aload_n 1, 1) := by decide +kernel
theorem dX5_become_17 : decode cX5_become 17 = .ok (.getfield 9, 3) := by decide +kernel
theorem dX5_become_20 : decode cX5_become 20 = .ok (.iload_n 2, 1) := by decide +kernel
theorem dX5_become_21 : decode cX5_become 21 = .ok (.iaload, 1) := by decide +kernel
theorem dX5_become_22 : decode cX5_become 22 = .ok (.invokevirtual 19, 3) := by decide +kernel
theorem dX5_become_25 : decode cX5_become 25 = .ok (.iinc 2 1, 3) := by decide +kernel
theorem dX5_become_28 : decode cX5_become 28 = .ok (.goto (-21), 3) := by decide +kernel
theorem dX5_become_31 : decode cX5_become 31 = .ok (.return_, 1) := by decide +kernel
theorem dX5_becomeSingle_0 : decode cX5_becomeSingle 0 = .ok (.aload_n 0, 1) := by decide +kernel
theorem dX5_becomeSingle_1 : decode cX5_becomeSingle 1 = .ok (.iconst 0, 1) := by decide +kernel
theorem dX5_becomeSingle_2 : decode cX5_becomeSingle 2 = .ok (.putfield 15, 3) := by decide +kernel
theorem dX5_becomeSingle_5 : decode cX5_becomeSingle 5 = .ok (.aload_n 0, 1) := by decide +kernel
theorem dX5_becomeSingle_6 : decode cX5_becomeSingle 6 = .ok (.sipush 229, 3) := by decide +kernel
theorem dX5_becomeSingle_9 : decode cX5_becomeSingle 9 = .ok (.invokevirtual 19, 3) := by decide +kernel
theorem dX5_becomeSingle_12 : decode cX5_becomeSingle 12 = .ok (.return_, 1) := by decide +kernel
theorem dX5_addAddress_0 : decode cX5_addAddress 0 = .ok (.iconst 0, 1) := by decide +kernel
theorem dX5_addAddress_1 : decode cX5_addAddress 1 = .ok (.istore_n 3, 1) := by decide +kernel
theorem dX5_addAddress_2 : decode cX5_addAddress 2 = .ok (.iload_n 3, 1) := by decide +kernel
theorem dX5_addAddress_3 : decode cX5_addAddress 3 = .ok (.bipush 8, 2) := by decide +kernel
theorem dX5_addAddress_5 : decode cX5_addAddress 5 = .ok (.if_icmp .ge 20, 3) := by decide +kernel
theorem dX5_addAddress_8 : decode cX5_addAddress 8 = .ok (.aload_n 0, 1) := by decide +kernel
theorem dX5_addAddress_9 : decode cX5_addAddress 9 = .ok (.lload_n 1, 1) := by decide +kernel
theorem dX5_addAddress_10 : decode cX5_addAddress 10 = .ok (.bipush 8, 2) := by decide +kernel
theorem dX5_addAddress_12 : decode cX5_addAddress 12 = .ok (.iload_n 3, 1) := by decide +kernel
theorem dX5_addAddress_13 : decode cX5_addAddress 13 = .ok (.imul, 1) := by decide +kernel
theorem dX5_addAddress_14 : decode cX5_addAddress 14 = .ok (.lushr, 1) := by decide +kernel
theorem dX5_addAddress_15 : decode cX5_addAddress 15 = .ok (.l2i, 1) := by decide +kernel
theorem dX5_addAddress_16 : decode cX5_addAddress 16 = .ok (.invokevirtual 19, 3) := by decide +kernel
theorem dX5_addAddress_19 : decode cX5_addAddress 19 = .ok (.iinc 3 1, 3) := by decide +kernel
theorem dX5_addAddress_22 : decode cX5_addAddress 22 = .ok (.goto (-20), 3) := by decide +kernel
theorem dX5_addAddress_25 : decode cX5_addAddress 25 = .ok (.return_, 1) := by decide +kernel
theorem dX5_addressAt_0 : decode cX5_addressAt 0 = .ok (.lconst 0, 1) := by decide +kernel
theorem dX5_addressAt_1 : decode cX5_addressAt 1 = .ok (.lstore_n 2, 1) := by decide +kernel
theorem dX5_addressAt_2 : decode cX5_addressAt 2 = .ok (.bipush 7, 2) := by decide +kernel
theorem dX5_addressAt_4 : decode cX5_addressAt 4 = .ok (.istore 4, 2) := by decide +kernel
theorem dX5_addressAt_6 : decode cX5_addressAt 6 = .ok (.iload 4, 2) := by decide +kernel
theorem dX5_addressAt_8 : decode cX5_addressAt 8 = .ok (.ifCond .lt 28, 3) := by decide +kernel
theorem dX5_addressAt_11 : decode cX5_addressAt 11 = .ok (.lload_n 2, 1) := by decide +kernel
theorem dX5_addressAt_12 : decode cX5_addressAt 12 = .ok (.bipush 8, 2) := by decide +kernel
theorem dX5_addressAt_14 : decode cX5_addressAt 14 = .ok (.lshl, 1) := by decide +kernel
theorem dX5_addressAt_15 : decode cX5_addressAt 15 = .ok (.aload_n 0, 1) := by decide +kernel
theorem dX5_addressAt_16 : decode cX5_addressAt 16 = .ok (.iload_n 1, 1) := by decide +kernel
theorem dX5_addressAt_17 : decode cX5_addressAt 17 = .ok (.iload 4, 2) := by decide +kernel
theorem dX5_addressAt_19 : decode cX5_addressAt 19 = .ok (.iadd, 1) := by decide +kernel
theorem dX5_addressAt_20 : decode cX5_addressAt 20 = .ok (.invokevirtual 23, 3) := by decide +kernel
theorem dX5_addressAt_23 : decode cX5_addressAt 23 = .ok (.sipush 255, 3) := by decide +kernel
theorem dX5_addressAt_26 : decode cX5_addressAt 26 = .ok (.iand, 1) := by decide +kernel
theorem dX5_addressAt_27 : decode cX5_addressAt 27 = .ok (.i2l, 1) := by decide +kernel
theorem dX5_addressAt_28 : decode cX5_addressAt 28 = .ok (.lor, 1) := by decide +kernel
theorem dX5_addressAt_29 : decode cX5_addressAt 29 = .ok (.lstore_n 2, 1) := by decide +kernel
theorem dX5_addressAt_30 : decode cX5_addressAt 30 = .ok (.iinc 4 (-1), 3) := by decide +kernel
theorem dX5_addressAt_33 : decode cX5_addressAt 33 = .ok (.goto (-27), 3) := by decide +kernel
theorem dX5_addressAt_36 : decode cX5_addressAt 36 = .ok (.lload_n 2, 1) := by decide +kernel
theorem dX5_addressAt_37 : decode cX5_addressAt 37 = .ok (.lreturn, 1) := by decide +kernel
theorem dX5_sum_0 : decode cX5_sum 0 = .ok (.iconst 0, 1) := by decide +kernel
theorem dX5_sum_1 : decode cX5_sum 1 = .ok (.istore_n 3, 1) := by decide +kernel
theorem dX5_sum_2 : decode cX5_sum 2 = .ok (.iload_n 1, 1) := by decide +kernel
theorem dX5_sum_3 : decode cX5_sum 3 = .ok (.istore 4, 2) := by decide +kernel
theorem dX5_sum_5 : decode cX5_sum 5 = .ok (.iload 4, 2) := by decide +kernel
theorem dX5_sum_7 : decode cX5_sum 7 = .ok (.iload_n 2, 1) := by decide +kernel
theorem dX5_sum_8 : decode cX5_sum 8 = .ok (.if_icmp .ge 27, 3) := by decide +kernel
theorem dX5_sum_11 : decode cX5_sum 11 = .ok (.iload 4, 2) := by decide +kernel
theorem dX5_sum_13 : decode cX5_sum 13 = .ok (.aload_n 0, 1) := by decide +kernel
theorem dX5_sum_14 : decode cX5_sum 14 = .ok (.getfield 15, 3) := by decide +kernel
theorem dX5_sum_17 : decode cX5_sum 17 = .ok (.if_icmp .ge 18, 3) := by decide +kernel
theorem dX5_sum_20 : decode cX5_sum 20 = .ok (.iload_n 3, 1) := by decide +kernel
theorem dX5_sum_21 : decode cX5_sum 21 = .ok (.aload_n 0, 1) := by decide +kernel
theorem dX5_sum_22 : decode cX5_sum 22 = .ok (.iload 4, 2) := by decide +kernel
theorem dX5_sum_24 : decode cX5_sum 24 = .ok (.invokevirtual 23, 3) := by decide +kernel
theorem dX5_sum_27 : decode cX5_sum 27 = .ok (.iadd, 1) := by decide +kernel
theorem dX5_sum_28 : decode cX5_sum 28 = .ok (.istore_n 3, 1) := by decide +kernel
theorem dX5_sum_29 : decode cX5_sum 29 = .ok (.iinc 4 1, 3) := by decide +kernel
theorem dX5_sum_32 : decode cX5_sum 32 = .ok (.goto (-27), 3) := by decide +kernel
theorem dX5_sum_35 : decode cX5_sum 35 = .ok (.iload_n 3, 1) := by decide +kernel
theorem dX5_sum_36 : decode cX5_sum 36 = .ok (.sipush 255, 3) := by decide +kernel
theorem dX5_sum_39 : decode cX5_sum 39 = .ok (.iand, 1) := by decide +kernel
theorem dX5_sum_40 : decode cX5_sum 40 = .ok (.ireturn, 1) := by decide +kernel
theorem dX5_isShortFrame_0 : decode cX5_isShortFrame 0 = .ok (.aload_n 0, 1) := by decide +kernel
theorem dX5_isShortFrame_1 : decode cX5_isShortFrame 1 = .ok (.getfield 15, 3) := by decide +kernel
theorem dX5_isShortFrame_4 : decode cX5_isShortFrame 4 = .ok (.iconst 5, 1) := by decide +kernel
theorem dX5_isShortFrame_5 : decode cX5_isShortFrame 5 = .ok (.if_icmp .ne 41, 3) := by decide +kernel
theorem dX5_isShortFrame_8 : decode cX5_isShortFrame 8 = .ok (.aload_n 0, 1) := by decide +kernel
theorem dX5_isShortFrame_9 : decode cX5_isShortFrame 9 = .ok (.iconst 0, 1) := by decide +kernel
theorem dX5_isShortFrame_10 : decode cX5_isShortFrame 10 = .ok (.invokevirtual 23, 3) := by decide +kernel
theorem dX5_isShortFrame_13 : decode cX5_isShortFrame 13 = .ok (.bipush 16, 2) := by decide +kernel
theorem dX5_isShortFrame_15 : decode cX5_isShortFrame 15 = .ok (.if_icmp .ne 31, 3) := by decide +kernel
theorem dX5_isShortFrame_18 : decode cX5_isShortFrame 18 = .ok (.aload_n 0, 1) := by decide +kernel
theorem dX5_isShortFrame_19 : decode cX5_isShortFrame 19 = .ok (.iconst 3, 1) := by decide +kernel
theorem dX5_isShortFrame_20 : decode cX5_isShortFrame 20 = .ok (.invokevirtual 23, 3) := by decide +kernel
theorem dX5_isShortFrame_23 : decode cX5_isShortFrame 23 = .ok (.aload_n 0, 1) := by decide +kernel
theorem dX5_isShortFrame_24 : decode cX5_isShortFrame 24 = .ok (.iconst 1, 1) := by decide +kernel
theorem dX5_isShortFrame_25 : decode cX5_isShortFrame 25 = .ok (.iconst 3, 1) := by decide +kernel
theorem dX5_isShortFrame_26 : decode cX5_isShortFrame 26 = .ok (.invokevirtual 27, 3) := by decide +kernel
theorem dX5_isShortFrame_29 : decode cX5_isShortFrame 29 = .ok (.if_icmp .ne 17, 3) := by decide +kernel
theorem dX5_isShortFrame_32 : decode cX5_isShortFrame 32 = .ok (.aload_n 0, 1) := by decide +kernel
theorem dX5_isShortFrame_33 : decode cX5_isShortFrame 33 = .ok (.iconst 4, 1) := by decide +kernel
theorem dX5_isShortFrame_34 : decode cX5_isShortFrame 34 = .ok (.invokevirtual 23, 3) := by decide +kernel
theorem dX5_isShortFrame_37 : decode cX5_isShortFrame 37 = .ok (.bipush 22, 2) := by decide +kernel
theorem dX5_isShortFrame_39 : decode cX5_isShortFrame 39 = .ok (.if_icmp .ne 7, 3) := by decide +kernel
theorem dX5_isShortFrame_42 : decode cX5_isShortFrame 42 = .ok (.iconst 1, 1) := by decide +kernel
theorem dX5_isShortFrame_43 : decode cX5_isShortFrame 43 = .ok (.goto 4, 3) := by decide +kernel
theorem dX5_isShortFrame_46 : decode cX5_isShortFrame 46 = .ok (.iconst 0, 1) := by decide +kernel
theorem dX5_isShortFrame_47 : decode cX5_isShortFrame 47 = .ok (.ireturn, 1) := by decide +kernel
theorem dX5_isLongFrame_0 : decode cX5_isLongFrame 0 = .ok (.aload_n 0, 1) := by decide +kernel
theorem dX5_isLongFrame_1 : decode cX5_isLongFrame 1 = .ok (.iconst 1, 1) := by decide +kernel
theorem dX5_isLongFrame_2 : decode cX5_isLongFrame 2 = .ok (.invokevirtual 23, 3) := by decide +kernel
theorem dX5_isLongFrame_5 : decode cX5_isLongFrame 5 = .ok (.istore_n 1, 1) := by decide +kernel
theorem dX5_isLongFrame_6 : decode cX5_isLongFrame 6 = .ok (.iload_n 1, 1) := by decide +kernel
theorem dX5_isLongFrame_7 : decode cX5_isLongFrame 7 = .ok (.iconst 3, 1) := by decide +kernel
theorem dX5_isLongFrame_8 : decode cX5_isLongFrame 8 = .ok (.if_icmp .lt 84, 3) := by decide +kernel
theorem dX5_isLongFrame_11 : decode cX5_isLongFrame 11 = .ok (.iload_n 1, 1) := by decide +kernel
theorem dX5_isLongFrame_12 : decode cX5_isLongFrame 12 = .ok (.sipush 252, 3) := by decide +kernel
theorem dX5_isLongFrame_15 : decode cX5_isLongFrame 15 = .ok (.if_icmp .gt 77, 3) := by decide +kernel
theorem dX5_isLongFrame_18 : decode cX5_isLongFrame 18 = .ok (.aload_n 0, 1) := by decide +kernel
theorem dX5_isLongFrame_19 : decode cX5_isLongFrame 19 = .ok (.getfield 15, 3) := by decide +kernel
theorem dX5_isLongFrame_22 : decode cX5_isLongFrame 22 = .ok (.iload_n 1, 1) := by decide +kernel
theorem dX5_isLongFrame_23 : decode cX5_isLongFrame 23 = .ok (.bipush 6, 2) := by decide +kernel
theorem dX5_isLongFrame_25 : decode cX5_isLongFrame 25 = .ok (.iadd, 1) := by decide +kernel
theorem dX5_isLongFrame_26 : decode cX5_isLongFrame 26 = .ok (.if_icmp .ne 66, 3) := by decide +kernel
theorem dX5_isLongFrame_29 : decode cX5_isLongFrame 29 = .ok (.aload_n 0, 1) := by decide +kernel
theorem dX5_isLongFrame_30 : decode cX5_isLongFrame 30 = .ok (.iconst 0, 1) := by decide +kernel
theorem dX5_isLongFrame_31 : decode cX5_isLongFrame 31 = .ok (.invokevirtual 23, 3) := by decide +kernel
theorem dX5_isLongFrame_34 : decode cX5_isLongFrame 34 = .ok (.bipush 104, 2) := by decide +kernel
theorem dX5_isLongFrame_36 : decode cX5_isLongFrame 36 = .ok (.if_icmp .ne 56, 3) := by decide +kernel
theorem dX5_isLongFrame_39 : decode cX5_isLongFrame 39 = .ok (.aload_n 0, 1) := by decide +kernel
theorem dX5_isLongFrame_40 : decode cX5_isLongFrame 40 = .ok (.iconst 2, 1) := by decide +kernel
theorem dX5_isLongFrame_41 : decode cX5_isLongFrame 41 = .ok (.invokevirtual 23, 3) := by decide +kernel
theorem dX5_isLongFrame_44 : decode cX5_isLongFrame 44 = .ok (.iload_n 1, 1) := by decide +kernel
theorem dX5_isLongFrame_45 : decode cX5_isLongFrame 45 = .ok (.if_icmp .ne 47, 3) := by decide +kernel
theorem dX5_isLongFrame_48 : decode cX5_isLongFrame 48 = .ok (.aload_n 0, 1) := by decide +kernel
theorem dX5_isLongFrame_49 : decode cX5_isLongFrame 49 = .ok (.iconst 3, 1) := by decide +kernel
theorem dX5_isLongFrame_50 : decode cX5_isLongFrame 50 = .ok (.invokevirtual 23, 3) := by decide +kernel
theorem dX5_isLongFrame_53 : decode cX5_isLongFrame 53 = .ok (.bipush 104, 2) := by decide +kernel
theorem dX5_isLongFrame_55 : decode cX5_isLongFrame 55 = .ok (.if_icmp .ne 37, 3) := by decide +kernel
theorem dX5_isLongFrame_58 : decode cX5_isLongFrame 58 = .ok (.aload_n 0, 1) := by decide +kernel
theorem dX5_isLongFrame_59 : decode cX5_isLongFrame 59 = .ok (.iload_n 1, 1) := by decide +kernel
theorem dX5_isLongFrame_60 : decode cX5_isLongFrame 60 = .ok (.iconst 4, 1) := by decide +kernel
theorem dX5_isLongFrame_61 : decode cX5_isLongFrame 61 = .ok (.iadd, 1) := by decide +kernel
theorem dX5_isLongFrame_62 : decode cX5_isLongFrame 62 = .ok (.invokevirtual 23, 3) := by decide +kernel
theorem dX5_isLongFrame_65 : decode cX5_isLongFrame 65 = .ok (.aload_n 0, 1) := by decide +kernel
theorem dX5_isLongFrame_66 : decode cX5_isLongFrame 66 = .ok (.iconst 4, 1) := by decide +kernel
theorem dX5_isLongFrame_67 : decode cX5_isLongFrame 67 = .ok (.iload_n 1, 1) := by decide +kernel
theorem dX5_isLongFrame_68 : decode cX5_isLongFrame 68 = .ok (.iconst 4, 1) := by decide +kernel
theorem dX5_isLongFrame_69 : decode cX5_isLongFrame 69 = .ok (.iadd, 1) := by decide +kernel
theorem dX5_isLongFrame_70 : decode cX5_isLongFrame 70 = .ok (.invokevirtual 27, 3) := by decide +kernel
theorem dX5_isLongFrame_73 : decode cX5_isLongFrame 73 = .ok (.if_icmp .ne 19, 3) := by decide +kernel
theorem dX5_isLongFrame_76 : decode cX5_isLongFrame 76 = .ok (.aload_n 0, 1) := by decide +kernel
theorem dX5_isLongFrame_77 : decode cX5_isLongFrame 77 = .ok (.iload_n 1, 1) := by decide +kernel
theorem dX5_isLongFrame_78 : decode cX5_isLongFrame 78 = .ok (.iconst 5, 1) := by decide +kernel
theorem dX5_isLongFrame_79 : decode cX5_isLongFrame 79 = .ok (.iadd, 1) := by decide +kernel
theorem dX5_isLongFrame_80 : decode cX5_isLongFrame 80 = .ok (.invokevirtual 23, 3) := by decide +kernel
theorem dX5_isLongFrame_83 : decode cX5_isLongFrame 83 = .ok (.bipush 22, 2) := by decide +kernel
theorem dX5_isLongFrame_85 : decode cX5_isLongFrame 85 = .ok (.if_icmp .ne 7, 3) := by decide +kernel
theorem dX5_isLongFrame_88 : decode cX5_isLongFrame 88 = .ok (.iconst 1, 1) := by decide +kernel
theorem dX5_isLongFrame_89 : decode cX5_isLongFrame 89 = .ok (.goto 4, 3) := by decide +kernel
theorem dX5_isLongFrame_92 : decode cX5_isLongFrame 92 = .ok (.iconst 0, 1) := by decide +kernel
theorem dX5_isLongFrame_93 : decode cX5_isLongFrame 93 = .ok (.ireturn, 1) := by decide +kernel
theorem dX5_dataSize_0 : decode cX5_dataSize 0 = .ok (.aload_n 0, 1) := by decide +kernel
theorem dX5_dataSize_1 : decode cX5_dataSize 1 = .ok (.getfield 15, 3) := by decide +kernel
theorem dX5_dataSize_4 : decode cX5_dataSize 4 = .ok (.bipush 6, 2) := by decide +kernel
theorem dX5_dataSize_6 : decode cX5_dataSize 6 = .ok (.isub, 1) := by decide +kernel
theorem dX5_dataSize_7 : decode cX5_dataSize 7 = .ok (.iconst 3, 1) := by decide +kernel
theorem dX5_dataSize_8 : decode cX5_dataSize 8 = .ok (.isub, 1) := by decide +kernel
theorem dX5_dataSize_9 : decode cX5_dataSize 9 = .ok (.ireturn, 1) := by decide +kernel
