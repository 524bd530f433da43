section
/-! The instructions of the class, decoded. By program (wip/mkdec.py). -/
theorem dX5_init_0 : decode cX5_init 0 = .ok (.aload_n 0, 1) := by decide +kernel
theorem dX5_init_1 : decode cX5_init 1 = .ok (.invokespecial 3, 3) := by decide +kernel
theorem dX5_init_4 : decode cX5_init 4 = .ok (.aload_n 0, 1) := by decide +kernel
theorem dX5_init_5 : decode cX5_init 5 = .ok (.sipush 300, 3) := by decide +kernel
theorem dX5_init_8 : decode cX5_init 8 = .ok (.newarray .int, 2) := by decide +kernel
theorem dX5_init_10 : decode cX5_init 10 = .ok (.putfield 9, 3) := by decide +kernel
theorem dX5_init_13 : decode cX5_init 13 = .ok (.aload_n 0, 1) := by decide +kernel
theorem dX5_init_14 : decode cX5_init 14 = .ok (.iconst 0, 1) := by decide +kernel
theorem dX5_init_15 : decode cX5_init 15 = .ok (.putfield 15, 3) := by decide +kernel
theorem dX5_init_18 : decode cX5_init 18 = .ok (.return_, 1) := by decide +kernel
theorem dX5_size_0 : decode cX5_size 0 = .ok (.aload_n 0, 1) := by decide +kernel
theorem dX5_size_1 : decode cX5_size 1 = .ok (.getfield 15, 3) := by decide +kernel
theorem dX5_size_4 : decode cX5_size 4 = .ok (.ireturn, 1) := by decide +kernel
theorem dX5_at_0 : decode cX5_at 0 = .ok (.iload_n 1, 1) := by decide +kernel
theorem dX5_at_1 : decode cX5_at 1 = .ok (.ifCond .lt 20, 3) := by decide +kernel
theorem dX5_at_4 : decode cX5_at 4 = .ok (.iload_n 1, 1) := by decide +kernel
theorem dX5_at_5 : decode cX5_at 5 = .ok (.aload_n 0, 1) := by decide +kernel
theorem dX5_at_6 : decode cX5_at 6 = .ok (.getfield 15, 3) := by decide +kernel
theorem dX5_at_9 : decode cX5_at 9 = .ok (.if_icmp .ge 12, 3) := by decide +kernel
theorem dX5_at_12 : decode cX5_at 12 = .ok (.aload_n 0, 1) := by decide +kernel
theorem dX5_at_13 : decode cX5_at 13 = .ok (.getfield 9, 3) := by decide +kernel
theorem dX5_at_16 : decode cX5_at 16 = .ok (.iload_n 1, 1) := by decide +kernel
theorem dX5_at_17 : decode cX5_at 17 = .ok (.iaload, 1) := by decide +kernel
theorem dX5_at_18 : decode cX5_at 18 = .ok (.goto 4, 3) := by decide +kernel
theorem dX5_at_21 : decode cX5_at 21 = .ok (.iconst (-1), 1) := by decide +kernel
theorem dX5_at_22 : decode cX5_at 22 = .ok (.ireturn, 1) := by decide +kernel
theorem dX5_add_0 : decode cX5_add 0 = .ok (.aload_n 0, 1) := by decide +kernel
theorem dX5_add_1 : decode cX5_add 1 = .ok (.getfield 15, 3) := by decide +kernel
theorem dX5_add_4 : decode cX5_add 4 = .ok (.sipush 300, 3) := by decide +kernel
theorem dX5_add_7 : decode cX5_add 7 = .ok (.if_icmp .ge 27, 3) := by decide +kernel
theorem dX5_add_10 : decode cX5_add 10 = .ok (.aload_n 0, 1) := by decide +kernel
theorem dX5_add_11 : decode cX5_add 11 = .ok (.getfield 9, 3) := by decide +kernel
theorem dX5_add_14 : decode cX5_add 14 = .ok (.aload_n 0, 1) := by decide +kernel
theorem dX5_add_15 : decode cX5_add 15 = .ok (.getfield 15, 3) := by decide +kernel
theorem dX5_add_18 : decode cX5_add 18 = .ok (.iload_n 1, 1) := by decide +kernel
theorem dX5_add_19 : decode cX5_add 19 = .ok (.sipush 255, 3) := by decide +kernel
theorem dX5_add_22 : decode cX5_add 22 = .ok (.iand, 1) := by decide +kernel
theorem dX5_add_23 : decode cX5_add 23 = .ok (.iastore, 1) := by decide +kernel
theorem dX5_add_24 : decode cX5_add 24 = .ok (.aload_n 0, 1) := by decide +kernel
theorem dX5_add_25 : decode cX5_add 25 = .ok (.dup, 1) := by decide +kernel
theorem dX5_add_26 : decode cX5_add 26 = .ok (.getfield 15, 3) := by decide +kernel
theorem dX5_add_29 : decode cX5_add 29 = .ok (.iconst 1, 1) := by decide +kernel
theorem dX5_add_30 : decode cX5_add 30 = .ok (.iadd, 1) := by decide +kernel
theorem dX5_add_31 : decode cX5_add 31 = .ok (.putfield 15, 3) := by decide +kernel
theorem dX5_add_34 : decode cX5_add 34 = .ok (.return_, 1) := by decide +kernel
theorem dX5_cutTo_0 : decode cX5_cutTo 0 = .ok (.iload_n 1, 1) := by decide +kernel
theorem dX5_cutTo_1 : decode cX5_cutTo 1 = .ok (.ifCond .lt 16, 3) := by decide +kernel
theorem dX5_cutTo_4 : decode cX5_cutTo 4 = .ok (.iload_n 1, 1) := by decide +kernel
theorem dX5_cutTo_5 : decode cX5_cutTo 5 = .ok (.aload_n 0, 1) := by decide +kernel
theorem dX5_cutTo_6 : decode cX5_cutTo 6 = .ok (.getfield 15, 3) := by decide +kernel
theorem dX5_cutTo_9 : decode cX5_cutTo 9 = .ok (.if_icmp .ge 8, 3) := by decide +kernel
theorem dX5_cutTo_12 : decode cX5_cutTo 12 = .ok (.aload_n 0, 1) := by decide +kernel
theorem dX5_cutTo_13 : decode cX5_cutTo 13 = .ok (.iload_n 1, 1) := by decide +kernel
theorem dX5_cutTo_14 : decode cX5_cutTo 14 = .ok (.putfield 15, 3) := by decide +kernel
theorem dX5_cutTo_17 : decode cX5_cutTo 17 = .ok (.return_, 1) := by decide +kernel
theorem dX5_become_0 : decode cX5_become 0 = .ok (.aload_n 0, 1) := by decide +kernel
theorem dX5_become_1 : decode cX5_become 1 = .ok (.iconst 0, 1) := by decide +kernel
theorem dX5_become_2 : decode cX5_become 2 = .ok (.putfield 15, 3) := by decide +kernel
theorem dX5_become_5 : decode cX5_become 5 = .ok (.iconst 0, 1) := by decide +kernel
theorem dX5_become_6 : decode cX5_become 6 = .ok (.istore_n 2, 1) := by decide +kernel
theorem dX5_become_7 : decode cX5_become 7 = .ok (.iload_n 2, 1) := by decide +kernel
theorem dX5_become_8 : decode cX5_become 8 = .ok (.aload_n 1, 1) := by decide +kernel
theorem dX5_become_9 : decode cX5_become 9 = .ok (.getfield 15, 3) := by decide +kernel
theorem dX5_become_12 : decode cX5_become 12 = .ok (.if_icmp .ge 19, 3) := by decide +kernel
theorem dX5_become_15 : decode cX5_become 15 = .ok (.aload_n 0, 1) := by decide +kernel
theorem dX5_become_16 : decode cX5_become 16 = .ok (.aload_n 1, 1) := by decide +kernel
theorem dX5_become_17 : decode cX5_become 17 = .ok (.getfield 9, 3) := by decide +kernel
theorem dX5_become_20 : decode cX5_become 20 = .ok (.iload_n 2, 1) := by decide +kernel
theorem dX5_become_21 : decode cX5_become 21 = .ok (.iaload, 1) := by decide +kernel
theorem dX5_become_22 : decode cX5_become 22 = .ok (.invokevirtual 19, 3) := by decide +kernel
theorem dX5_become_25 : decode cX5_become 25 = .ok (.iinc 2 1, 3) := by decide +kernel
theorem dX5_become_28 : decode cX5_become 28 = .ok (.goto (-21), 3) := by decide +kernel
theorem dX5_become_31 : decode cX5_become 31 = .ok (.return_, 1) := by decide +kernel
theorem dX5_becomeSingle_0 : decode cX5_becomeSingle 0 = .ok (.aload_n 0, 1) := by decide +kernel
theorem dX5_becomeSingle_1 : decode cX5_becomeSingle 1 = .ok (.iconst 0, 1) := by decide +kernel
theorem dX5_becomeSingle_2 : decode cX5_becomeSingle 2 = .ok (.putfield 15, 3) := by decide +kernel
theorem dX5_becomeSingle_5 : decode cX5_becomeSingle 5 = .ok (.aload_n 0, 1) := by decide +kernel
theorem dX5_becomeSingle_6 : decode cX5_becomeSingle 6 = .ok (.sipush 229, 3) := by decide +kernel
theorem dX5_becomeSingle_9 : decode cX5_becomeSingle 9 = .ok (.invokevirtual 19, 3) := by decide +kernel
theorem dX5_becomeSingle_12 : decode cX5_becomeSingle 12 = .ok (.return_, 1) := by decide +kernel
theorem dX5_addAddress_0 : decode cX5_addAddress 0 = .ok (.iconst 0, 1) := by decide +kernel
theorem dX5_addAddress_1 : decode cX5_addAddress 1 = .ok (.istore_n 3, 1) := by decide +kernel
theorem dX5_addAddress_2 : decode cX5_addAddress 2 = .ok (.iload_n 3, 1) := by decide +kernel
theorem dX5_addAddress_3 : decode cX5_addAddress 3 = .ok (.bipush 8, 2) := by decide +kernel
theorem dX5_addAddress_5 : decode cX5_addAddress 5 = .ok (.if_icmp .ge 20, 3) := by decide +kernel
theorem dX5_addAddress_8 : decode cX5_addAddress 8 = .ok (.aload_n 0, 1) := by decide +kernel
theorem dX5_addAddress_9 : decode cX5_addAddress 9 = .ok (.lload_n 1, 1) := by decide +kernel
theorem dX5_addAddress_10 : decode cX5_addAddress 10 = .ok (.bipush 8, 2) := by decide +kernel
theorem dX5_addAddress_12 : decode cX5_addAddress 12 = .ok (.iload_n 3, 1) := by decide +kernel
theorem dX5_addAddress_13 : decode cX5_addAddress 13 = .ok (.imul, 1) := by decide +kernel
theorem dX5_addAddress_14 : decode cX5_addAddress 14 = .ok (.lushr, 1) := by decide +kernel
theorem dX5_addAddress_15 : decode cX5_addAddress 15 = .ok (.l2i, 1) := by decide +kernel
theorem dX5_addAddress_16 : decode cX5_addAddress 16 = .ok (.invokevirtual 19, 3) := by decide +kernel
theorem dX5_addAddress_19 : decode cX5_addAddress 19 = .ok (.iinc 3 1, 3) := by decide +kernel
theorem dX5_addAddress_22 : decode cX5_addAddress 22 = .ok (.goto (-20), 3) := by decide +kernel
theorem dX5_addAddress_25 : decode cX5_addAddress 25 = .ok (.return_, 1) := by decide +kernel
theorem dX5_addressAt_0 : decode cX5_addressAt 0 = .ok (.lconst 0, 1) := by decide +kernel
theorem dX5_addressAt_1 : decode cX5_addressAt 1 = .ok (.lstore_n 2, 1) := by decide +kernel
theorem dX5_addressAt_2 : decode cX5_addressAt 2 = .ok (.bipush 7, 2) := by decide +kernel
theorem dX5_addressAt_4 : decode cX5_addressAt 4 = .ok (.istore 4, 2) := by decide +kernel
theorem dX5_addressAt_6 : decode cX5_addressAt 6 = .ok (.iload 4, 2) := by decide +kernel
theorem dX5_addressAt_8 : decode cX5_addressAt 8 = .ok (.ifCond .lt 28, 3) := by decide +kernel
theorem dX5_addressAt_11 : decode cX5_addressAt 11 = .ok (.lload_n 2, 1) := by decide +kernel
theorem dX5_addressAt_12 : decode cX5_addressAt 12 = .ok (.bipush 8, 2) := by decide +kernel
theorem dX5_addressAt_14 : decode cX5_addressAt 14 = .ok (.lshl, 1) := by decide +kernel
theorem dX5_addressAt_15 : decode cX5_addressAt 15 = .ok (.aload_n 0, 1) := by decide +kernel
theorem dX5_addressAt_16 : decode cX5_addressAt 16 = .ok (.iload_n 1, 1) := by decide +kernel
theorem dX5_addressAt_17 : decode cX5_addressAt 17 = .ok (.iload 4, 2) := by decide +kernel
theorem dX5_addressAt_19 : decode cX5_addressAt 19 = .ok (.iadd, 1) := by decide +kernel
theorem dX5_addressAt_20 : decode cX5_addressAt 20 = .ok (.invokevirtual 23, 3) := by decide +kernel
theorem dX5_addressAt_23 : decode cX5_addressAt 23 = .ok (.sipush 255, 3) := by decide +kernel
theorem dX5_addressAt_26 : decode cX5_addressAt 26 = .ok (.iand, 1) := by decide +kernel
theorem dX5_addressAt_27 : decode cX5_addressAt 27 = .ok (.i2l, 1) := by decide +kernel
theorem dX5_addressAt_28 : decode cX5_addressAt 28 = .ok (.lor, 1) := by decide +kernel
theorem dX5_addressAt_29 : decode cX5_addressAt 29 = .ok (.lstore_n 2, 1) := by decide +kernel
theorem dX5_addressAt_30 : decode cX5_addressAt 30 = .ok (.iinc 4 (-1), 3) := by decide +kernel
theorem dX5_addressAt_33 : decode cX5_addressAt 33 = .ok (.goto (-27), 3) := by decide +kernel
theorem dX5_addressAt_36 : decode cX5_addressAt 36 = .ok (.lload_n 2, 1) := by decide +kernel
theorem dX5_addressAt_37 : decode cX5_addressAt 37 = .ok (.lreturn, 1) := by decide +kernel
theorem dX5_sum_0 : decode cX5_sum 0 = .ok (.iconst 0, 1) := by decide +kernel
theorem dX5_sum_1 : decode cX5_sum 1 = .ok (.istore_n 3, 1) := by decide +kernel
theorem dX5_sum_2 : decode cX5_sum 2 = .ok (.iload_n 1, 1) := by decide +kernel
theorem dX5_sum_3 : decode cX5_sum 3 = .ok (.istore 4, 2) := by decide +kernel
theorem dX5_sum_5 : decode cX5_sum 5 = .ok (.iload 4, 2) := by decide +kernel
theorem dX5_sum_7 : decode cX5_sum 7 = .ok (.iload_n 2, 1) := by decide +kernel
theorem dX5_sum_8 : decode cX5_sum 8 = .ok (.if_icmp .ge 27, 3) := by decide +kernel
theorem dX5_sum_11 : decode cX5_sum 11 = .ok (.iload 4, 2) := by decide +kernel
theorem dX5_sum_13 : decode cX5_sum 13 = .ok (.aload_n 0, 1) := by decide +kernel
theorem dX5_sum_14 : decode cX5_sum 14 = .ok (.getfield 15, 3) := by decide +kernel
theorem dX5_sum_17 : decode cX5_sum 17 = .ok (.if_icmp .ge 18, 3) := by decide +kernel
theorem dX5_sum_20 : decode cX5_sum 20 = .ok (.iload_n 3, 1) := by decide +kernel
theorem dX5_sum_21 : decode cX5_sum 21 = .ok (.aload_n 0, 1) := by decide +kernel
theorem dX5_sum_22 : decode cX5_sum 22 = .ok (.iload 4, 2) := by decide +kernel
theorem dX5_sum_24 : decode cX5_sum 24 = .ok (.invokevirtual 23, 3) := by decide +kernel
theorem dX5_sum_27 : decode cX5_sum 27 = .ok (.iadd, 1) := by decide +kernel
theorem dX5_sum_28 : decode cX5_sum 28 = .ok (.istore_n 3, 1) := by decide +kernel
theorem dX5_sum_29 : decode cX5_sum 29 = .ok (.iinc 4 1, 3) := by decide +kernel
theorem dX5_sum_32 : decode cX5_sum 32 = .ok (.goto (-27), 3) := by decide +kernel
theorem dX5_sum_35 : decode cX5_sum 35 = .ok (.iload_n 3, 1) := by decide +kernel
theorem dX5_sum_36 : decode cX5_sum 36 = .ok (.sipush 255, 3) := by decide +kernel
theorem dX5_sum_39 : decode cX5_sum 39 = .ok (.iand, 1) := by decide +kernel
theorem dX5_sum_40 : decode cX5_sum 40 = .ok (.ireturn, 1) := by decide +kernel
theorem dX5_isShortFrame_0 : decode cX5_isShortFrame 0 = .ok (.aload_n 0, 1) := by decide +kernel
theorem dX5_isShortFrame_1 : decode cX5_isShortFrame 1 = .ok (.getfield 15, 3) := by decide +kernel
theorem dX5_isShortFrame_4 : decode cX5_isShortFrame 4 = .ok (.iconst 5, 1) := by decide +kernel
theorem dX5_isShortFrame_5 : decode cX5_isShortFrame 5 = .ok (.if_icmp .ne 41, 3) := by decide +kernel
theorem dX5_isShortFrame_8 : decode cX5_isShortFrame 8 = .ok (.aload_n 0, 1) := by decide +kernel
theorem dX5_isShortFrame_9 : decode cX5_isShortFrame 9 = .ok (.iconst 0, 1) := by decide +kernel
theorem dX5_isShortFrame_10 : decode cX5_isShortFrame 10 = .ok (.invokevirtual 23, 3) := by decide +kernel
theorem dX5_isShortFrame_13 : decode cX5_isShortFrame 13 = .ok (.bipush 16, 2) := by decide +kernel
theorem dX5_isShortFrame_15 : decode cX5_isShortFrame 15 = .ok (.if_icmp .ne 31, 3) := by decide +kernel
theorem dX5_isShortFrame_18 : decode cX5_isShortFrame 18 = .ok (.aload_n 0, 1) := by decide +kernel
theorem dX5_isShortFrame_19 : decode cX5_isShortFrame 19 = .ok (.iconst 3, 1) := by decide +kernel
theorem dX5_isShortFrame_20 : decode cX5_isShortFrame 20 = .ok (.invokevirtual 23, 3) := by decide +kernel
theorem dX5_isShortFrame_23 : decode cX5_isShortFrame 23 = .ok (.aload_n 0, 1) := by decide +kernel
theorem dX5_isShortFrame_24 : decode cX5_isShortFrame 24 = .ok (.iconst 1, 1) := by decide +kernel
theorem dX5_isShortFrame_25 : decode cX5_isShortFrame 25 = .ok (.iconst 3, 1) := by decide +kernel
theorem dX5_isShortFrame_26 : decode cX5_isShortFrame 26 = .ok (.invokevirtual 27, 3) := by decide +kernel
theorem dX5_isShortFrame_29 : decode cX5_isShortFrame 29 = .ok (.if_icmp .ne 17, 3) := by decide +kernel
theorem dX5_isShortFrame_32 : decode cX5_isShortFrame 32 = .ok (.aload_n 0, 1) := by decide +kernel
theorem dX5_isShortFrame_33 : decode cX5_isShortFrame 33 = .ok (.iconst 4, 1) := by decide +kernel
theorem dX5_isShortFrame_34 : decode cX5_isShortFrame 34 = .ok (.invokevirtual 23, 3) := by decide +kernel
theorem dX5_isShortFrame_37 : decode cX5_isShortFrame 37 = .ok (.bipush 22, 2) := by decide +kernel
theorem dX5_isShortFrame_39 : decode cX5_isShortFrame 39 = .ok (.if_icmp .ne 7, 3) := by decide +kernel
theorem dX5_isShortFrame_42 : decode cX5_isShortFrame 42 = .ok (.iconst 1, 1) := by decide +kernel
theorem dX5_isShortFrame_43 : decode cX5_isShortFrame 43 = .ok (.goto 4, 3) := by decide +kernel
theorem dX5_isShortFrame_46 : decode cX5_isShortFrame 46 = .ok (.iconst 0, 1) := by decide +kernel
theorem dX5_isShortFrame_47 : decode cX5_isShortFrame 47 = .ok (.ireturn, 1) := by decide +kernel
theorem dX5_isLongFrame_0 : decode cX5_isLongFrame 0 = .ok (.aload_n 0, 1) := by decide +kernel
theorem dX5_isLongFrame_1 : decode cX5_isLongFrame 1 = .ok (.iconst 1, 1) := by decide +kernel
theorem dX5_isLongFrame_2 : decode cX5_isLongFrame 2 = .ok (.invokevirtual 23, 3) := by decide +kernel
theorem dX5_isLongFrame_5 : decode cX5_isLongFrame 5 = .ok (.istore_n 1, 1) := by decide +kernel
theorem dX5_isLongFrame_6 : decode cX5_isLongFrame 6 = .ok (.iload_n 1, 1) := by decide +kernel
theorem dX5_isLongFrame_7 : decode cX5_isLongFrame 7 = .ok (.iconst 3, 1) := by decide +kernel
theorem dX5_isLongFrame_8 : decode cX5_isLongFrame 8 = .ok (.if_icmp .lt 84, 3) := by decide +kernel
theorem dX5_isLongFrame_11 : decode cX5_isLongFrame 11 = .ok (.iload_n 1, 1) := by decide +kernel
theorem dX5_isLongFrame_12 : decode cX5_isLongFrame 12 = .ok (.sipush 252, 3) := by decide +kernel
theorem dX5_isLongFrame_15 : decode cX5_isLongFrame 15 = .ok (.if_icmp .gt 77, 3) := by decide +kernel
theorem dX5_isLongFrame_18 : decode cX5_isLongFrame 18 = .ok (.aload_n 0, 1) := by decide +kernel
theorem dX5_isLongFrame_19 : decode cX5_isLongFrame 19 = .ok (.getfield 15, 3) := by decide +kernel
theorem dX5_isLongFrame_22 : decode cX5_isLongFrame 22 = .ok (.iload_n 1, 1) := by decide +kernel
theorem dX5_isLongFrame_23 : decode cX5_isLongFrame 23 = .ok (.bipush 6, 2) := by decide +kernel
theorem dX5_isLongFrame_25 : decode cX5_isLongFrame 25 = .ok (.iadd, 1) := by decide +kernel
theorem dX5_isLongFrame_26 : decode cX5_isLongFrame 26 = .ok (.if_icmp .ne 66, 3) := by decide +kernel
theorem dX5_isLongFrame_29 : decode cX5_isLongFrame 29 = .ok (.aload_n 0, 1) := by decide +kernel
theorem dX5_isLongFrame_30 : decode cX5_isLongFrame 30 = .ok (.iconst 0, 1) := by decide +kernel
theorem dX5_isLongFrame_31 : decode cX5_isLongFrame 31 = .ok (.invokevirtual 23, 3) := by decide +kernel
theorem dX5_isLongFrame_34 : decode cX5_isLongFrame 34 = .ok (.bipush 104, 2) := by decide +kernel
theorem dX5_isLongFrame_36 : decode cX5_isLongFrame 36 = .ok (.if_icmp .ne 56, 3) := by decide +kernel
theorem dX5_isLongFrame_39 : decode cX5_isLongFrame 39 = .ok (.aload_n 0, 1) := by decide +kernel
theorem dX5_isLongFrame_40 : decode cX5_isLongFrame 40 = .ok (.iconst 2, 1) := by decide +kernel
theorem dX5_isLongFrame_41 : decode cX5_isLongFrame 41 = .ok (.invokevirtual 23, 3) := by decide +kernel
theorem dX5_isLongFrame_44 : decode cX5_isLongFrame 44 = .ok (.iload_n 1, 1) := by decide +kernel
theorem dX5_isLongFrame_45 : decode cX5_isLongFrame 45 = .ok (.if_icmp .ne 47, 3) := by decide +kernel
theorem dX5_isLongFrame_48 : decode cX5_isLongFrame 48 = .ok (.aload_n 0, 1) := by decide +kernel
theorem dX5_isLongFrame_49 : decode cX5_isLongFrame 49 = .ok (.iconst 3, 1) := by decide +kernel
theorem dX5_isLongFrame_50 : decode cX5_isLongFrame 50 = .ok (.invokevirtual 23, 3) := by decide +kernel
theorem dX5_isLongFrame_53 : decode cX5_isLongFrame 53 = .ok (.bipush 104, 2) := by decide +kernel
theorem dX5_isLongFrame_55 : decode cX5_isLongFrame 55 = .ok (.if_icmp .ne 37, 3) := by decide +kernel
theorem dX5_isLongFrame_58 : decode cX5_isLongFrame 58 = .ok (.aload_n 0, 1) := by decide +kernel
theorem dX5_isLongFrame_59 : decode cX5_isLongFrame 59 = .ok (.iload_n 1, 1) := by decide +kernel
theorem dX5_isLongFrame_60 : decode cX5_isLongFrame 60 = .ok (.iconst 4, 1) := by decide +kernel
theorem dX5_isLongFrame_61 : decode cX5_isLongFrame 61 = .ok (.iadd, 1) := by decide +kernel
theorem dX5_isLongFrame_62 : decode cX5_isLongFrame 62 = .ok (.invokevirtual 23, 3) := by decide +kernel
theorem dX5_isLongFrame_65 : decode cX5_isLongFrame 65 = .ok (.aload_n 0, 1) := by decide +kernel
theorem dX5_isLongFrame_66 : decode cX5_isLongFrame 66 = .ok (.iconst 4, 1) := by decide +kernel
theorem dX5_isLongFrame_67 : decode cX5_isLongFrame 67 = .ok (.iload_n 1, 1) := by decide +kernel
theorem dX5_isLongFrame_68 : decode cX5_isLongFrame 68 = .ok (.iconst 4, 1) := by decide +kernel
theorem dX5_isLongFrame_69 : decode cX5_isLongFrame 69 = .ok (.iadd, 1) := by decide +kernel
theorem dX5_isLongFrame_70 : decode cX5_isLongFrame 70 = .ok (.invokevirtual 27, 3) := by decide +kernel
theorem dX5_isLongFrame_73 : decode cX5_isLongFrame 73 = .ok (.if_icmp .ne 19, 3) := by decide +kernel
theorem dX5_isLongFrame_76 : decode cX5_isLongFrame 76 = .ok (.aload_n 0, 1) := by decide +kernel
theorem dX5_isLongFrame_77 : decode cX5_isLongFrame 77 = .ok (.iload_n 1, 1) := by decide +kernel
theorem dX5_isLongFrame_78 : decode cX5_isLongFrame 78 = .ok (.iconst 5, 1) := by decide +kernel
theorem dX5_isLongFrame_79 : decode cX5_isLongFrame 79 = .ok (.iadd, 1) := by decide +kernel
theorem dX5_isLongFrame_80 : decode cX5_isLongFrame 80 = .ok (.invokevirtual 23, 3) := by decide +kernel
theorem dX5_isLongFrame_83 : decode cX5_isLongFrame 83 = .ok (.bipush 22, 2) := by decide +kernel
theorem dX5_isLongFrame_85 : decode cX5_isLongFrame 85 = .ok (.if_icmp .ne 7, 3) := by decide +kernel
theorem dX5_isLongFrame_88 : decode cX5_isLongFrame 88 = .ok (.iconst 1, 1) := by decide +kernel
theorem dX5_isLongFrame_89 : decode cX5_isLongFrame 89 = .ok (.goto 4, 3) := by decide +kernel
theorem dX5_isLongFrame_92 : decode cX5_isLongFrame 92 = .ok (.iconst 0, 1) := by decide +kernel
theorem dX5_isLongFrame_93 : decode cX5_isLongFrame 93 = .ok (.ireturn, 1) := by decide +kernel
theorem dX5_dataSize_0 : decode cX5_dataSize 0 = .ok (.aload_n 0, 1) := by decide +kernel
theorem dX5_dataSize_1 : decode cX5_dataSize 1 = .ok (.getfield 15, 3) := by decide +kernel
theorem dX5_dataSize_4 : decode cX5_dataSize 4 = .ok (.bipush 6, 2) := by decide +kernel
theorem dX5_dataSize_6 : decode cX5_dataSize 6 = .ok (.isub, 1) := by decide +kernel
theorem dX5_dataSize_7 : decode cX5_dataSize 7 = .ok (.iconst 3, 1) := by decide +kernel
theorem dX5_dataSize_8 : decode cX5_dataSize 8 = .ok (.isub, 1) := by decide +kernel
theorem dX5_dataSize_9 : decode cX5_dataSize 9 = .ok (.ireturn, 1) := by decide +kernel
end
section
/-! The class: contracts that tell the heap outright; Row, its small methods. -/
def Wc (w : Wd) (c : Nat → ClassId) : Prop := w.ok ∧ w.cl = vwCl ∧ (∃ t : Nat, w.tys[t]? = some (c 0, FieldType.int)) ∧ (∃ t : Nat, w.tys[t]? = some (c 1, FieldType.long)) ∧ ∃ t : Nat, w.tys[t]? = some (c 2, FieldType.boolean)
def Cty (z : Fx) (c : Nat → ClassId) : Prop := z.cl = vwCl ∧ (∃ t : Nat, z.tys[t]? = some (c 0, FieldType.int)) ∧ (∃ t : Nat, z.tys[t]? = some (c 1, FieldType.long)) ∧ ∃ t : Nat, z.tys[t]? = some (c 2, FieldType.boolean)
abbrev EQ (h : PH) : PH → Prop := fun g => g = h
abbrev PQ (r : Option Value) (h : PH) : Option Value → PH → Prop := fun q g => q = r ∧ g = h
/-- from the heap h: it returns r, and the heap is h' -/
def TC (w : Wd) (y : MethodName) (cc : ByteArray) (n : Nat) (rt : Option FieldType) (lvl : Nat) (as : List Value) (h : PH) (r : Option Value) (h' : PH) : Prop := T w gw y cc n rt lvl (40 * lvl) 0 0 as (EQ h) (PQ r h')
section Rows
variable {z : Fx} {own : String} {cc : ByteArray} {kc ks pc : Nat} {L : List (Option Value)} {st : List Value} {w : Wd} {c : Nat → ClassId} {y : MethodName} {rt : Option FieldType} {lvl : Nat} {h h' : PH} {r : Option Value}
theorem TC.intro {n : Nat} {as : List Value} (hW : Wc w c) (hy : y.cls = own) (hp : plainName own = true) (hlen : (lg_sl as).length ≤ n)
    (k : ∀ z : Fx, Cx z own cc gw → Cty z c → Ct z w gw y rt lvl (40 * lvl) (PQ r h') → z.nL = n → X z 0 0 (EQ h) 0 (lent n as) []) : TC w y cc n rt lvl as h r h' := by
  refine T.intro (by rw [hy]; exact hp) hlen (fun z C E e1 e2 e3 => ?_)
  rw [hy] at C
  refine k z C ?_ E e1
  obtain ⟨q1, q2, q3, q4, q5, -⟩ := E
  obtain ⟨r1, r3, r4, r5, r6⟩ := hW
  exact ⟨by rw [q3]; exact r3, by rw [q4]; exact r4, by rw [q4]; exact r5, by rw [q4]; exact r6⟩
theorem e_get (C : Cx z own cc gw) (Y : Cty z c) {Cn : String} {Tu : u_T} {N ci index : Nat} {ty : Nat → FieldType} (kd : Kd vwCl gw ci Cn Tu N ty) (k : Nat) (hk : k < N) (wf : Cond.fieldLink own index (Tu k).1 (Tu k).2.1 (Tu k).2.2.1 ∈ gw) (d : decode cc pc = .ok (.getfield index, 3)) {a : Nat} {fs : List Value} {v : Value} (g : h a = some (.inr (ci, fs))) (gv : fs[k]? = some v)
    (kk : X z kc ks (EQ h) (pc + 3) L (v :: st)) : X z kc ks (EQ h) pc L (.ref a :: st) :=
  x_get C (by rw [Y.1]; exact kd) k hk wf d (fun q e => by rw [e]; exact g) gv kk
theorem e_put (C : Cx z own cc gw) (Y : Cty z c) {Cn : String} {Tu : u_T} {N ci index : Nat} {ty : Nat → FieldType} (kd : Kd vwCl gw ci Cn Tu N ty) (k : Nat) (hk : k < N) (hfin : (Tu k).2.2.2 = false) (wf : Cond.fieldLink own index (Tu k).1 (Tu k).2.1 (Tu k).2.2.1 ∈ gw) (d : decode cc pc = .ok (.putfield index, 3)) {a : Nat} {fs : List Value} {v : Value} {h1 : PH} (g : h a = some (.inr (ci, fs))) (gl : k < fs.length) (hn : narrow (ty k) v = v) (hf : fits (ty k) v = true) (e1 : hs h a (.inr (ci, fs.set k v)) = h1)
    (kk : X z kc ks (EQ h1) (pc + 3) L st) : X z kc ks (EQ h) pc L (v :: .ref a :: st) :=
  x_put C (by rw [Y.1]; exact kd) k hk hfin wf d (fun q e => by rw [e]; exact g) gl hn hf (fun q e => by rw [e]; exact e1) kk
theorem e_ild (C : Cx z own cc gw) (Y : Cty z c) (d : decode cc pc = .ok (.iaload, 1)) {a n : Nat} {f : Nat → Int32} {i : Int32} (g : h a = some (.inl (c 0, n, .inl f))) (gi : vp_in i n)
    (kk : X z kc ks (EQ h) (pc + 1) L (.int (f i.toNatClampNeg) :: st)) : X z kc ks (EQ h) pc L (.int i :: .ref a :: st) := by
  obtain ⟨t, ht⟩ := Y.2.1
  exact x_iald C ht d (fun q e => by rw [e]; exact g) gi kk
theorem e_ist (C : Cx z own cc gw) (Y : Cty z c) (d : decode cc pc = .ok (.iastore, 1)) {a n : Nat} {f : Nat → Int32} {i x : Int32} {h1 : PH} (g : h a = some (.inl (c 0, n, .inl f))) (gi : vp_in i n) (e1 : hs h a (.inl (c 0, n, .inl (upd f i.toNatClampNeg x))) = h1)
    (kk : X z kc ks (EQ h1) (pc + 1) L st) : X z kc ks (EQ h) pc L (.int x :: .int i :: .ref a :: st) := by
  obtain ⟨t, ht⟩ := Y.2.1
  exact x_iast C ht d (fun q e => by rw [e]; exact g) gi (fun q e => by rw [e]; exact e1) kk
theorem e_iret (C : Cx z own cc gw) (E : Ct z w gw y (some .int) lvl (40 * lvl) (PQ r h')) (d : decode cc pc = .ok (.ireturn, 1)) {v : Int32} (g : some (.int v) = r) (g' : h = h') : X z kc ks (EQ h) pc L [.int v] := x_iret C E d (fun q e => ⟨g, e.trans g'⟩)
theorem e_zret (C : Cx z own cc gw) (E : Ct z w gw y (some .boolean) lvl (40 * lvl) (PQ r h')) (d : decode cc pc = .ok (.ireturn, 1)) {v : Int32} (hn : narrow .boolean (.int v) = .int v) (g : some (.int v) = r) (g' : h = h') : X z kc ks (EQ h) pc L [.int v] := x_zret C E d hn (fun q e => ⟨g, e.trans g'⟩)
theorem e_lret (C : Cx z own cc gw) (E : Ct z w gw y (some .long) lvl (40 * lvl) (PQ r h')) (d : decode cc pc = .ok (.lreturn, 1)) {v : Int64} (g : some (.long v) = r) (g' : h = h') : X z kc ks (EQ h) pc L [.long v] := x_lret C E d (fun q e => ⟨g, e.trans g'⟩)
theorem e_vret (C : Cx z own cc gw) (E : Ct z w gw y none lvl (40 * lvl) (PQ r h')) (d : decode cc pc = .ok (.return_, 1)) (g : none = r) (g' : h = h') : X z kc ks (EQ h) pc L [] := x_vret C E d (fun q e => ⟨g, e.trans g'⟩)
theorem e_callV (C : Cx z own cc gw) (Y : Cty z c) (hW : Wc w c) (E : Ct z w gw y rt lvl (40 * lvl) (PQ r h')) {y' : MethodName} {cc' : ByteArray} {n' np index lvl' ci b N : Nat} {rt' : Option FieldType} {As stk fs : List Value} {r1 : Option Value} {h1 : PH} {Tu : u_T}
    (Mc : TC w y' cc' n' rt' lvl' (.ref b :: As) h r1 h1) (md : Md gw y' cc' n' rt' np) (wi : Cond.instanceMethod y' ∈ gw) (wse : Cond.selects y'.cls y' y' ∈ gw) (wl : Cond.methodLink own index y' ∈ gw) (d : decode cc pc = .ok (.invokevirtual index, 3)) (hn : As.length = np) (hf : lvl' < lvl) (hlo : n' ≤ 21)
    (gb : h b = some (.inr (ci, fs))) (hcl : vwCl[ci]? = some (y'.cls, Tu, N)) (hst : stk = As.reverse ++ .ref b :: st) (hcat : (st.map fun v => v.category).sum ≤ 8)
    (k : X z kc ks (EQ h1) (pc + 3) L (r1.toList ++ st)) : X z kc ks (EQ h) pc L stk :=
  x_callV (mc' := 0) (ms' := 0) C E hW.1 gw_good Mc md wi wse wl d hn (by omega) (by omega) (fun q e => by rw [e]; exact gb) (by rw [Y.1]; exact hcl) hst hcat (fun q => X.pure (p := q = r1) (fun _ g => g.1) (fun g => by subst g; exact X.heap k (fun _ g2 => g2.2)))
end Rows
/-- a Row at p, its array at q -/
def RW (c : Nat → ClassId) (h : PH) (p q : Nat) (f : Nat → Int32) (n : Nat) : Prop := p ≠ q ∧ h p = some (.inr (5, [.ref q, .int (nI n)])) ∧ h q = some (.inl (c 0, 300, .inl f)) ∧ n ≤ 300
def rowh (c : Nat → ClassId) (h : PH) (p q : Nat) (f : Nat → Int32) (n : Nat) : PH := hs (hs h q (.inl (c 0, 300, .inl f))) p (.inr (5, [.ref q, .int (nI n)]))
theorem hs_same {h : PH} {a : Nat} {e : va_E} (g : h a = some e) : hs h a e = h := by
  funext x
  by_cases e1 : x = a
  · subst e1; rw [hs_self]; exact g.symm
  · rw [hs_ne e1]
theorem hs_hs (h : PH) (a : Nat) (e e' : va_E) : hs (hs h a e) a e' = hs h a e' := by
  funext x
  by_cases e1 : x = a
  · subst e1; rw [hs_self, hs_self]
  · rw [hs_ne e1, hs_ne e1, hs_ne e1]
theorem hs_comm (h : PH) {a b : Nat} (n : a ≠ b) (e e' : va_E) : hs (hs h a e) b e' = hs (hs h b e') a e := by
  funext x
  by_cases e1 : x = b
  · subst e1; rw [hs_self, hs_ne (Ne.symm n), hs_self]
  · rw [hs_ne e1]
    by_cases e2 : x = a
    · subst e2; rw [hs_self, hs_self]
    · rw [hs_ne e2, hs_ne e2, hs_ne e1]
theorem RW.same {c : Nat → ClassId} {h : PH} {p q n : Nat} {f : Nat → Int32} (g : RW c h p q f n) : rowh c h p q f n = h := by
  unfold rowh
  rw [hs_same g.2.2.1, hs_same g.2.1]
theorem rw_p {c : Nat → ClassId} {h : PH} {p q n : Nat} {f : Nat → Int32} : rowh c h p q f n p = some (.inr (5, [.ref q, .int (nI n)])) := hs_self ..
theorem rw_q {c : Nat → ClassId} {h : PH} {p q n : Nat} {f : Nat → Int32} (n0 : p ≠ q) : rowh c h p q f n q = some (.inl (c 0, 300, .inl f)) := by
  unfold rowh
  rw [hs_ne (Ne.symm n0), hs_self]
theorem rw_ne {c : Nat → ClassId} {h : PH} {p q n x : Nat} {f : Nat → Int32} (hp : x ≠ p) (hq : x ≠ q) : rowh c h p q f n x = h x := by
  unfold rowh
  rw [hs_ne hp, hs_ne hq]
theorem RW.of {c : Nat → ClassId} {h : PH} {p q n : Nat} {f : Nat → Int32} (n0 : p ≠ q) (hn : n ≤ 300) : RW c (rowh c h p q f n) p q f n := ⟨n0, rw_p, rw_q n0, hn⟩
theorem rw_rw {c : Nat → ClassId} {h : PH} {p q n m : Nat} {f g : Nat → Int32} (n0 : p ≠ q) : rowh c (rowh c h p q f n) p q g m = rowh c h p q g m := by
  unfold rowh
  rw [hs_comm _ n0, hs_hs, hs_hs, hs_comm _ (Ne.symm n0)]
def rAt (f : Nat → Int32) (n : Nat) (i : Int32) : Int32 := if (0 : Int32) ≤ i ∧ i < nI n then f i.toNatClampNeg else -1
section Row
variable {w : Wd} {c : Nat → ClassId} {h : PH} {p q n : Nat} {f : Nat → Int32}
theorem r_size (hW : Wc w c) (R : RW c h p q f n) : TC w yX5_size cX5_size 1 (some .int) 0 [.ref p] h (some (.int (nI n))) h := by
  refine TC.intro hW rfl (by decide +kernel) (Nat.le_of_ble_eq_true rfl) (fun z C Y E hn => ?_)
  refine x_aload_n C dX5_size_0 rfl ?_
  refine e_get C Y kd_X5 1 (by decide) wf_X5_15 dX5_size_1 R.2.1 rfl ?_
  exact e_iret C E dX5_size_4 rfl rfl
theorem r_at (hW : Wc w c) (R : RW c h p q f n) (i : Int32) : TC w yX5_at cX5_at 2 (some .int) 0 [.ref p, .int i] h (some (.int (rAt f n i))) h := by
  refine TC.intro hW rfl (by decide +kernel) (Nat.le_of_ble_eq_true rfl) (fun z C Y E hn => ?_)
  unfold rAt at E
  refine x_iload_n C dX5_at_0 rfl ?_
  refine x_if_lt (tgt := 21) C dX5_at_1 (by decide) (fun c1 => ?_) (fun c1 => ?_)
  · refine x_iconst (v := -1) C dX5_at_21 (by decide) ?_
    exact e_iret C E dX5_at_22 (by rw [if_neg (fun g => absurd g.1 (Int32.not_le.mpr c1))]) rfl
  · refine x_iload_n C dX5_at_4 rfl ?_
    refine x_aload_n C dX5_at_5 rfl ?_
    refine e_get C Y kd_X5 1 (by decide) wf_X5_15 dX5_at_6 R.2.1 rfl ?_
    refine x_icmp_ge (tgt := 21) C dX5_at_9 (by decide) (fun c2 => ?_) (fun c2 => ?_)
    · refine x_iconst (v := -1) C dX5_at_21 (by decide) ?_
      exact e_iret C E dX5_at_22 (by rw [if_neg (fun g => absurd g.2 (Int32.not_lt.mpr c2))]) rfl
    · have g0 : (0 : Int32) ≤ i := Int32.not_lt.mp c1
      have g1 : i < nI n := Int32.not_le.mp c2
      refine x_aload_n C dX5_at_12 rfl ?_
      refine e_get C Y kd_X5 0 (by decide) wf_X5_9 dX5_at_13 R.2.1 rfl ?_
      refine x_iload_n C dX5_at_16 rfl ?_
      refine e_ild C Y dX5_at_17 R.2.2.1 ?_ ?_
      · obtain ⟨j, hj, rfl⟩ := nI_of c1
        have := (nI_ltI hj (by have := R.2.2.2; omega)).mp g1
        exact vp_in_nI (by have := R.2.2.2; omega) (by decide)
      · refine x_goto (tgt := 22) C dX5_at_18 (by decide) ?_
        exact e_iret C E dX5_at_22 (by rw [if_pos ⟨g0, g1⟩]) rfl
/-- a byte more, where there is room -/
def rAdd (f : Nat → Int32) (n : Nat) (b : Int32) : Nat → Int32 := if n < 300 then upd f n (b &&& 255) else f
def rNum (n : Nat) : Nat := if n < 300 then n + 1 else n
theorem r_add (hW : Wc w c) (R : RW c h p q f n) (b : Int32) : TC w yX5_add cX5_add 2 none 0 [.ref p, .int b] h none (rowh c h p q (rAdd f n b) (rNum n)) := by
  refine TC.intro hW rfl (by decide +kernel) (Nat.le_of_ble_eq_true rfl) (fun z C Y E hn => ?_)
  unfold rAdd rNum at E
  have hn3 := R.2.2.2
  refine x_aload_n C dX5_add_0 rfl ?_
  refine e_get C Y kd_X5 1 (by decide) wf_X5_15 dX5_add_1 R.2.1 rfl ?_
  refine x_sipush (v := 300) C dX5_add_4 (by decide) ?_
  refine x_icmp_ge (tgt := 34) C dX5_add_7 (by decide) (fun c1 => ?_) (fun c1 => ?_)
  · have g : ¬ n < 300 := fun g => absurd (nI_lt g (by decide)) (Int32.not_lt.mpr c1)
    exact e_vret C E dX5_add_34 rfl (by rw [if_neg g, if_neg g, R.same])
  · have g : n < 300 := (nI_ltI (by omega) (by decide)).mp (Int32.not_le.mp c1)
    rw [if_pos g, if_pos g] at E
    refine x_aload_n C dX5_add_10 rfl ?_
    refine e_get C Y kd_X5 0 (by decide) wf_X5_9 dX5_add_11 R.2.1 rfl ?_
    refine x_aload_n C dX5_add_14 rfl ?_
    refine e_get C Y kd_X5 1 (by decide) wf_X5_15 dX5_add_15 R.2.1 rfl ?_
    refine x_iload_n C dX5_add_18 rfl ?_
    refine x_sipush (v := 255) C dX5_add_19 (by decide) ?_
    refine x_iand C dX5_add_22 ?_
    refine e_ist C Y dX5_add_23 R.2.2.1 (vp_in_nI g (by decide)) rfl ?_
    rw [nI_clamp (by omega)]
    have R1 : hs h q (.inl (c 0, 300, .inl (upd f n (b &&& 255)))) p = some (.inr (5, [.ref q, .int (nI n)])) := by rw [hs_ne R.1]; exact R.2.1
    refine x_aload_n C dX5_add_24 rfl ?_
    refine x_dup C dX5_add_25 rfl ?_
    refine e_get C Y kd_X5 1 (by decide) wf_X5_15 dX5_add_26 R1 rfl ?_
    refine x_iconst (v := 1) C dX5_add_29 (by decide) ?_
    refine x_iadd C dX5_add_30 ?_
    rw [nI_1]
    refine e_put C Y kd_X5 1 (by decide) rfl wf_X5_15 dX5_add_31 R1 (Nat.le_refl 2) rfl rfl rfl ?_
    exact e_vret C E dX5_add_34 rfl rfl
def rCut (n : Nat) (i : Int32) : Nat := if (0 : Int32) ≤ i ∧ i < nI n then i.toNatClampNeg else n
theorem r_cutTo (hW : Wc w c) (R : RW c h p q f n) (i : Int32) : TC w yX5_cutTo cX5_cutTo 2 none 0 [.ref p, .int i] h none (rowh c h p q f (rCut n i)) := by
  refine TC.intro hW rfl (by decide +kernel) (Nat.le_of_ble_eq_true rfl) (fun z C Y E hn => ?_)
  unfold rCut at E
  have hn3 := R.2.2.2
  refine x_iload_n C dX5_cutTo_0 rfl ?_
  refine x_if_lt (tgt := 17) C dX5_cutTo_1 (by decide) (fun c1 => ?_) (fun c1 => ?_)
  · exact e_vret C E dX5_cutTo_17 rfl (by rw [if_neg (fun g => absurd g.1 (Int32.not_le.mpr c1)), R.same])
  · refine x_iload_n C dX5_cutTo_4 rfl ?_
    refine x_aload_n C dX5_cutTo_5 rfl ?_
    refine e_get C Y kd_X5 1 (by decide) wf_X5_15 dX5_cutTo_6 R.2.1 rfl ?_
    refine x_icmp_ge (tgt := 17) C dX5_cutTo_9 (by decide) (fun c2 => ?_) (fun c2 => ?_)
    · exact e_vret C E dX5_cutTo_17 rfl (by rw [if_neg (fun g => absurd g.2 (Int32.not_lt.mpr c2)), R.same])
    · rw [if_pos ⟨Int32.not_lt.mp c1, Int32.not_le.mp c2⟩] at E
      obtain ⟨j, hj, rfl⟩ := nI_of c1
      rw [nI_clamp hj] at E
      refine x_aload_n C dX5_cutTo_12 rfl ?_
      refine x_iload_n C dX5_cutTo_13 rfl ?_
      refine e_put C Y kd_X5 1 (by decide) rfl wf_X5_15 dX5_cutTo_14 R.2.1 (Nat.le_refl 2) rfl rfl rfl ?_
      refine e_vret C E dX5_cutTo_17 rfl ?_
      unfold rowh
      rw [hs_same R.2.2.1]
      rfl
theorem r_dataSize (hW : Wc w c) (R : RW c h p q f n) : TC w yX5_dataSize cX5_dataSize 1 (some .int) 0 [.ref p] h (some (.int (nI n - 6 - 3))) h := by
  refine TC.intro hW rfl (by decide +kernel) (Nat.le_of_ble_eq_true rfl) (fun z C Y E hn => ?_)
  refine x_aload_n C dX5_dataSize_0 rfl ?_
  refine e_get C Y kd_X5 1 (by decide) wf_X5_15 dX5_dataSize_1 R.2.1 rfl ?_
  refine x_bipush (v := 6) C dX5_dataSize_4 (by decide) ?_
  refine x_isub C dX5_dataSize_6 ?_
  refine x_iconst (v := 3) C dX5_dataSize_7 (by decide) ?_
  refine x_isub C dX5_dataSize_8 ?_
  exact e_iret C E dX5_dataSize_9 rfl rfl
end Row
end
section
/-! The class: Row, its other methods. -/
section Rows
variable {z : Fx} {own : String} {cc : ByteArray} {kc ks pc : Nat} {L : List (Option Value)} {st : List Value}
theorem o_istoreE (C : Cx z own cc gw) {A : PH → Prop} {i : Nat} {x : Int32} {L' : List (Option Value)} (d : decode cc pc = .ok (.istore i, 2)) (g : i < z.nL) (e : lst1 L i (.int x) = L')
    (k : X z kc ks A (pc + 2) L' st) : X z kc ks A pc L (.int x :: st) := by subst e; exact x_istore C d g k
theorem o_istore_nE (C : Cx z own cc gw) {A : PH → Prop} {i : Fin 4} {x : Int32} {L' : List (Option Value)} (d : decode cc pc = .ok (.istore_n i, 1)) (g : (i : Nat) < z.nL) (e : lst1 L i (.int x) = L')
    (k : X z kc ks A (pc + 1) L' st) : X z kc ks A pc L (.int x :: st) := by subst e; exact x_istore_n C d g k
theorem o_lstoreE (C : Cx z own cc gw) {A : PH → Prop} {i : Nat} {x : Int64} {L' : List (Option Value)} (d : decode cc pc = .ok (.lstore i, 2)) (g : i + 1 < z.nL) (e : lst2 L i (.long x) = L')
    (k : X z kc ks A (pc + 2) L' st) : X z kc ks A pc L (.long x :: st) := by subst e; exact x_lstore C d g k
theorem o_lstore_nE (C : Cx z own cc gw) {A : PH → Prop} {i : Fin 4} {x : Int64} {L' : List (Option Value)} (d : decode cc pc = .ok (.lstore_n i, 1)) (g : (i : Nat) + 1 < z.nL) (e : lst2 L i (.long x) = L')
    (k : X z kc ks A (pc + 1) L' st) : X z kc ks A pc L (.long x :: st) := by subst e; exact x_lstore_n C d g k
theorem o_astoreE (C : Cx z own cc gw) {A : PH → Prop} {i x : Nat} {L' : List (Option Value)} (d : decode cc pc = .ok (.astore i, 2)) (g : i < z.nL) (e : lst1 L i (.ref x) = L')
    (k : X z kc ks A (pc + 2) L' st) : X z kc ks A pc L (.ref x :: st) := by subst e; exact x_astore C d g k
theorem o_astore_nE (C : Cx z own cc gw) {A : PH → Prop} {i : Fin 4} {x : Nat} {L' : List (Option Value)} (d : decode cc pc = .ok (.astore_n i, 1)) (g : (i : Nat) < z.nL) (e : lst1 L i (.ref x) = L')
    (k : X z kc ks A (pc + 1) L' st) : X z kc ks A pc L (.ref x :: st) := by subst e; exact x_astore_n C d g k
theorem o_iincE (C : Cx z own cc gw) {A : PH → Prop} {i : Nat} {n : Int} {x v : Int32} {L' : List (Option Value)} (d : decode cc pc = .ok (.iinc i n, 3)) (g : L[i]? = some (some (.int x))) (hv : x + Int32.ofInt n = v) (gn : i < z.nL) (e : lst1 L i (.int v) = L')
    (k : X z kc ks A (pc + 3) L' st) : X z kc ks A pc L st := by subst e; exact x_iinc C d g hv gn k
end Rows
theorem RW.cut {c : Nat → ClassId} {h : PH} {p q n : Nat} {f : Nat → Int32} (R : RW c h p q f n) (m : Nat) : hs h p (.inr (5, [.ref q, .int (nI m)])) = rowh c h p q f m := by
  unfold rowh
  rw [hs_same R.2.2.1]
theorem rNum_le {n : Nat} (h : n ≤ 300) : rNum n ≤ 300 := by unfold rNum; split <;> omega
section Row
variable {w : Wd} {c : Nat → ClassId} {h : PH} {p q n : Nat} {f : Nat → Int32}
theorem r_becomeSingle (hW : Wc w c) (R : RW c h p q f n) : TC w yX5_becomeSingle cX5_becomeSingle 1 none 1 [.ref p] h none (rowh c h p q (upd f 0 229) 1) := by
  refine TC.intro hW rfl (by decide +kernel) (Nat.le_of_ble_eq_true rfl) (fun z C Y E hn => ?_)
  have R1 : RW c (rowh c h p q f 0) p q f 0 := RW.of R.1 (by decide)
  refine x_aload_n C dX5_becomeSingle_0 rfl ?_
  refine x_iconst (v := 0) C dX5_becomeSingle_1 (by decide) ?_
  refine e_put C Y kd_X5 1 (by decide) rfl wf_X5_15 dX5_becomeSingle_2 R.2.1 (Nat.le_of_ble_eq_true rfl) rfl rfl (R.cut 0) ?_
  refine x_aload_n C dX5_becomeSingle_5 rfl ?_
  refine x_sipush (v := 229) C dX5_becomeSingle_6 (by decide) ?_
  refine e_callV C Y hW E (r_add hW R1 229) md_X5_add wi_X5_add ws_X5_add wm_X5_19 dX5_becomeSingle_9 rfl (by decide) (by decide) R1.2.1 rfl rfl (by simp [Value.category]) ?_
  refine e_vret C E dX5_becomeSingle_12 ?_ ?_
  exact rfl
  exact rw_rw R.1
/-- an address's first k bytes behind the row's -/
def by8 (a : Int64) (k : Nat) : Int32 := ((a.toUInt64 >>> (((8 : Int32) * nI k).toInt64.toUInt64 &&& Int64.toUInt64 63)).toInt64).toInt32
def adF (a : Int64) (f : Nat → Int32) (n : Nat) : Nat → (Nat → Int32) × Nat
  | 0 => (f, n)
  | k + 1 => (rAdd (adF a f n k).1 (adF a f n k).2 (by8 a k), rNum (adF a f n k).2)
theorem adF_le (a : Int64) (f : Nat → Int32) {n : Nat} (h : n ≤ 300) : ∀ k, (adF a f n k).2 ≤ 300
  | 0 => h
  | k + 1 => rNum_le (adF_le a f h k)
theorem r_addAddress (hW : Wc w c) (R : RW c h p q f n) (a : Int64) : TC w yX5_addAddress cX5_addAddress 4 none 1 [.ref p, .long a] h none (rowh c h p q (adF a f n 8).1 (adF a f n 8).2) := by
  refine TC.intro hW rfl (by decide +kernel) (Nat.le_of_ble_eq_true rfl) (fun z C Y E hn => ?_)
  have LP : ∀ (t k : Nat), k + t = 8 → X z 0 0 (EQ (rowh c h p q (adF a f n k).1 (adF a f n k).2)) 2 [some (.ref p), some (.long a), none, some (.int (nI k))] [] := by
    intro t
    induction t with
    | zero =>
      intro k hk
      obtain rfl : k = 8 := by omega
      refine x_iload_n C dX5_addAddress_2 rfl ?_
      refine x_bipush (v := 8) C dX5_addAddress_3 (by decide) ?_
      refine x_icmp_ge (tgt := 25) C dX5_addAddress_5 (by decide) (fun c5 => ?_) (fun c5 => absurd c5 (by decide))
      refine e_vret C E dX5_addAddress_25 ?_ ?_
      exact rfl
      exact rfl
    | succ t ih =>
      intro k hk
      have R1 : RW c (rowh c h p q (adF a f n k).1 (adF a f n k).2) p q (adF a f n k).1 (adF a f n k).2 := RW.of R.1 (adF_le a f R.2.2.2 k)
      have hr := r_add hW R1 (by8 a k)
      rw [rw_rw R.1] at hr
      refine x_iload_n C dX5_addAddress_2 rfl ?_
      refine x_bipush (v := 8) C dX5_addAddress_3 (by decide) ?_
      refine x_icmp_ge (tgt := 25) C dX5_addAddress_5 (by decide) (fun c5 => absurd c5 (Int32.not_le.mpr (nI_lt (show k < 8 by omega) (by decide)))) (fun c5 => ?_)
      refine x_aload_n C dX5_addAddress_8 rfl ?_
      refine x_lload_n C dX5_addAddress_9 rfl ?_
      refine x_bipush (v := 8) C dX5_addAddress_10 (by decide) ?_
      refine x_iload_n C dX5_addAddress_12 rfl ?_
      refine x_imul C dX5_addAddress_13 ?_
      refine x_lushr C dX5_addAddress_14 ?_
      refine x_l2i C dX5_addAddress_15 ?_
      refine e_callV C Y hW E (hr) md_X5_add wi_X5_add ws_X5_add wm_X5_19 dX5_addAddress_16 rfl (by decide) (by decide) R1.2.1 rfl rfl (by simp [Value.category]) ?_
      refine o_iincE (v := nI (k + 1)) (L' := [some _, some _, none, some _]) C dX5_addAddress_19 rfl (nI_1 k) (by rw [hn]; decide) rfl ?_
      refine x_goto (tgt := 2) C dX5_addAddress_22 (by decide) ?_
      exact ih (k + 1) (by omega)
  have h0 := LP 8 0 rfl
  rw [show (adF a f n 0) = (f, n) from rfl, R.same] at h0
  refine x_iconst (v := 0) C dX5_addAddress_0 (by decide) ?_
  refine o_istore_nE (L' := [some _, some _, none, some _]) C dX5_addAddress_1 (by rw [hn]; decide) rfl ?_
  exact h0
/-- the sum of k cells from a on -/
def sumR (f : Nat → Int32) (a : Nat) : Nat → Int32
  | 0 => 0
  | k + 1 => sumR f a k + f (a + k)
theorem rAt_in {i : Nat} (hi : i < n) (hn : n ≤ 300) : rAt f n (nI i) = f i := by
  unfold rAt
  rw [if_pos ⟨nI_le (a := 0) (Nat.zero_le i) (by omega), nI_lt hi (by omega)⟩, nI_clamp (by omega)]
theorem r_sum (hW : Wc w c) (R : RW c h p q f n) (a b : Nat) (ha : a ≤ 300) (hb : b ≤ 600) : TC w yX5_sum cX5_sum 5 (some .int) 1 [.ref p, .int (nI a), .int (nI b)] h (some (.int (sumR f a (min b n - a) &&& 255))) h := by
  refine TC.intro hW rfl (by decide +kernel) (Nat.le_of_ble_eq_true rfl) (fun z C Y E hn => ?_)
  have hn3 := R.2.2.2
  have LP : ∀ (t k : Nat), k + t = min b n - a → X z 0 0 (EQ h) 5 [some (.ref p), some (.int (nI a)), some (.int (nI b)), some (.int (sumR f a k)), some (.int (nI (a + k)))] [] := by
    intro t
    induction t with
    | zero =>
      intro k hk
      have ek : k = min b n - a := by omega
      have T35 : X z 0 0 (EQ h) 35 [some (.ref p), some (.int (nI a)), some (.int (nI b)), some (.int (sumR f a k)), some (.int (nI (a + k)))] [] := by
        refine x_iload_n C dX5_sum_35 rfl ?_
        refine x_sipush (v := 255) C dX5_sum_36 (by decide) ?_
        refine x_iand C dX5_sum_39 ?_
        refine e_iret C E dX5_sum_40 ?_ ?_
        rw [ek]
        exact rfl
      refine x_iload C dX5_sum_5 rfl ?_
      refine x_iload_n C dX5_sum_7 rfl ?_
      refine x_icmp_ge (tgt := 35) C dX5_sum_8 (by decide) (fun c8 => T35) (fun c8 => ?_)
      have g8 : a + k < b := (nI_ltI (by omega) (by omega)).mp (Int32.not_le.mp c8)
      refine x_iload C dX5_sum_11 rfl ?_
      refine x_aload_n C dX5_sum_13 rfl ?_
      refine e_get C Y kd_X5 1 (by decide) wf_X5_15 dX5_sum_14 R.2.1 rfl ?_
      refine x_icmp_ge (tgt := 35) C dX5_sum_17 (by decide) (fun c17 => ?_) (fun c17 => absurd c17 (not_not_intro (nI_le (show n ≤ a + k by omega) (by omega))))
      exact T35
    | succ t ih =>
      intro k hk
      have hr := r_at hW R (nI (a + k))
      rw [rAt_in (by omega) hn3] at hr
      refine x_iload C dX5_sum_5 rfl ?_
      refine x_iload_n C dX5_sum_7 rfl ?_
      refine x_icmp_ge (tgt := 35) C dX5_sum_8 (by decide) (fun c8 => absurd c8 (Int32.not_le.mpr (nI_lt (show a + k < b by omega) (by omega)))) (fun c8 => ?_)
      refine x_iload C dX5_sum_11 rfl ?_
      refine x_aload_n C dX5_sum_13 rfl ?_
      refine e_get C Y kd_X5 1 (by decide) wf_X5_15 dX5_sum_14 R.2.1 rfl ?_
      refine x_icmp_ge (tgt := 35) C dX5_sum_17 (by decide) (fun c17 => absurd c17 (Int32.not_le.mpr (nI_lt (show a + k < n by omega) (by omega)))) (fun c17 => ?_)
      refine x_iload_n C dX5_sum_20 rfl ?_
      refine x_aload_n C dX5_sum_21 rfl ?_
      refine x_iload C dX5_sum_22 rfl ?_
      refine e_callV C Y hW E (hr) md_X5_at wi_X5_at ws_X5_at wm_X5_23 dX5_sum_24 rfl (by decide) (by decide) R.2.1 rfl rfl (by simp [Value.category]) ?_
      refine x_iadd C dX5_sum_27 ?_
      refine o_istore_nE (L' := [some _, some _, some _, some _, some _]) C dX5_sum_28 (by rw [hn]; decide) rfl ?_
      refine o_iincE (v := nI (a + (k + 1))) (L' := [some _, some _, some _, some _, some _]) C dX5_sum_29 rfl (nI_1 (a + k)) (by rw [hn]; decide) rfl ?_
      refine x_goto (tgt := 5) C dX5_sum_32 (by decide) ?_
      exact ih (k + 1) (by omega)
  refine x_iconst (v := 0) C dX5_sum_0 (by decide) ?_
  refine o_istore_nE (L' := [some _, some _, some _, some _, none]) C dX5_sum_1 (by rw [hn]; decide) rfl ?_
  refine x_iload_n C dX5_sum_2 rfl ?_
  refine o_istoreE (L' := [some _, some _, some _, some _, some _]) C dX5_sum_3 (by rw [hn]; decide) rfl ?_
  exact LP _ 0 (Nat.zero_add _)
end Row
end
section
/-! The class: Row, become and addressAt. -/
/-- k bytes of g in the place of f's first -/
def bcF (f g : Nat → Int32) : Nat → Nat → Int32
  | 0 => f
  | k + 1 => upd (bcF f g k) k (g k &&& 255)
section Row
variable {w : Wd} {c : Nat → ClassId} {h : PH} {p q n : Nat} {f : Nat → Int32}
theorem r_become (hW : Wc w c) (R : RW c h p q f n) {p2 q2 m : Nat} {g : Nat → Int32} (R2 : RW c h p2 q2 g m) (a1 : p2 ≠ p) (a2 : p2 ≠ q) (a3 : q2 ≠ p) (a4 : q2 ≠ q) : TC w yX5_become cX5_become 3 none 1 [.ref p, .ref p2] h none (rowh c h p q (bcF f g m) m) := by
  refine TC.intro hW rfl (by decide +kernel) (Nat.le_of_ble_eq_true rfl) (fun z C Y E hn => ?_)
  have hm3 := R2.2.2.2
  have LP : ∀ (t k : Nat), k + t = m → X z 0 0 (EQ (rowh c h p q (bcF f g k) k)) 7 [some (.ref p), some (.ref p2), some (.int (nI k))] [] := by
    intro t
    induction t with
    | zero =>
      intro k hk
      obtain rfl : k = m := by omega
      have Q : rowh c h p q (bcF f g k) k p2 = some (.inr (5, [.ref q2, .int (nI k)])) := (rw_ne a1 a2).trans R2.2.1
      refine x_iload_n C dX5_become_7 rfl ?_
      refine x_aload_n C dX5_become_8 rfl ?_
      refine e_get C Y kd_X5 1 (by decide) wf_X5_15 dX5_become_9 Q rfl ?_
      refine x_icmp_ge (tgt := 31) C dX5_become_12 (by decide) (fun c12 => ?_) (fun c12 => absurd c12 (not_not_intro Int32.le_rfl))
      refine e_vret C E dX5_become_31 ?_ ?_
      exact rfl
      exact rfl
    | succ t ih =>
      intro k hk
      have Q : rowh c h p q (bcF f g k) k p2 = some (.inr (5, [.ref q2, .int (nI m)])) := (rw_ne a1 a2).trans R2.2.1
      have Q2 : rowh c h p q (bcF f g k) k q2 = some (.inl (c 0, 300, .inl g)) := (rw_ne a3 a4).trans R2.2.2.1
      have R1 : RW c (rowh c h p q (bcF f g k) k) p q (bcF f g k) k := RW.of R.1 (by omega)
      have hr := r_add hW R1 (g k)
      rw [rw_rw R.1, show rNum k = k + 1 from if_pos (by omega), show rAdd (bcF f g k) k (g k) = bcF f g (k + 1) from if_pos (by omega)] at hr
      refine x_iload_n C dX5_become_7 rfl ?_
      refine x_aload_n C dX5_become_8 rfl ?_
      refine e_get C Y kd_X5 1 (by decide) wf_X5_15 dX5_become_9 Q rfl ?_
      refine x_icmp_ge (tgt := 31) C dX5_become_12 (by decide) (fun c12 => absurd c12 (Int32.not_le.mpr (nI_lt (show k < m by omega) (by omega)))) (fun c12 => ?_)
      refine x_aload_n C dX5_become_15 rfl ?_
      refine x_aload_n C dX5_become_16 rfl ?_
      refine e_get C Y kd_X5 0 (by decide) wf_X5_9 dX5_become_17 Q rfl ?_
      refine x_iload_n C dX5_become_20 rfl ?_
      refine e_ild C Y dX5_become_21 Q2 (vp_in_nI (by omega) (by decide)) ?_
      rw [nI_clamp (by omega)]
      refine e_callV C Y hW E (hr) md_X5_add wi_X5_add ws_X5_add wm_X5_19 dX5_become_22 rfl (by decide) (by decide) R1.2.1 rfl rfl (by simp [Value.category]) ?_
      refine o_iincE (v := nI (k + 1)) (L' := [some _, some _, some _]) C dX5_become_25 rfl (nI_1 k) (by rw [hn]; decide) rfl ?_
      refine x_goto (tgt := 7) C dX5_become_28 (by decide) ?_
      exact ih (k + 1) (by omega)
  refine x_aload_n C dX5_become_0 rfl ?_
  refine x_iconst (v := 0) C dX5_become_1 (by decide) ?_
  refine e_put C Y kd_X5 1 (by decide) rfl wf_X5_15 dX5_become_2 R.2.1 (Nat.le_of_ble_eq_true rfl) rfl rfl (R.cut 0) ?_
  refine x_iconst (v := 0) C dX5_become_5 (by decide) ?_
  refine o_istore_nE (L' := [some _, some _, some _]) C dX5_become_6 (by rw [hn]; decide) rfl ?_
  exact LP m 0 (Nat.zero_add m)
/-- bytes from i on, the last first, k of them -/
def adA (f : Nat → Int32) (n i : Nat) : Nat → Int64
  | 0 => 0
  | k + 1 => (adA f n i k <<< ((8 : Int32).toInt64 &&& 63)) ||| (rAt f n (nI (i + (7 - k))) &&& 255).toInt64
theorem nI_m1 (j : Nat) : nI (j + 1) + Int32.ofInt (-1) = nI j := by
  rw [← nI_1, Int32.add_assoc, show (1 : Int32) + Int32.ofInt (-1) = 0 by decide, Int32.add_zero]
theorem r_addressAt (hW : Wc w c) (R : RW c h p q f n) (i : Nat) (hi : i ≤ 300) : TC w yX5_addressAt cX5_addressAt 5 (some .long) 1 [.ref p, .int (nI i)] h (some (.long (adA f n i 8))) h := by
  refine TC.intro hW rfl (by decide +kernel) (Nat.le_of_ble_eq_true rfl) (fun z C Y E hn => ?_)
  have T36 : X z 0 0 (EQ h) 6 [some (.ref p), some (.int (nI i)), some (.long (adA f n i 8)), none, some (.int (-1))] [] := by
    refine x_iload C dX5_addressAt_6 rfl ?_
    refine x_if_lt (tgt := 36) C dX5_addressAt_8 (by decide) (fun c8 => ?_) (fun c8 => absurd c8 (by decide))
    refine x_lload_n C dX5_addressAt_36 rfl ?_
    refine e_lret C E dX5_addressAt_37 ?_ ?_
    exact rfl
    exact rfl
  have LP : ∀ (t k : Nat), k + t = 7 → X z 0 0 (EQ h) 6 [some (.ref p), some (.int (nI i)), some (.long (adA f n i k)), none, some (.int (nI (7 - k)))] [] := by
    intro t
    induction t with
    | zero =>
      intro k hk
      obtain rfl : k = 7 := by omega
      have hr := r_at hW R (nI (i + (7 - 7)))
      refine x_iload C dX5_addressAt_6 rfl ?_
      refine x_if_lt (tgt := 36) C dX5_addressAt_8 (by decide) (fun c8 => absurd c8 (by decide)) (fun c8 => ?_)
      refine x_lload_n C dX5_addressAt_11 rfl ?_
      refine x_bipush (v := 8) C dX5_addressAt_12 (by decide) ?_
      refine x_lshl C dX5_addressAt_14 ?_
      refine x_aload_n C dX5_addressAt_15 rfl ?_
      refine x_iload_n C dX5_addressAt_16 rfl ?_
      refine x_iload C dX5_addressAt_17 rfl ?_
      refine x_iadd C dX5_addressAt_19 ?_
      rw [nI_add]
      refine e_callV C Y hW E (hr) md_X5_at wi_X5_at ws_X5_at wm_X5_23 dX5_addressAt_20 rfl (by decide) (by decide) R.2.1 rfl rfl (by simp [Value.category]) ?_
      refine x_sipush (v := 255) C dX5_addressAt_23 (by decide) ?_
      refine x_iand C dX5_addressAt_26 ?_
      refine x_i2l C dX5_addressAt_27 ?_
      refine x_lor C dX5_addressAt_28 ?_
      refine o_lstore_nE (L' := [some _, some _, some _, none, some _]) C dX5_addressAt_29 (by rw [hn]; decide) rfl ?_
      refine o_iincE (v := -1) (L' := [some _, some _, some _, none, some _]) C dX5_addressAt_30 rfl (by decide) (by rw [hn]; decide) rfl ?_
      refine x_goto (tgt := 6) C dX5_addressAt_33 (by decide) ?_
      exact T36
    | succ t ih =>
      intro k hk
      have hr := r_at hW R (nI (i + (7 - k)))
      refine x_iload C dX5_addressAt_6 rfl ?_
      refine x_if_lt (tgt := 36) C dX5_addressAt_8 (by decide) (fun c8 => absurd c8 (fun q => absurd q (nI_pos (by omega)))) (fun c8 => ?_)
      refine x_lload_n C dX5_addressAt_11 rfl ?_
      refine x_bipush (v := 8) C dX5_addressAt_12 (by decide) ?_
      refine x_lshl C dX5_addressAt_14 ?_
      refine x_aload_n C dX5_addressAt_15 rfl ?_
      refine x_iload_n C dX5_addressAt_16 rfl ?_
      refine x_iload C dX5_addressAt_17 rfl ?_
      refine x_iadd C dX5_addressAt_19 ?_
      rw [nI_add]
      refine e_callV C Y hW E (hr) md_X5_at wi_X5_at ws_X5_at wm_X5_23 dX5_addressAt_20 rfl (by decide) (by decide) R.2.1 rfl rfl (by simp [Value.category]) ?_
      refine x_sipush (v := 255) C dX5_addressAt_23 (by decide) ?_
      refine x_iand C dX5_addressAt_26 ?_
      refine x_i2l C dX5_addressAt_27 ?_
      refine x_lor C dX5_addressAt_28 ?_
      refine o_lstore_nE (L' := [some _, some _, some _, none, some _]) C dX5_addressAt_29 (by rw [hn]; decide) rfl ?_
      refine o_iincE (v := nI (7 - (k + 1))) (L' := [some _, some _, some _, none, some _]) C dX5_addressAt_30 rfl (by rw [show 7 - k = 7 - (k + 1) + 1 by omega]; exact nI_m1 _) (by rw [hn]; decide) rfl ?_
      refine x_goto (tgt := 6) C dX5_addressAt_33 (by decide) ?_
      exact ih (k + 1) (by omega)
  refine x_lconst (v := 0) C dX5_addressAt_0 (by decide) ?_
  refine o_lstore_nE (L' := [some _, some _, some _, none, none]) C dX5_addressAt_1 (by rw [hn]; decide) rfl ?_
  refine x_bipush (v := 7) C dX5_addressAt_2 (by decide) ?_
  refine o_istoreE (L' := [some _, some _, some _, none, some _]) C dX5_addressAt_4 (by rw [hn]; decide) rfl ?_
  exact LP 7 0 rfl
end Row
end
section
/-! The class: Row, what is a frame. -/
section Row
variable {w : Wd} {c : Nat → ClassId} {h : PH} {p q n : Nat} {f : Nat → Int32}
abbrev rShort (f : Nat → Int32) (n : Nat) : Prop := nI n = 5 ∧ rAt f n 0 = 16 ∧ rAt f n 3 = sumR f 1 (min 3 n - 1) &&& 255 ∧ rAt f n 4 = 22
theorem r_isShortFrame (hW : Wc w c) (R : RW c h p q f n) : TC w yX5_isShortFrame cX5_isShortFrame 1 (some .boolean) 2 [.ref p] h (some (.int (bI (rShort f n)))) h := by
  refine TC.intro hW rfl (by decide +kernel) (Nat.le_of_ble_eq_true rfl) (fun z C Y E hn => ?_)
  have s13 := r_sum hW R 1 3 (by decide) (by decide)
  have T46 : ¬ rShort f n → X z 0 0 (EQ h) 46 [some (.ref p)] [] := fun g => by
    refine x_iconst (v := 0) C dX5_isShortFrame_46 (by decide) ?_
    refine e_zret C E dX5_isShortFrame_47 (by decide) ?_ ?_
    all_goals first | exact bI_vf g | exact rfl
  refine x_aload_n C dX5_isShortFrame_0 rfl ?_
  refine e_get C Y kd_X5 1 (by decide) wf_X5_15 dX5_isShortFrame_1 R.2.1 rfl ?_
  refine x_iconst (v := 5) C dX5_isShortFrame_4 (by decide) ?_
  refine x_icmp_ne (tgt := 46) C dX5_isShortFrame_5 (by decide) (fun c5 => ?_) (fun c5 => ?_)
  · skip
    exact T46 (fun g => by simp_all)
  · skip
    refine x_aload_n C dX5_isShortFrame_8 rfl ?_
    refine x_iconst (v := 0) C dX5_isShortFrame_9 (by decide) ?_
    refine e_callV C Y hW E (r_at hW R 0) md_X5_at wi_X5_at ws_X5_at wm_X5_23 dX5_isShortFrame_10 rfl (by decide) (by decide) R.2.1 rfl rfl (by simp [Value.category]) ?_
    refine x_bipush (v := 16) C dX5_isShortFrame_13 (by decide) ?_
    refine x_icmp_ne (tgt := 46) C dX5_isShortFrame_15 (by decide) (fun c15 => ?_) (fun c15 => ?_)
    · skip
      exact T46 (fun g => by simp_all)
    · skip
      refine x_aload_n C dX5_isShortFrame_18 rfl ?_
      refine x_iconst (v := 3) C dX5_isShortFrame_19 (by decide) ?_
      refine e_callV C Y hW E (r_at hW R 3) md_X5_at wi_X5_at ws_X5_at wm_X5_23 dX5_isShortFrame_20 rfl (by decide) (by decide) R.2.1 rfl rfl (by simp [Value.category]) ?_
      refine x_aload_n C dX5_isShortFrame_23 rfl ?_
      refine x_iconst (v := 1) C dX5_isShortFrame_24 (by decide) ?_
      refine x_iconst (v := 3) C dX5_isShortFrame_25 (by decide) ?_
      refine e_callV C Y hW E (s13) md_X5_sum wi_X5_sum ws_X5_sum wm_X5_27 dX5_isShortFrame_26 rfl (by decide) (by decide) R.2.1 rfl rfl (by simp [Value.category]) ?_
      refine x_icmp_ne (tgt := 46) C dX5_isShortFrame_29 (by decide) (fun c29 => ?_) (fun c29 => ?_)
      · skip
        exact T46 (fun g => by simp_all)
      · skip
        refine x_aload_n C dX5_isShortFrame_32 rfl ?_
        refine x_iconst (v := 4) C dX5_isShortFrame_33 (by decide) ?_
        refine e_callV C Y hW E (r_at hW R 4) md_X5_at wi_X5_at ws_X5_at wm_X5_23 dX5_isShortFrame_34 rfl (by decide) (by decide) R.2.1 rfl rfl (by simp [Value.category]) ?_
        refine x_bipush (v := 22) C dX5_isShortFrame_37 (by decide) ?_
        refine x_icmp_ne (tgt := 46) C dX5_isShortFrame_39 (by decide) (fun c39 => ?_) (fun c39 => ?_)
        · skip
          exact T46 (fun g => by simp_all)
        · skip
          refine x_iconst (v := 1) C dX5_isShortFrame_42 (by decide) ?_
          refine x_goto (tgt := 47) C dX5_isShortFrame_43 (by decide) ?_
          refine e_zret C E dX5_isShortFrame_47 (by decide) ?_ ?_
          all_goals first | exact bI_vt ⟨c5, c15, c29, c39⟩ | exact rfl
abbrev rLong (f : Nat → Int32) (n : Nat) : Prop := (3 ≤ rAt f n 1 ∧ rAt f n 1 ≤ 252) ∧ nI n = rAt f n 1 + 6 ∧ rAt f n 0 = 104 ∧ rAt f n 2 = rAt f n 1 ∧ rAt f n 3 = 104 ∧ rAt f n (rAt f n 1 + 4) = sumR f 4 (min ((rAt f n 1).toNatClampNeg + 4) n - 4) &&& 255 ∧ rAt f n (rAt f n 1 + 5) = 22
theorem r_isLongFrame (hW : Wc w c) (R : RW c h p q f n) : TC w yX5_isLongFrame cX5_isLongFrame 2 (some .boolean) 2 [.ref p] h (some (.int (bI (rLong f n)))) h := by
  refine TC.intro hW rfl (by decide +kernel) (Nat.le_of_ble_eq_true rfl) (fun z C Y E hn => ?_)
  have s4 : 3 ≤ rAt f n 1 → rAt f n 1 ≤ 252 → TC w yX5_sum cX5_sum 5 (some .int) 1 [.ref p, .int 4, .int (rAt f n 1 + 4)] h (some (.int (sumR f 4 (min ((rAt f n 1).toNatClampNeg + 4) n - 4) &&& 255))) h := fun g1 g2 => by
    obtain ⟨L, h1, h2, e⟩ := in_nI (lo := 3) (hi := 252) (by decide) ⟨g1, g2⟩ (by decide)
    rw [e, nI_clamp (by omega), show nI L + 4 = nI (L + 4) from nI_add L 4]
    exact r_sum hW R 4 (L + 4) (by decide) (by omega)
  have T92 : ¬ rLong f n → X z 0 0 (EQ h) 92 [some (.ref p), some (.int (rAt f n 1))] [] := fun g => by
    refine x_iconst (v := 0) C dX5_isLongFrame_92 (by decide) ?_
    refine e_zret C E dX5_isLongFrame_93 (by decide) ?_ ?_
    all_goals first | exact bI_vf g | exact rfl
  refine x_aload_n C dX5_isLongFrame_0 rfl ?_
  refine x_iconst (v := 1) C dX5_isLongFrame_1 (by decide) ?_
  refine e_callV C Y hW E (r_at hW R 1) md_X5_at wi_X5_at ws_X5_at wm_X5_23 dX5_isLongFrame_2 rfl (by decide) (by decide) R.2.1 rfl rfl (by simp [Value.category]) ?_
  refine o_istore_nE (L' := [some _, some _]) C dX5_isLongFrame_5 (by rw [hn]; decide) rfl ?_
  refine x_iload_n C dX5_isLongFrame_6 rfl ?_
  refine x_iconst (v := 3) C dX5_isLongFrame_7 (by decide) ?_
  refine x_icmp_lt (tgt := 92) C dX5_isLongFrame_8 (by decide) (fun c8 => ?_) (fun c8 => ?_)
  · skip
    exact T92 (fun g => by first | exact absurd g.1.1 (Int32.not_le.mpr c8) | exact absurd g.1.2 (Int32.not_le.mpr c15) | exact c26 g.2.1 | exact c36 g.2.2.1 | exact c45 g.2.2.2.1 | exact c55 g.2.2.2.2.1 | exact c73 g.2.2.2.2.2.1 | exact c85 g.2.2.2.2.2.2)
  · skip
    refine x_iload_n C dX5_isLongFrame_11 rfl ?_
    refine x_sipush (v := 252) C dX5_isLongFrame_12 (by decide) ?_
    refine x_icmp_gt (tgt := 92) C dX5_isLongFrame_15 (by decide) (fun c15 => ?_) (fun c15 => ?_)
    · skip
      exact T92 (fun g => by first | exact absurd g.1.1 (Int32.not_le.mpr c8) | exact absurd g.1.2 (Int32.not_le.mpr c15) | exact c26 g.2.1 | exact c36 g.2.2.1 | exact c45 g.2.2.2.1 | exact c55 g.2.2.2.2.1 | exact c73 g.2.2.2.2.2.1 | exact c85 g.2.2.2.2.2.2)
    · skip
      refine x_aload_n C dX5_isLongFrame_18 rfl ?_
      refine e_get C Y kd_X5 1 (by decide) wf_X5_15 dX5_isLongFrame_19 R.2.1 rfl ?_
      refine x_iload_n C dX5_isLongFrame_22 rfl ?_
      refine x_bipush (v := 6) C dX5_isLongFrame_23 (by decide) ?_
      refine x_iadd C dX5_isLongFrame_25 ?_
      refine x_icmp_ne (tgt := 92) C dX5_isLongFrame_26 (by decide) (fun c26 => ?_) (fun c26 => ?_)
      · skip
        exact T92 (fun g => by first | exact absurd g.1.1 (Int32.not_le.mpr c8) | exact absurd g.1.2 (Int32.not_le.mpr c15) | exact c26 g.2.1 | exact c36 g.2.2.1 | exact c45 g.2.2.2.1 | exact c55 g.2.2.2.2.1 | exact c73 g.2.2.2.2.2.1 | exact c85 g.2.2.2.2.2.2)
      · skip
        refine x_aload_n C dX5_isLongFrame_29 rfl ?_
        refine x_iconst (v := 0) C dX5_isLongFrame_30 (by decide) ?_
        refine e_callV C Y hW E (r_at hW R 0) md_X5_at wi_X5_at ws_X5_at wm_X5_23 dX5_isLongFrame_31 rfl (by decide) (by decide) R.2.1 rfl rfl (by simp [Value.category]) ?_
        refine x_bipush (v := 104) C dX5_isLongFrame_34 (by decide) ?_
        refine x_icmp_ne (tgt := 92) C dX5_isLongFrame_36 (by decide) (fun c36 => ?_) (fun c36 => ?_)
        · skip
          exact T92 (fun g => by first | exact absurd g.1.1 (Int32.not_le.mpr c8) | exact absurd g.1.2 (Int32.not_le.mpr c15) | exact c26 g.2.1 | exact c36 g.2.2.1 | exact c45 g.2.2.2.1 | exact c55 g.2.2.2.2.1 | exact c73 g.2.2.2.2.2.1 | exact c85 g.2.2.2.2.2.2)
        · skip
          refine x_aload_n C dX5_isLongFrame_39 rfl ?_
          refine x_iconst (v := 2) C dX5_isLongFrame_40 (by decide) ?_
          refine e_callV C Y hW E (r_at hW R 2) md_X5_at wi_X5_at ws_X5_at wm_X5_23 dX5_isLongFrame_41 rfl (by decide) (by decide) R.2.1 rfl rfl (by simp [Value.category]) ?_
          refine x_iload_n C dX5_isLongFrame_44 rfl ?_
          refine x_icmp_ne (tgt := 92) C dX5_isLongFrame_45 (by decide) (fun c45 => ?_) (fun c45 => ?_)
          · skip
            exact T92 (fun g => by first | exact absurd g.1.1 (Int32.not_le.mpr c8) | exact absurd g.1.2 (Int32.not_le.mpr c15) | exact c26 g.2.1 | exact c36 g.2.2.1 | exact c45 g.2.2.2.1 | exact c55 g.2.2.2.2.1 | exact c73 g.2.2.2.2.2.1 | exact c85 g.2.2.2.2.2.2)
          · skip
            refine x_aload_n C dX5_isLongFrame_48 rfl ?_
            refine x_iconst (v := 3) C dX5_isLongFrame_49 (by decide) ?_
            refine e_callV C Y hW E (r_at hW R 3) md_X5_at wi_X5_at ws_X5_at wm_X5_23 dX5_isLongFrame_50 rfl (by decide) (by decide) R.2.1 rfl rfl (by simp [Value.category]) ?_
            refine x_bipush (v := 104) C dX5_isLongFrame_53 (by decide) ?_
            refine x_icmp_ne (tgt := 92) C dX5_isLongFrame_55 (by decide) (fun c55 => ?_) (fun c55 => ?_)
            · skip
              exact T92 (fun g => by first | exact absurd g.1.1 (Int32.not_le.mpr c8) | exact absurd g.1.2 (Int32.not_le.mpr c15) | exact c26 g.2.1 | exact c36 g.2.2.1 | exact c45 g.2.2.2.1 | exact c55 g.2.2.2.2.1 | exact c73 g.2.2.2.2.2.1 | exact c85 g.2.2.2.2.2.2)
            · skip
              refine x_aload_n C dX5_isLongFrame_58 rfl ?_
              refine x_iload_n C dX5_isLongFrame_59 rfl ?_
              refine x_iconst (v := 4) C dX5_isLongFrame_60 (by decide) ?_
              refine x_iadd C dX5_isLongFrame_61 ?_
              refine e_callV C Y hW E (r_at hW R (rAt f n 1 + 4)) md_X5_at wi_X5_at ws_X5_at wm_X5_23 dX5_isLongFrame_62 rfl (by decide) (by decide) R.2.1 rfl rfl (by simp [Value.category]) ?_
              refine x_aload_n C dX5_isLongFrame_65 rfl ?_
              refine x_iconst (v := 4) C dX5_isLongFrame_66 (by decide) ?_
              refine x_iload_n C dX5_isLongFrame_67 rfl ?_
              refine x_iconst (v := 4) C dX5_isLongFrame_68 (by decide) ?_
              refine x_iadd C dX5_isLongFrame_69 ?_
              refine e_callV C Y hW E (s4 (Int32.not_lt.mp c8) (Int32.not_lt.mp c15)) md_X5_sum wi_X5_sum ws_X5_sum wm_X5_27 dX5_isLongFrame_70 rfl (by decide) (by decide) R.2.1 rfl rfl (by simp [Value.category]) ?_
              refine x_icmp_ne (tgt := 92) C dX5_isLongFrame_73 (by decide) (fun c73 => ?_) (fun c73 => ?_)
              · skip
                exact T92 (fun g => by first | exact absurd g.1.1 (Int32.not_le.mpr c8) | exact absurd g.1.2 (Int32.not_le.mpr c15) | exact c26 g.2.1 | exact c36 g.2.2.1 | exact c45 g.2.2.2.1 | exact c55 g.2.2.2.2.1 | exact c73 g.2.2.2.2.2.1 | exact c85 g.2.2.2.2.2.2)
              · skip
                refine x_aload_n C dX5_isLongFrame_76 rfl ?_
                refine x_iload_n C dX5_isLongFrame_77 rfl ?_
                refine x_iconst (v := 5) C dX5_isLongFrame_78 (by decide) ?_
                refine x_iadd C dX5_isLongFrame_79 ?_
                refine e_callV C Y hW E (r_at hW R (rAt f n 1 + 5)) md_X5_at wi_X5_at ws_X5_at wm_X5_23 dX5_isLongFrame_80 rfl (by decide) (by decide) R.2.1 rfl rfl (by simp [Value.category]) ?_
                refine x_bipush (v := 22) C dX5_isLongFrame_83 (by decide) ?_
                refine x_icmp_ne (tgt := 92) C dX5_isLongFrame_85 (by decide) (fun c85 => ?_) (fun c85 => ?_)
                · skip
                  exact T92 (fun g => by first | exact absurd g.1.1 (Int32.not_le.mpr c8) | exact absurd g.1.2 (Int32.not_le.mpr c15) | exact c26 g.2.1 | exact c36 g.2.2.1 | exact c45 g.2.2.2.1 | exact c55 g.2.2.2.2.1 | exact c73 g.2.2.2.2.2.1 | exact c85 g.2.2.2.2.2.2)
                · skip
                  refine x_iconst (v := 1) C dX5_isLongFrame_88 (by decide) ?_
                  refine x_goto (tgt := 93) C dX5_isLongFrame_89 (by decide) ?_
                  refine e_zret C E dX5_isLongFrame_93 (by decide) ?_ ?_
                  all_goals first | exact bI_vt ⟨⟨Int32.not_lt.mp c8, Int32.not_lt.mp c15⟩, c26, c36, c45, c55, c73, c85⟩ | exact rfl
end Row
end
